/** Objects with as few looms as can be, and as many. */
final class Loomed {
    private Loomed() {
    }

    static void one(DewLooms x) {
        Due.write(x, "l0,0,9;h3,0;s2;m3;y5;");
        x.lay();
    }

    static void oneInNight(DewLooms x) {
        one(x);
        x.pass(1);
    }

    static void six(DewLooms x) {
        Due.write(x, "l0,9,1;l1,8,2;l2,7,3;l3,5,4;l0,1,5;l1,0,6;h3,0;s2;m3;y5;");
        x.lay();
    }

    static void sixInNight(DewLooms x) {
        six(x);
        x.pass(1);
    }
}
