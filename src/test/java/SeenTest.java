/** Promises 21 to 24: what is seen, whose cow it was, how cold an hour was. */
public final class SeenTest {
    private static final int BAD = -1, FULL = -3;
    private static final Due due = new Due();

    public static void main(String[] args) {
        promise21Seen();
        promise22Forget();
        promise23Cows();
        promise23CowsOnNone();
        promise23CowsFromNow();
        promise24Colds();
        promise24ColdsOfOneHourAlone();
        promise24ColdsBehindTwelveHours();
        promise24ColdsInTheSun();
        due.end();
    }

    private static void promise21Seen() {
        DewLooms x = new DewLooms();
        due.is("seen(5, 0, 0)", x.seen(5, 0, 0), BAD);
        due.is("seen(-1, 0, 0)", x.seen(-1, 0, 0), BAD);
        due.is("seen(0, 28, 0)", x.seen(0, 28, 0), BAD);
        due.is("seen(0, -1, 0)", x.seen(0, -1, 0), BAD);
        due.is("seen(0, 0, 13)", x.seen(0, 0, 13), BAD);
        due.is("seen(0, 0, -1)", x.seen(0, 0, -1), BAD);
        due.is("none seen", x.count(7), 0);
        due.is("seen(0, 27, 12)", x.seen(0, 27, 12), 1);
        for (int many = 2; many <= 6; many++) {
            due.is("seen(4, 0, 0)", x.seen(4, 0, 0), many);
        }
        due.is("a seventh", x.seen(4, 0, 0), FULL);
        due.is("BAD before FULL", x.seen(5, 0, 0), BAD);
        due.is("count(7)", x.count(7), 6);
        due.is("what is seen is not done", x.count(8), 0);
    }

    private static void promise22Forget() {
        DewLooms x = new DewLooms();
        due.is("forget() of none", x.forget(), 0);
        x.seen(0, 27, 0);
        x.seen(0, 27, 0);
        due.is("cows()", x.cows(), 0);
        due.is("forget()", x.forget(), 2);
        due.is("count(7)", x.count(7), 0);
        due.is("cows() with nothing seen", x.cows(), 95);
        due.is("forget() again", x.forget(), 0);
        due.is("seen again", x.seen(0, 0, 0), 1);
    }

    private static void promise23Cows() {
        DewLooms x = new DewLooms();
        x.pass(1);
        x.seen(0, 6, 1);
        due.is("1 and 5 are 6", x.cows(), 1);
        x.seen(2, 8, 1);
        due.is("3 and 5 are 8", x.cows(), 1);
        x.seen(2, 6, 1);
        due.is("not 6 and 8 at once", x.cows(), 0);
        x.forget();
        x.seen(1, 6, 1);
        due.is("the spider's is full again with any", x.cows(), 64 + 31);
        x.seen(1, 3, 0);
        due.is("but by that only its own cow", x.cows(), 2);
        x.forget();
        x.seen(3, 12, 2);
        due.is("8 and 4 are 12, with a cow 10", x.cows(), 64 + 31 - 8);
        x.seen(0, 0, 12);
        due.is("all have dried behind 12 hours", x.cows(), 64 + 31 - 8);
        x.forget();
        x.seen(1, 1, 12);
        due.is("1 drop behind 12 hours", x.cows(), 0);
        due.is("no cow has breathed", x.count(2), 18);
        DewLooms long12 = Due.laid("l0,0,9;h0,0;s20;");
        long12.tears(0);
        long12.seen(0, 4, 12);
        due.is("4 of 9 behind 12 hours", long12.cows(), 1);
    }

    private static void promise23CowsOnNone() {
        DewLooms x = new DewLooms();
        x.seen(0, 0, 0);
        due.is("on looms without drops", x.cows(), 95);
        x.seen(0, 1, 0);
        due.is("on looms without drops, not so", x.cows(), 0);
        x.forget();
        x.pass(1);
        x.cow(0);
        x.cow(0);
        x.seen(1, 6, 0);
        due.is("0 6 3 3 3, 6 on loom 1", x.cows(), 64 + 1 + 4 + 8 + 16);
        x.forget();
        x.seen(1, 3, 0);
        due.is("0 6 3 3 3, 3 on loom 1", x.cows(), 2);
    }

    private static void promise23CowsFromNow() {
        DewLooms x = new DewLooms();
        x.seen(0, 9, 1);
        due.is("at hour 0", x.cows(), 0);
        x.pass(1);
        due.is("at hour 1: 8", x.cows(), 0);
        x.pass(1);
        due.is("at hour 2: 9, with a cow on it 5", x.cows(), 64 + 30);
        x.undo();
        due.is("at hour 1 again", x.cows(), 0);
    }

    private static void promise24Colds() {
        DewLooms x = new DewLooms();
        due.is("with nothing seen", x.colds(), 1023);
        x.seen(0, 7, 1);
        due.is("7", x.colds(), 1 << 7);
        x.forget();
        x.seen(0, 9, 1);
        due.is("9", x.colds(), 1 << 9);
        x.forget();
        x.seen(0, 0, 1);
        due.is("0", x.colds(), 1);
        x.seen(0, 1, 0);
        due.is("1 now is not so", x.colds(), 0);
        x.forget();
        x.seen(0, 9, 2);
        due.is("4 or more, and 5 of the hour behind", x.colds(), 1023 - 15);
        x.seen(3, 11, 2);
        due.is("5 on the sheet, too, and 1 of 10 from the bride's", x.colds(), 1 << 5);
        x.pass(2);
        x.forget();
        x.seen(0, 9, 1);
        due.is("in mist: 8 and half", x.colds(), 1023 - 3);
        x.seen(3, 11, 1);
        due.is("in mist: 8 and 1 and 2", x.colds(), 0);
        x.forget();
        x.seen(3, 11, 1);
        due.is("in mist: 8 and 1 and 2", x.colds(), 2);
        due.is("the hour's own cold is as it was", x.hour(2, 0), 2);
    }

    private static void promise24ColdsOfOneHourAlone() {
        DewLooms x = Due.laid("l0,0,9;h1,0;s9;");
        x.seen(0, 5, 2);
        due.is("4 and 1", x.colds(), 1 << 4);
        x.pass(3);
        x.forget();
        x.seen(0, 7, 3);
        due.is("3, 2, 1 and 1", x.colds(), 1 << 2);
    }

    private static void promise24ColdsBehindTwelveHours() {
        DewLooms x = Due.laid("l0,0,9;h1,0;s20;");
        x.seen(0, 13, 12);
        due.is("2 and 11", x.colds(), 1 << 2);
    }

    private static void promise24ColdsInTheSun() {
        DewLooms x = new DewLooms();
        x.pass(3);
        x.seen(0, 7, 1);
        due.is("9 and 2 fewer, however cold", x.colds(), 1023);
        x.seen(0, 9, 1);
        due.is("not 9, however cold", x.colds(), 0);
    }
}
