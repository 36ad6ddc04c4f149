/** Promises 27 to 29: nights kept, as they were kept, and what is counted. */
public final class KeptTest {
    private static final int BAD = -1, NO = -2, FULL = -3;
    private static final Due due = new Due();

    public static void main(String[] args) {
        promise27Keep();
        promise28Back();
        promise28NotTheTextNorWhatIsSeen();
        promise28NothingIsUndone();
        promise29Count();
        due.end();
    }

    private static String looms(DewLooms x) {
        String all = Due.shown(x);
        return all.substring(all.indexOf('/'));
    }

    private static void promise27Keep() {
        DewLooms x = new DewLooms();
        due.is("keep()", x.keep(), 1);
        due.is("keep()", x.keep(), 2);
        due.is("keep()", x.keep(), FULL);
        due.is("count(9)", x.count(9), 2);
        due.is("back()", x.back(), 1);
        due.is("keep()", x.keep(), 2);
        due.is("what is kept cannot be undone", x.count(8), 0);
    }

    private static void promise28Back() {
        DewLooms x = new DewLooms();
        due.is("back() of none", x.back(), NO);
        x.pass(2);
        x.shade(1);
        x.set(0, 9);
        String first = looms(x);
        x.keep();
        x.pass(1);
        x.cow(0);
        x.shade(1);
        x.set(0, 1);
        x.keep();
        x.pass(24);
        due.is("back() to the second", x.back(), 1);
        due.is("hour", x.count(1), 3);
        due.is("place", x.loom(0, 1), 1);
        due.is("shade", x.loom(1, 5), 0);
        due.is("drops behind a cow", x.loom(0, 3), 4);
        due.is("back() to the first", x.back(), 0);
        due.is("hour", x.count(1), 2);
        due.is("ran off", x.count(3), 2);
        due.is("spoiled", x.count(4), 10);
        due.is("place", x.loom(0, 1), 9);
        due.is("at", x.at(9), 0);
        due.is("shade", x.loom(1, 5), 1);
        due.is("drops", x.loom(0, 3), 8);
        x.undo();
        x.keep();
        due.is("kept no more than once", x.back(), 0);
        due.is("back() of none", x.back(), NO);
        due.isTrue("the looms are as they were", looms(x).equals(first));
    }

    private static void promise28NotTheTextNorWhatIsSeen() {
        DewLooms x = new DewLooms();
        x.write('l');
        x.seen(0, 1, 1);
        x.keep();
        x.write('0');
        x.seen(0, 2, 2);
        x.pass(1);
        x.back();
        due.is("letters", x.count(10), 2);
        due.is("seen", x.count(7), 2);
        due.is("hour", x.count(1), 0);
        x.keep();
        x.wipe();
        x.forget();
        x.back();
        due.is("letters", x.count(10), 0);
        due.is("seen", x.count(7), 0);
    }

    private static void promise28NothingIsUndone() {
        DewLooms x = new DewLooms();
        x.pass(1);
        x.keep();
        x.pass(1);
        due.is("can be undone", x.count(8), 2);
        x.back();
        due.is("nothing can be undone", x.count(8), 0);
        due.is("undo()", x.undo(), NO);
        x.shade(0);
        due.is("but what comes behind", x.undo(), 0);
        due.is("hour", x.count(1), 1);
        x.pass(2);
        x.back();
        due.is("back() NO leaves what can be undone", x.undo(), 0);
    }

    private static void promise29Count() {
        DewLooms x = new DewLooms();
        x.pass(3);
        x.shade(0);
        x.shade(3);
        x.seen(0, 0, 0);
        x.keep();
        Due.write(x, "abc");
        int[] want = {5, 3, 42, 3, 12, 2, 5, 1, 3, 1, 3};
        for (int what = 0; what < want.length; what++) {
            due.is("count(" + what + ")", x.count(what), want[what]);
        }
        due.is("count(11)", x.count(11), BAD);
        due.is("count(-1)", x.count(-1), BAD);
        due.is("count(MIN)", x.count(Integer.MIN_VALUE), BAD);
        x.pass(2);
        due.is("looms that have a yard now: 9, 2, 5, 12, 2", x.count(6), 3);
        x.pass(1);
        due.is("looms that have a yard now: 9, 0, 3, 12, 0", x.count(6), 2);
        DewLooms two = Due.laid("l2,1,1;l2,3,1;h9,0;s9;");
        two.pass(2);
        due.is("spoiled on all", two.count(4), two.loom(1, 4));
        due.is("6 and 9 spoiled", two.count(4), 15);
        two.set(0, 9);
        two.pass(1);
        due.is("on both", two.count(4), 15 + 9);
        due.is("on one", two.loom(0, 4), 9);
    }
}
