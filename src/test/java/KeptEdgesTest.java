/** The edges of promises 27 to 29: nights kept, as they were kept, and what is counted. */
public final class KeptEdgesTest {
    private static final int NO = Edge.NO, FULL = Edge.FULL;

    public static void main(String[] args) throws ReflectiveOperationException {
        Edge.run(KeptEdgesTest.class);
    }

    private static void twoKept(DewLooms x) {
        x.pass(1);
        x.keep();
        x.pass(1);
        x.keep();
        x.shade(0);
    }

    // ---- promise 27

    @Says(promise = 27, words = {"KEPT: how many", "FULL", "2 at most"})
    static void keepIsFullFromTheThirdOn() {
        DewLooms x = new DewLooms();
        Edge.is("count(9)", x.count(9), 0);
        Edge.is("keep()", x.keep(), 1);
        Edge.is("count(9)", x.count(9), 1);
        Edge.is("the same once more", x.keep(), 2);
        Edge.is("count(9)", x.count(9), 2);
        Edge.is("a third", x.keep(), FULL);
        Edge.refuses(FULL, "keep()", KeptEdgesTest::twoKept, y -> y.keep());
        Edge.is("back()", x.back(), 1);
        Edge.is("keep() again", x.keep(), 2);
        Edge.is("keep() once more", x.keep(), FULL);
    }

    @Says(promise = 27, words = "KEPT is all as it stands, but THE TEXT and what is SEEN")
    static void keepChangesNothingElse() {
        DewLooms x = Edge.made(Edge::busy);
        int[] before = new int[11];
        for (int what = 0; what <= 10; what++) {
            before[what] = x.count(what);
        }
        x.keep();
        for (int what = 0; what <= 10; what++) {
            Edge.is("count(" + what + ")", x.count(what), before[what] + (what == 9 ? 1 : 0));
        }
    }

    // ---- promise 28

    @Says(promise = 28, words = "NO")
    static void backToNothingIsRefused() {
        Edge.refuses(NO, "back()", Edge::nothing, x -> x.back());
        Edge.refuses(NO, "back() when all are had", x -> {
            x.keep();
            x.keep();
            x.back();
            x.back();
            x.pass(1);
            x.shade(1);
            x.seen(0, 1, 1);
        }, x -> x.back());
    }

    @Says(promise = 28, words = "As KEPT last (it is KEPT no more then): how many are left")
    static void backIsToTheLastThenToTheOneBefore() {
        DewLooms x = new DewLooms();
        twoKept(x);
        x.pass(24);
        Edge.is("back()", x.back(), 1);
        Edge.is("hour", x.count(1), 2);
        Edge.is("shade came behind it", x.count(5), 0);
        Edge.is("count(9)", x.count(9), 1);
        Edge.is("back() again", x.back(), 0);
        Edge.is("hour", x.count(1), 1);
        Edge.is("count(9)", x.count(9), 0);
        Edge.is("back() once more", x.back(), NO);
        Edge.is("hour", x.count(1), 1);
        Edge.isLike("as of an hour that cannot be undone", x, Edge.made(y -> {
            y.pass(1);
            y.keep();
            y.back();
        }));
    }

    @Says(promise = 28, words = "KEPT is all as it stands, but THE TEXT and what is SEEN")
    static void backBringsAllButTheTextAndWhatIsSeen() {
        DewLooms x = Edge.made(Edge::busy);
        x.keep();
        x.pass(24);
        x.set(0, 4);
        x.tears(3);
        x.shade(1);
        x.shade(0);
        x.write('s');
        x.seen(4, 4, 4);
        Edge.is("back()", x.back(), 1);
        DewLooms due = Edge.made(Edge::busy);
        due.keep();
        due.back();
        due.write('s');
        due.seen(4, 4, 4);
        Edge.isLike("as it was kept", x, due);
    }

    @Says(promise = 28, words = "KEPT is all as it stands, but THE TEXT and what is SEEN")
    static void backBringsWhatHasRunOffAndIsSpoiled() {
        DewLooms x = new DewLooms();
        x.keep();
        x.pass(3);
        x.keep();
        Edge.is("run off", x.count(3), 3);
        Edge.is("spoiled", x.count(4), 12);
        x.back();
        Edge.is("run off", x.count(3), 3);
        Edge.is("spoiled", x.count(4), 12);
        x.back();
        Edge.is("nothing has", x.count(3), 0);
        Edge.is("nothing is", x.count(4), 0);
        Edge.is("hour", x.count(1), 0);
    }

    @Says(promise = 28, words = "nothing is UNDONE then")
    static void backLeavesNothingToUndo() {
        DewLooms x = new DewLooms();
        x.pass(1);
        x.keep();
        for (int i = 0; i < 8; i++) {
            x.shade(i % 5);
        }
        Edge.is("count(8)", x.count(8), 8);
        Edge.is("back()", x.back(), 0);
        Edge.is("count(8)", x.count(8), 0);
        Edge.is("undo()", x.undo(), NO);
        Edge.is("hour", x.count(1), 1);
    }

    @Says(promise = 28, words = "nothing changes then")
    static void backRefusedLeavesWhatCanBeUndone() {
        DewLooms x = new DewLooms();
        x.pass(1);
        Edge.is("back()", x.back(), NO);
        Edge.is("count(8)", x.count(8), 1);
        Edge.is("undo()", x.undo(), 0);
    }

    // ---- promise 29

    @Says(promise = 29, words = {"0 LOOMS, 1 the HOUR, 2 DROPS of all, 3 RUN OFF, 4 SPOILED in all,"
        + " 5 LOOMS with SHADE, 6 LOOMS that have a YARD now, 7 SEEN, 8 that can be UNDONE, 9 KEPT,"
        + " 10 letters of THE TEXT", "BAD"})
    static void countTells0To10() {
        Edge.takes(0, 10, "count", Edge::busy, (x, n) -> x.count(n));
        Edge.takes(0, 10, "count", Edge::nothing, (x, n) -> x.count(n));
        Edge.changesNothing("count(2)", Edge::busy, x -> x.count(2));
    }

    @Says(promise = 29, words = "How many")
    static void countsOfNone() {
        DewLooms x = Due.laid("l0,0,1;");
        int[] want = {1, 0, 0, 0, 0, 0, 0, 0, 0, 0, 0};
        for (int what = 0; what < want.length; what++) {
            Edge.is("count(" + what + ")", x.count(what), want[what]);
        }
    }

    @Says(promise = 29, words = "How many")
    static void countsOfAsManyAsCanBe() {
        DewLooms x = new DewLooms();
        String text = "l0,0,9;l0,1,9;l0,2,9;l0,3,9;l0,4,9;l2,5,9;h9,0;s20;m24;y27;";
        Due.write(x, text);
        x.lay();
        Due.write(x, "y".repeat(200 - text.length()));
        x.pass(20);
        for (int l = 0; l < 6; l++) {
            x.shade(l);
            x.seen(l, 0, 0);
        }
        x.keep();
        x.keep();
        for (int i = 0; i < 3; i++) {
            x.pass(24);
        }
        x.pass(7);
        // 9 drops on each of 6 by 20 hours: 27 of each stay, 135 of the bride's own run off.
        int spoiled = 5 * (20 * 9 - 27);
        int[] want = {6, 99, 6 * 27, 20 * 9 - 27, spoiled, 6, 6, 6, 8, 2, 200};
        for (int what = 0; what < want.length; what++) {
            Edge.is("count(" + what + ")", x.count(what), want[what]);
        }
    }

    @Says(promise = 29, words = "2 DROPS of all, 3 RUN OFF, 4 SPOILED in all")
    static void whatIsOfAllIsThatOfEachOnce() {
        // From place 0 on 1, 1, 2, 3, 4 and 1 drops run, the first and the fifth to a bride's.
        DewLooms x = Due.laid("l2,1,1;l0,0,1;l0,2,1;l0,3,1;l0,4,1;l2,5,1;h4,0;");
        x.pass(1);
        Edge.is("spoiled on the first", x.loom(0, 4), 1);
        Edge.is("spoiled on the last", x.loom(5, 4), 4);
        Edge.is("spoiled in all", x.count(4), 5);
        Edge.is("drops of all", x.count(2), 18);
        Edge.is("run off", x.count(3), 1);
        for (int many = 5; many >= 1; many--) {
            x.wipe();
            Due.write(x, "l2,1,9;l2,0,9;l0,2,9;l0,3,9;l2,4,9;".substring(0, 7 * many));
            x.lay();
            x.tears(many - 1);
            Edge.is("spoiled in all of " + many, x.count(4), 0);
            Edge.is("drops of all of " + many, x.count(2), 9);
        }
    }

    @Says(promise = 29, words = "6 LOOMS that have a YARD now")
    static void aYardIsEnoughOneDropLessIsNot() {
        DewLooms x = Due.laid("l0,0,9;l0,1,9;h4,0;h1,0;h1,0;s20;y5;");
        x.pass(1);
        Edge.is("4 of 5", x.count(6), 0);
        x.pass(1);
        Edge.is("5 of 5", x.count(6), 2);
        x.pass(1);
        Edge.is("6 of 5", x.count(6), 2);
        x.cow(0);
        Edge.is("3 and 6", x.count(6), 1);
    }
}
