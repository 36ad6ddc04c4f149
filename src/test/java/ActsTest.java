/** Promises 9 to 14: hours that go by, shade, a cow, tears, looms set elsewhere, undone. */
public final class ActsTest {
    private static final int BAD = -1, NO = -2;
    private static final Due due = new Due();

    public static void main(String[] args) {
        promise9Pass();
        promise9KindsAndMist();
        promise9Brides();
        promise9Sun();
        promise9HourOrder();
        promise10Shade();
        promise11Cow();
        promise12Tears();
        promise13Set();
        promise14Undo();
        promise14UndoOfEachAct();
        promise14OnlyTheLastEight();
        refusedActsAreNotUndone();
        due.end();
    }

    private static void drops(DewLooms x, String when, int... want) {
        for (int l = 0; l < want.length; l++) {
            due.is("drops of " + l + " " + when, x.loom(l, 3), want[l]);
        }
    }

    private static void promise9Pass() {
        DewLooms x = new DewLooms();
        due.is("pass(0)", x.pass(0), BAD);
        due.is("pass(25)", x.pass(25), BAD);
        due.is("pass(-1)", x.pass(-1), BAD);
        due.is("pass(1)", x.pass(1), 18);
        drops(x, "behind hour 0", 3, 6, 3, 3, 3);
        due.is("pass(1)", x.pass(1), 36);
        drops(x, "behind hour 1", 8, 6, 8, 8, 6);
        due.is("spoiled on 2", x.loom(2, 4), 10);
        due.is("ran off", x.count(3), 2);
        due.is("pass(1)", x.pass(1), 42);
        drops(x, "behind hour 2", 9, 6, 9, 12, 6);
        due.is("spoiled on 2", x.loom(2, 4), 12);
        due.is("ran off", x.count(3), 3);
        due.is("pass(2)", x.pass(2), 24);
        drops(x, "behind hour 4", 5, 2, 5, 10, 2);
        due.is("hour", x.count(1), 5);
        due.is("pass(24)", x.pass(24), 0);
        due.is("pass(24)", x.pass(24), 0);
        due.is("pass(24)", x.pass(24), 0);
        due.is("hour", x.count(1), 77);
        due.is("pass(23): 100", x.pass(23), NO);
        due.is("pass(22): 99", x.pass(22), 0);
        due.is("pass(1): 100", x.pass(1), NO);
        due.is("BAD before NO", x.pass(25), BAD);
        due.is("hour", x.count(1), 99);
    }

    private static void promise9KindsAndMist() {
        // Far apart and wide enough that nothing runs: what settles is all that is seen.
        DewLooms x = Due.laid("l0,0,9;l1,1,9;l2,2,9;l3,3,9;h5,0;h5,1;h1,1;h0,1;s20;");
        x.pass(1);
        drops(x, "of cold 5", 5, 10, 5, 5);
        x.pass(1);
        drops(x, "of cold 5 in mist more", 7, 14, 7, 12);
        x.pass(1);
        drops(x, "of cold 1 in mist more", 7, 14, 7, 15);
        x.pass(1);
        drops(x, "of cold 0 in mist more", 7, 14, 7, 17);
    }

    private static void promise9Brides() {
        DewLooms x = Due.laid("l0,0,1;l2,4,1;l1,5,1;l2,9,1;h9,0;s20;");
        due.is("pass(1)", x.pass(1), 12);
        due.is("on the upper bride", x.loom(1, 4), 6);
        due.is("on the plain", x.loom(0, 4), 0);
        // The bride's own 6 run to the spider's 18: 21 run to the lower bride, whose own 6 run off.
        due.is("on the lower bride", x.loom(3, 4), 21);
        due.is("ran off", x.count(3), 6);
        due.is("spoiled in all", x.count(4), 27);
        x.pass(1);
        due.is("on the upper bride", x.loom(1, 4), 6 + 9);
        due.is("on the lower bride", x.loom(3, 4), 21 + 27);
        due.is("ran off", x.count(3), 6 + 9);
    }

    private static void promise9Sun() {
        DewLooms x = Due.laid("l0,0,1;l1,1,1;l2,2,1;l3,3,1;h3,0;s1;");
        x.pass(1);
        drops(x, "at night", 3, 3, 3, 3);
        x.shade(1);
        due.is("in the sun", x.pass(1), 1 + 3 + 1 + 2);
        drops(x, "in the sun", 1, 3, 1, 2);
        due.is("in the sun", x.pass(1), 3 + 1);
        drops(x, "in the sun", 0, 3, 0, 1);
        due.is("in the sun", x.pass(3), 3);
        due.is("nothing runs off in the sun", x.count(3), 0);
        due.is("nothing more is spoiled in the sun", x.count(4), 3);
    }

    private static void promise9HourOrder() {
        // Loom 0 stands lowest: what runs off the slope is what runs from there.
        DewLooms x = Due.laid("l0,9,2;l0,0,1;h5,0;s9;");
        x.pass(1);
        drops(x, "with 2 from above", 6, 3);
        due.is("1 has run off", x.count(3), 1);
        x.set(0, 1);
        x.set(1, 2);
        x.pass(1);
        drops(x, "with 5 from above", 6, 3);
        due.is("5 and 5 more", x.count(3), 1 + 10);
    }

    private static void promise10Shade() {
        DewLooms x = new DewLooms();
        x.pass(3);
        due.is("shade(1)", x.shade(1), 1);
        due.is("loom(1, 5)", x.loom(1, 5), 1);
        due.is("count(5)", x.count(5), 1);
        x.pass(1);
        drops(x, "with shade for 1", 7, 6, 7, 11, 4);
        due.is("shade(1)", x.shade(1), 0);
        due.is("loom(1, 5)", x.loom(1, 5), 0);
        x.pass(1);
        drops(x, "without shade", 5, 4, 5, 10, 2);
        due.is("shade(5)", x.shade(5), BAD);
        due.is("shade(-1)", x.shade(-1), BAD);
        DewLooms night = Due.laid("l0,0,9;h3,0;s5;");
        night.shade(0);
        due.is("shade by night", night.pass(1), 3);
    }

    private static void promise11Cow() {
        DewLooms x = new DewLooms();
        due.is("cow on none", x.cow(0), NO);
        x.pass(1);
        due.is("cow of 3", x.cow(0), 1);
        due.is("cow of 1", x.cow(0), 0);
        due.is("cow of 0", x.cow(0), NO);
        due.is("cow of 6", x.cow(1), 3);
        due.is("drops", x.loom(1, 3), 3);
        due.is("cow(5)", x.cow(5), BAD);
        due.is("cow(-1)", x.cow(-1), BAD);
    }

    private static void promise12Tears() {
        DewLooms x = new DewLooms();
        due.is("tears(3)", x.tears(3), 4);
        due.is("tears(3)", x.tears(3), 8);
        x.pass(1);
        due.is("drops", x.loom(3, 3), 11);
        due.is("no more than it holds", x.tears(3), 12);
        due.is("it holds no more", x.tears(3), NO);
        due.is("nothing runs by tears", x.count(3) + x.count(4), 0);
        due.is("tears on a bride's", x.tears(2), 6);
        due.is("tears(5)", x.tears(5), BAD);
        due.is("tears(-1)", x.tears(-1), BAD);
    }

    private static void promise13Set() {
        DewLooms x = new DewLooms();
        x.pass(1);
        x.shade(1);
        due.is("set(1, 9)", x.set(1, 9), 2);
        due.is("its place", x.loom(1, 1), 9);
        due.is("its drops", x.loom(1, 3), 6);
        due.is("its shade", x.loom(1, 5), 1);
        due.is("its own place is not free", x.set(1, 9), NO);
        due.is("another's is not free", x.set(1, 0), NO);
        due.is("the one that it left is", x.set(0, 2), 0);
        due.is("set(0, 10)", x.set(0, 10), BAD);
        due.is("set(0, -1)", x.set(0, -1), BAD);
        due.is("set(5, 1)", x.set(5, 1), BAD);
        due.is("set(-1, 1)", x.set(-1, 1), BAD);
        x.pass(1);
        due.is("nothing is spoiled when the spider's stands lowest", x.count(4), 0);
        due.is("the spider's 10 and the plain's 2 run off", x.count(3), 12);
    }

    private static void promise14Undo() {
        DewLooms x = new DewLooms();
        due.is("undo() of none", x.undo(), NO);
        x.pass(2);
        x.pass(3);
        due.is("undo()", x.undo(), 1);
        due.is("hour", x.count(1), 2);
        drops(x, "behind hour 1", 8, 6, 8, 8, 6);
        due.is("ran off", x.count(3), 2);
        due.is("spoiled", x.count(4), 10);
        x.cow(0);
        due.is("undo() of the cow", x.undo(), 1);
        due.is("undo() of the hours", x.undo(), 0);
        due.is("hour", x.count(1), 0);
        due.is("ran off", x.count(3), 0);
        due.is("spoiled", x.count(4), 0);
        due.is("undo() of none", x.undo(), NO);
    }

    private static void promise14UndoOfEachAct() {
        DewLooms x = new DewLooms();
        x.pass(1);
        String before = Due.shown(x);
        for (int act = 0; act < 5; act++) {
            switch (act) {
                case 0: x.pass(24); break;
                case 1: x.shade(4); break;
                case 2: x.cow(1); break;
                case 3: x.tears(2); break;
                default: x.set(3, 1); break;
            }
            due.is("can be undone with act " + act, x.count(8), 2);
            due.isTrue("act " + act + " shows", !Due.shown(x).equals(before));
            due.is("undo() of act " + act, x.undo(), 1);
            due.same("undone act " + act, before, x);
            due.is("at(5)", x.at(5), 3);
            due.is("hour behind it goes by as ever", x.behind(1, 2, 1), 10);
        }
        // What is seen, what is kept and the text are none of these acts'.
        x.seen(0, 1, 1);
        x.keep();
        x.write('s');
        x.undo();
        due.is("seen behind undo", x.count(7), 1);
        due.is("kept behind undo", x.count(9), 1);
        due.is("letters behind undo", x.count(10), 1);
        // An hour by which no loom becomes another is undone, too.
        DewLooms dry = Due.laid("l0,0,1;s0;");
        dry.pass(1);
        due.is("a dry hour can be undone", dry.count(8), 1);
        due.is("undo()", dry.undo(), 0);
        due.is("hour", dry.count(1), 0);
    }

    private static void promise14OnlyTheLastEight() {
        DewLooms x = new DewLooms();
        for (int i = 1; i <= 11; i++) {
            x.pass(1);
            due.is("can be undone", x.count(8), Math.min(i, 8));
        }
        for (int left = 7; left >= 0; left--) {
            due.is("undo()", x.undo(), left);
            due.is("hour", x.count(1), 3 + left);
        }
        due.is("the ninth", x.undo(), NO);
        drops(x, "behind hour 2", 9, 6, 9, 12, 6);
        x.shade(0);
        due.is("undo() goes on", x.undo(), 0);
    }

    private static void refusedActsAreNotUndone() {
        DewLooms x = new DewLooms();
        x.pass(3);
        x.cow(0);
        String before = Due.shown(x);
        x.pass(0);
        x.shade(9);
        x.cow(9);
        x.tears(9);
        x.tears(1);
        x.set(0, 2);
        x.set(0, 99);
        due.same("refused acts", before, x);
        due.is("undo()", x.undo(), 1);
    }
}
