/** Promises 1 to 8: the text, its fault, what is laid by it. */
public final class NightsTest {
    private static final int BAD = -1, NO = -2, FULL = -3, NONE = -4;
    private static final Due due = new Due();

    public static void main(String[] args) {
        promise1NewObject();
        promise2Write();
        promise3Wipe();
        promise4FaultOfItems();
        promise4FaultOfLooms();
        promise4FaultOfHours();
        promise5Lay();
        promise5LayNo();
        promise5OfSeveralTheLast();
        promise6Loom();
        promise7Hour();
        promise8At();
        due.end();
    }

    private static void promise1NewObject() {
        DewLooms x = new DewLooms();
        due.is("BAD", DewLooms.BAD, BAD);
        due.is("NO", DewLooms.NO, NO);
        due.is("FULL", DewLooms.FULL, FULL);
        due.is("NONE", DewLooms.NONE, NONE);
        int[] counts = {5, 0, 0, 0, 0, 0, 0, 0, 0, 0, 0};
        for (int what = 0; what < counts.length; what++) {
            due.is("new: count(" + what + ")", x.count(what), counts[what]);
        }
        int[][] looms = {{0, 0, 3}, {1, 2, 2}, {2, 3, 3}, {3, 5, 4}, {0, 8, 2}};
        for (int l = 0; l < looms.length; l++) {
            for (int what = 0; what < 3; what++) {
                due.is("new: loom(" + l + ", " + what + ")", x.loom(l, what), looms[l][what]);
            }
        }
        int[][] hours = {{3, 0}, {5, 0}, {2, 1}, {0, 1}, {0, 1}};
        for (int h = 0; h < hours.length; h++) {
            due.is("new: hour(" + h + ", 0)", x.hour(h, 0), hours[h][0]);
            due.is("new: hour(" + h + ", 1)", x.hour(h, 1), hours[h][1]);
        }
        // The sun with hour 3, the merchants with hour 6, a yard of 5: loom 3 alone has one then.
        due.is("new: drops behind 3", x.behind(3, 0, 0), 9);
        due.is("new: drops behind 4", x.behind(4, 0, 0), 7);
        due.is("new: yards()", x.yards(), 8);
        due.is("new: fault()", x.fault(), NONE);
        due.is("new: lay()", x.lay(), NO);
        due.is("new: undo()", x.undo(), NO);
        due.is("new: back()", x.back(), NO);
    }

    private static void promise2Write() {
        DewLooms x = new DewLooms();
        due.is("write(31)", x.write(31), BAD);
        due.is("write(127)", x.write(127), BAD);
        due.is("write(-1)", x.write(-1), BAD);
        due.is("write(MIN)", x.write(Integer.MIN_VALUE), BAD);
        due.is("write(65536 + 'l')", x.write(65536 + 'l'), BAD);
        due.is("letters behind BAD", x.count(10), 0);
        due.is("write(32)", x.write(32), 1);
        due.is("write(126)", x.write(126), 2);
        for (int i = 3; i <= 200; i++) {
            due.is("write " + i, x.write('l'), i);
        }
        due.is("letter 201", x.write('l'), FULL);
        due.is("BAD before FULL", x.write(31), BAD);
        due.is("letters behind FULL", x.count(10), 200);
        due.is("wipe()", x.wipe(), 200);
        due.is("write behind wipe", x.write('l'), 1);
    }

    private static void promise3Wipe() {
        DewLooms x = new DewLooms();
        due.is("wipe of none", x.wipe(), 0);
        Due.write(x, "z");
        due.is("fault of z", x.fault(), 0);
        due.is("wipe of one", x.wipe(), 1);
        due.is("fault behind wipe", x.fault(), NONE);
        due.is("letters behind wipe", x.count(10), 0);
        due.is("wipe leaves the looms", x.count(0), 5);
    }

    private static void fault(String text, int want) {
        DewLooms x = new DewLooms();
        Due.write(x, text);
        String before = Due.shown(x);
        due.is("fault of '" + text + "'", x.fault(), want);
        due.same("fault of '" + text + "'", before, x);
    }

    private static void promise4FaultOfItems() {
        fault("", NONE);
        fault("s0;", NONE);
        fault("s20;", NONE);
        fault("s21;", 0);
        fault("s05;", NONE);
        fault("s00;", NONE);
        fault("s005;", 0);
        fault("s;", 0);
        fault("s5", 0);
        fault("s", 0);
        fault("s5,", 0);
        fault("s5,;", 0);
        fault("s,5;", 0);
        fault("s5,5;", 0);
        fault("s-1;", 0);
        fault("s 5;", 0);
        fault("s5; ", 3);
        fault(" s5;", 0);
        fault("S5;", 0);
        fault("5;", 0);
        fault(";", 0);
        fault("s5;;", 3);
        fault("s5;s99;x", 3);
        fault("s5;m1;y1", 6);
        fault("s5;m1;y1;", NONE);
        fault("m0;", 0);
        fault("m1;", NONE);
        fault("m24;", NONE);
        fault("m25;", 0);
        fault("y0;", 0);
        fault("y1;", NONE);
        fault("y27;", NONE);
        fault("y28;", 0);
        fault("s21;s5;", 0);
        fault("a0;", 0);
        fault("s/;", 0);
        fault("s:;", 0);
    }

    private static void promise4FaultOfLooms() {
        fault("l0,0,1;", NONE);
        fault("l3,9,9;", NONE);
        fault("l00,00,01;", NONE);
        fault("l4,0,1;", 0);
        fault("l0,10,1;", 0);
        fault("l0,0,0;", 0);
        fault("l0,0,10;", 0);
        fault("l0,0;", 0);
        fault("l0;", 0);
        fault("l0,0,1,1;", 0);
        fault("l0;0;1;", 0);
        fault("l0,0,1", 0);
        fault("l0,0,", 0);
        fault("l0,0,1;l1,0,1;", 7);
        fault("l0,0,1;l0,1,1;l0,2,1;l0,3,1;l0,4,1;l0,5,1;", NONE);
        fault("l0,0,1;l0,1,1;l0,2,1;l0,3,1;l0,4,1;l0,5,1;l0,6,1;", 42);
        // A faulty loom takes no place, but its fault is the first one all the same.
        fault("l4,1,1;l0,1,1;", 0);
    }

    private static void promise4FaultOfHours() {
        fault("h0,0;", NONE);
        fault("h9,1;", NONE);
        fault("h10,0;", 0);
        fault("h0,2;", 0);
        fault("h0;", 0);
        fault("h0,0,0;", 0);
        StringBuilder twelve = new StringBuilder();
        for (int i = 0; i < 12; i++) {
            twelve.append("h1,1;");
        }
        fault(twelve.toString(), NONE);
        fault(twelve + "h1,1;", 60);
        fault(twelve + "s1;h1,1;", 63);
    }

    private static void promise5Lay() {
        DewLooms x = new DewLooms();
        x.pass(2);
        x.shade(0);
        x.seen(4, 1, 1);
        x.keep();
        due.is("ran off before", x.count(3), 2);
        due.is("spoiled before", x.count(4), 10);
        Due.write(x, "l2,9,1;l1,0,2;");
        due.is("lay()", x.lay(), 2);
        int[] counts = {2, 0, 0, 0, 0, 0, 0, 0, 0, 0, 14};
        for (int what = 0; what < counts.length; what++) {
            due.is("laid: count(" + what + ")", x.count(what), counts[what]);
        }
        due.is("laid: undo()", x.undo(), NO);
        due.is("laid: back()", x.back(), NO);
        due.is("laid: loom 2", x.loom(2, 0), BAD);
        due.is("laid again", x.lay(), 2);
        x.pass(1);
        due.is("drops of one hour", x.count(2), 3 + 6);
        due.is("laid once more", x.lay(), 2);
        due.is("no drops", x.count(2), 0);
        due.is("hour 0", x.count(1), 0);
    }

    private static void promise5LayNo() {
        DewLooms x = new DewLooms();
        x.pass(2);
        x.shade(0);
        x.seen(4, 1, 1);
        x.keep();
        String[] texts = {"", "s5;", "h1,1;", "l0,0,1;s21;", "l0,0,1;l0,0,1;", "l0,0,1"};
        for (String text : texts) {
            x.wipe();
            Due.write(x, text);
            String before = Due.shown(x);
            due.is("lay of '" + text + "'", x.lay(), NO);
            due.same("lay of '" + text + "'", before, x);
            due.is("hour 0 as it was", x.hour(0, 0), 3);
            due.is("drops behind 1", x.behind(1, 0, 0), 9);
        }
        due.is("undo() behind lay NO", x.undo(), 1);
    }

    private static void promise5OfSeveralTheLast() {
        DewLooms x = Due.laid("s9;m2;y9;l0,0,9;s1;m3;y2;");
        due.is("drops behind 1", x.behind(1, 0, 0), 4);
        due.is("sun with hour 1", x.behind(2, 0, 0), 2);
        due.is("a yard is 2, merchants with hour 3", x.yards(), 0);
        x.pass(1);
        due.is("a yard now", x.count(6), 1);
        DewLooms early = Due.laid("y1;y3;m24;m2;s1;l0,0,9;");
        due.is("of 2 drops no yard", early.yards(), 0);
        DewLooms untold = Due.laid("l0,0,9;");
        due.is("6 hours of 4, 24 drops", untold.behind(6, 0, 0), 24);
        due.is("sun with hour 6", untold.behind(7, 0, 0), 22);
        untold.pass(6);
        due.is("merchants with hour 9: 18 drops, a yard of 6", untold.yards(), 1);
        due.is("6 drops are a yard", Due.laid("l0,0,9;h6,0;s1;m1;").yards(), 1);
        due.is("5 drops are not", Due.laid("l0,0,9;h5,0;s1;m1;").yards(), 0);
        due.is("18 drops are a yard of 18", Due.laid("l0,0,9;y18;").yards(), 1);
        due.is("18 drops are no yard of 19", Due.laid("l0,0,9;y19;").yards(), 0);
        due.is("sun with hour 0", Due.laid("l0,0,9;s0;").behind(5, 0, 0), 0);
    }

    private static void promise6Loom() {
        DewLooms x = new DewLooms();
        x.pass(3);
        x.shade(3);
        int[][] rows = {{0, 0, 3, 9, 0, 0}, {1, 2, 2, 6, 0, 0}, {2, 3, 3, 9, 12, 0},
            {3, 5, 4, 12, 0, 1}, {0, 8, 2, 6, 0, 0}};
        for (int l = 0; l < rows.length; l++) {
            for (int what = 0; what < 6; what++) {
                due.is("loom(" + l + ", " + what + ")", x.loom(l, what), rows[l][what]);
            }
        }
        due.is("loom(5, 0)", x.loom(5, 0), BAD);
        due.is("loom(-1, 0)", x.loom(-1, 0), BAD);
        due.is("loom(0, 6)", x.loom(0, 6), BAD);
        due.is("loom(0, -1)", x.loom(0, -1), BAD);
        due.is("loom(MIN, 0)", x.loom(Integer.MIN_VALUE, 0), BAD);
        due.is("loom(0, MAX)", x.loom(0, Integer.MAX_VALUE), BAD);
    }

    private static void promise7Hour() {
        DewLooms x = new DewLooms();
        due.is("hour(1, 0)", x.hour(1, 0), 5);
        due.is("hour(1, 1)", x.hour(1, 1), 0);
        due.is("hour(3, 1)", x.hour(3, 1), 1);
        due.is("hour(4, 1): as the last", x.hour(4, 1), 1);
        due.is("hour(99, 1)", x.hour(99, 1), 1);
        due.is("hour(100, 0)", x.hour(100, 0), BAD);
        due.is("hour(-1, 0)", x.hour(-1, 0), BAD);
        due.is("hour(0, 2)", x.hour(0, 2), BAD);
        due.is("hour(0, -1)", x.hour(0, -1), BAD);
        x.pass(2);
        due.is("hour(0, 0) when it has gone by", x.hour(0, 0), 3);
        DewLooms untold = Due.laid("l0,0,1;");
        due.is("untold cold", untold.hour(0, 0), 4);
        due.is("untold mist", untold.hour(50, 1), 0);
        DewLooms one = Due.laid("l0,0,1;h7,1;");
        due.is("told cold for all", one.hour(99, 0), 7);
        due.is("told mist for all", one.hour(12, 1), 1);
        Due.write(one, "h1,0;");
        due.is("fault() lays nothing", one.fault(), NONE);
        due.is("told cold still", one.hour(0, 0), 7);
    }

    private static void promise8At() {
        DewLooms x = new DewLooms();
        int[] want = {0, NONE, 1, 2, NONE, 3, NONE, NONE, 4, NONE};
        for (int p = 0; p < want.length; p++) {
            due.is("at(" + p + ")", x.at(p), want[p]);
        }
        due.is("at(10)", x.at(10), BAD);
        due.is("at(-1)", x.at(-1), BAD);
        x.set(3, 9);
        due.is("at(5) when it has left", x.at(5), NONE);
        due.is("at(9)", x.at(9), 3);
    }
}
