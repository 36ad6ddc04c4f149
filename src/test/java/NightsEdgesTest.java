/** The edges of promises 1 to 8: the text, its fault, what is laid by it. */
public final class NightsEdgesTest {
    private static final int BAD = Edge.BAD, NO = Edge.NO, FULL = Edge.FULL, NONE = Edge.NONE;
    private static final String FIRST =
        "l0,0,3;l1,2,2;l2,3,3;l3,5,4;l0,8,2;h3,0;h5,0;h2,1;h0,1;s3;m6;y5;";
    private static final String SIX_LOOMS = "l0,0,1;l0,1,1;l0,2,1;l0,3,1;l0,4,1;l0,5,1;";
    private static final String TWELVE_HOURS =
        "h1,0;h2,1;h3,0;h4,1;h5,0;h6,1;h7,0;h8,1;h9,0;h0,1;h1,1;h2,0;";

    public static void main(String[] args) throws ReflectiveOperationException {
        Edge.run(NightsEdgesTest.class);
    }

    private static DewLooms written(String text) {
        DewLooms x = new DewLooms();
        Due.write(x, text);
        return x;
    }

    private static String times(int many, String item) {
        return item.repeat(many);
    }

    private static void faultIs(int want, String text) {
        Edge.is("fault of '" + text + "'", written(text).fault(), want);
    }

    /** Alone, and between others: the fault has the place where the item begins, or is none. */
    private static void good(String... items) {
        for (String item : items) {
            faultIs(NONE, item);
            faultIs(NONE, "s1;" + item);
            faultIs(NONE, item + "m24;");
        }
    }

    private static void bad(String... items) {
        for (String item : items) {
            faultIs(0, item);
            faultIs(3, "s1;" + item);
            faultIs(8, "h1,1;y3;" + item + "m24;");
        }
    }

    // ---- promise 1

    @Says(promise = 1, words = "THE TEXT is empty")
    static void newObjectHasAnEmptyText() {
        Edge.is("count(10)", new DewLooms().count(10), 0);
        Edge.is("wipe()", new DewLooms().wipe(), 0);
        Edge.is("fault()", new DewLooms().fault(), NONE);
        Edge.is("lay()", new DewLooms().lay(), NO);
        Edge.is("write('l')", new DewLooms().write('l'), 1);
    }

    @Says(promise = 1, words = {"As told", "at first " + FIRST})
    static void newObjectIsLaidByTheFirstText() {
        Edge.isLike("a new object", new DewLooms(), Due.laid(FIRST));
        int[] hours = {3, 5, 2, 0, 0};
        for (int h = 0; h < hours.length; h++) {
            Edge.is("hour(" + h + ", 0)", new DewLooms().hour(h, 0), hours[h]);
            Edge.is("hour(" + h + ", 1)", new DewLooms().hour(h, 1), h < 2 ? 0 : 1);
        }
    }

    @Says(promise = 1, words = "at first " + FIRST)
    static void newObjectHasTheSunWithHour3() {
        Edge.is("9 behind hour 2", new DewLooms().behind(3, 0, 0), 9);
        Edge.is("7 behind hour 3", new DewLooms().behind(4, 0, 0), 7);
    }

    @Says(promise = 1, words = "at first " + FIRST)
    static void newObjectHasMerchantsWithHour6() {
        DewLooms x = new DewLooms();
        x.pass(5);
        Edge.is("5 2 5 10 2 now, 3 0 3 9 0 then", x.yards(), 8);
        x.tears(0);
        Edge.is("8 now, 6 then", x.yards(), 9);
        x.pass(1);
        Edge.is("6 then", x.yards(), 9);
    }

    @Says(promise = 1, words = "at first " + FIRST)
    static void newObjectHasAYardOf5() {
        DewLooms x = new DewLooms();
        x.pass(4);
        Edge.is("7 4 7 11 4", x.count(6), 3);
        x.pass(1);
        Edge.is("5 2 5 10 2", x.count(6), 3);
        x.pass(1);
        Edge.is("3 0 3 9 0", x.count(6), 1);
    }

    @Says(promise = 1, words = "As told")
    static void newObjectHasNothingThatCouldBeTakenBack() {
        Edge.is("undo()", new DewLooms().undo(), NO);
        Edge.is("back()", new DewLooms().back(), NO);
        Edge.is("forget()", new DewLooms().forget(), 0);
    }

    // ---- promise 2

    @Says(promise = 2, words = {"A letter (32 to 126, as in ASCII)", "BAD"})
    static void writeTakes32To126() {
        Edge.takes(32, 126, "write", Edge::busy, (x, n) -> x.write(n));
        Edge.takes(32, 126, "write", Edge::nothing, (x, n) -> x.write(n));
    }

    @Says(promise = 2, words = "comes behind THE TEXT: how long it is")
    static void writeTellsHowLongTheTextIs() {
        DewLooms x = new DewLooms();
        for (int i = 1; i <= 200; i++) {
            Edge.is("letter " + i, x.write(32 + i % 95), i);
            Edge.is("count(10)", x.count(10), i);
        }
    }

    @Says(promise = 2, words = {"A TEXT is letters (200 at most)", "FULL"})
    static void writeIsFullFromTheLetter201On() {
        String text = SIX_LOOMS + TWELVE_HOURS + times(32, "s1;");
        Edge.is("so many letters", text.length(), 198);
        Edge.Act full = x -> Due.write(x, text + "y7");
        Edge.is("the letter 200", Edge.made(x -> Due.write(x, text + "y")).write('7'), 200);
        Edge.refuses(FULL, "the letter 201", full, x -> x.write(';'));
        DewLooms x = Edge.made(full);
        x.write(';');
        Edge.is("the item wants it", x.fault(), 198);
    }

    @Says(promise = 2, words = "A TEXT is letters (200 at most)")
    static void allOf200LettersAreRead() {
        String text = SIX_LOOMS + TWELVE_HOURS + times(30, "s9;") + "y27;";
        DewLooms x = written(text + "y01;");
        Edge.is("count(10)", x.count(10), 200);
        Edge.is("fault()", x.fault(), NONE);
        Edge.is("lay()", x.lay(), 6);
        x.pass(1);
        Edge.is("its last item counts: a drop is a yard", x.count(6), 6);
        faultIs(199, text + "y1;" + "y");
        faultIs(196, text + "y01:");
        faultIs(196, text + "y281");
    }

    @Says(promise = 2, words = "Of several the first in this order")
    static void badIsFirstInAFullText() {
        Edge.Act full = x -> Due.write(x, times(200, "l"));
        Edge.refuses(BAD, "write(31)", full, x -> x.write(31));
        Edge.refuses(BAD, "write(127)", full, x -> x.write(127));
        Edge.refuses(FULL, "write(126)", full, x -> x.write(126));
        Edge.refuses(FULL, "write(32)", full, x -> x.write(32));
    }

    // ---- promise 3

    @Says(promise = 3, words = "THE TEXT is empty: how long it was")
    static void wipeOfAnEmptyText() {
        Edge.is("wipe()", new DewLooms().wipe(), 0);
        Edge.changesNothing("wipe() of none", Edge::nothing, x -> x.wipe());
        DewLooms x = written("l");
        Edge.is("wipe()", x.wipe(), 1);
        Edge.is("wipe() again", x.wipe(), 0);
        Edge.is("count(10)", x.count(10), 0);
    }

    @Says(promise = 3, words = "THE TEXT is empty: how long it was")
    static void wipeOfAFullText() {
        DewLooms x = written(times(200, "l"));
        Edge.is("wipe()", x.wipe(), 200);
        Edge.is("fault()", x.fault(), NONE);
        Edge.is("write('l')", x.write('l'), 1);
        Edge.is("fault() of what was written since", x.fault(), 0);
    }

    @Says(promise = 3, words = "THE TEXT is empty: how long it was")
    static void wipeLeavesAllElse() {
        DewLooms x = Edge.made(Edge::busy);
        x.wipe();
        Due.write(x, "l1,4,2;h3,1;");
        Edge.isLike("wiped and written again", x, Edge.made(Edge::busy));
    }

    // ---- promise 4

    @Says(promise = 4, words = "NONE")
    static void noFaultOfAnEmptyText() {
        faultIs(NONE, "");
        faultIs(NONE, FIRST);
        Edge.changesNothing("fault()", Edge::busy, x -> x.fault());
        Edge.changesNothing("fault() of l9,9,9;", x -> Due.write(x, "l9,9,9;"), x -> x.fault());
    }

    @Says(promise = 4, words = "the place (from 0 on) of the first letter of the first ITEM that is"
        + " not so")
    static void faultIsWhereTheFirstSuchItemBegins() {
        faultIs(0, "y0;");
        faultIs(3, "y1;y0;y1;");
        faultIs(3, "y1;y0;y0;");
        faultIs(3, "y1;y0;x");
        faultIs(6, "y1;y1;y0;");
        faultIs(6, "y1;y1;y");
        faultIs(FIRST.length(), FIRST + "y0;");
        faultIs(FIRST.length() - 3, FIRST.substring(0, FIRST.length() - 1));
        faultIs(198, times(66, "y1;") + "y");
        faultIs(199, times(65, "y1;") + "y01;" + "y");
    }

    @Says(promise = 4, words = "ITEMS one behind the other")
    static void nothingIsBetweenItems() {
        good("s5;s5;", "s5;");
        bad(" s5;", ";s5;", "0s5;", ",s5;", " ", ";", ",", "0");
        faultIs(3, "s5; s5;");
        faultIs(3, "s5;;s5;");
        faultIs(3, "s5; ");
    }

    @Says(promise = 4, words = "each a letter")
    static void onlyFiveLettersBeginAnItem() {
        for (char letter = 32; letter <= 126; letter++) {
            if ("lhsmy".indexOf(letter) < 0) {
                bad(letter + "1;", letter + "1,1;", letter + "1,1,1;");
            }
        }
        good("l1,1,1;", "h1,1;", "s1;", "m1;", "y1;");
        bad("1;", "l", "h", "s", "m", "y", "l;", "h;", "s;", "m;", "y;", "ll1,1,1;");
    }

    @Says(promise = 4, words = "then numbers (one or two figures)")
    static void numbersHaveOneOrTwoFigures() {
        good("s5;", "s05;", "s15;", "m01;", "y09;", "l0,0,1;", "l00,00,01;", "l3,09,09;", "h9,1;",
            "h09,01;", "h00,00;");
        bad("s;", "s005;", "s015;", "m001;", "y009;", "l,0,1;", "l0,,1;", "l0,0,;", "l000,0,1;",
            "l0,000,1;", "l0,0,001;", "h,1;", "h1,;", "h001,1;", "h1,001;", "s-1;", "s+1;", "s 1;",
            "s1 ;", "s1a;", "sa;", "s/;", "s:;", "s1/;", "s1:;");
    }

    @Says(promise = 4, words = "parted by ,")
    static void numbersArePartedByACommaAlone() {
        good("l1,1,1;", "h1,1;");
        bad("h1.1;", "h1;1;", "h1 1;", "h11;", "h1-1;", "h1+1;", "h1,,1;", "h,1,1;", "h1,1,;",
            "l1;1;1;", "l1,1;1;", "l1,1.1;", "l1.1,1;", "s,1;", "s1,;", "l1,1,,1;");
    }

    @Says(promise = 4, words = "and a ; behind the last one")
    static void aSemicolonIsBehindTheLastNumber() {
        good("s1;");
        bad("s1,", "s1:", "s1.", "s1 ", "s1s1;", "h1,1,", "h1,1h1,1;", "l1,1,1,", "l1,1,1.");
        faultIs(0, "s1");
        faultIs(0, "s");
        faultIs(3, "s1;s1");
        faultIs(3, "s1;h1,1");
        faultIs(3, "s1;h1,");
        faultIs(3, "s1;h1");
        faultIs(3, "s1;l1,1,1");
        faultIs(3, "s1;l1,1,");
    }

    @Says(promise = 4, words = {"lK,P,T", "hC,M", "sS", "mM", "yY"})
    static void anItemHasAllItsNumbersAndNoMore() {
        bad("l1;", "l1,1;", "l1,1,1,1;", "h1;", "h1,1,1;", "s1,1;", "m1,1;", "y1,1;");
        bad("l1,1,1,1,1;", "h1,1,1,1;", "s1,1,1;");
    }

    @Says(promise = 4, words = "a LOOM of KIND K (0 PLAIN, 1 SPIDER's, 2 BRIDE's, 3 SHEET)")
    static void kindsAre0To3() {
        good("l0,5,1;", "l1,5,1;", "l2,5,1;", "l3,5,1;");
        bad("l4,5,1;", "l5,5,1;", "l9,5,1;", "l10,5,1;", "l99,5,1;");
    }

    @Says(promise = 4, words = "on PLACE P (0 to 9, 0 uppermost")
    static void placesAre0To9() {
        good("l0,0,1;", "l0,9,1;");
        bad("l0,10,1;", "l0,11,1;", "l0,99,1;");
    }

    @Says(promise = 4, words = "no two on one)")
    static void noTwoLoomsAreOnOnePlace() {
        good("l0,0,1;l0,1,1;", "l0,8,1;l0,9,1;");
        faultIs(7, "l0,0,1;l0,0,1;");
        faultIs(7, "l0,9,1;l1,9,2;");
        faultIs(7, "l0,0,1;l0,00,1;");
        faultIs(14, "l0,4,1;l0,5,1;l0,4,1;");
        faultIs(14, "l0,4,1;l0,5,1;l0,5,1;");
        faultIs(35, "l0,0,1;l0,1,1;l0,2,1;l0,3,1;l0,4,1;l0,0,1;");
        faultIs(35, "l0,0,1;l0,1,1;l0,2,1;l0,3,1;l0,4,1;l0,4,1;");
    }

    @Says(promise = 4, words = "with T (1 to 9) THREADS")
    static void threadsAre1To9() {
        good("l0,5,1;", "l0,5,9;");
        bad("l0,5,0;", "l0,5,00;", "l0,5,10;", "l0,5,99;");
    }

    @Says(promise = 4, words = "THREADS; 6 at most, 0, 1, ..")
    static void loomsAre6AtMost() {
        good(SIX_LOOMS);
        faultIs(42, SIX_LOOMS + "l0,6,1;");
        faultIs(45, SIX_LOOMS + "s1;" + "l0,9,1;");
        faultIs(42, SIX_LOOMS + "l0,6,1;l0,7,1;");
    }

    @Says(promise = 4, words = "an HOUR has COLD C (0 to 9)")
    static void coldsAre0To9() {
        good("h0,0;", "h9,0;");
        bad("h10,0;", "h11,0;", "h99,0;");
    }

    @Says(promise = 4, words = "and MIST M (0, 1)")
    static void mistIs0Or1() {
        good("h5,0;", "h5,1;");
        bad("h5,2;", "h5,3;", "h5,10;", "h5,99;");
    }

    @Says(promise = 4, words = "12 at most, HOUR 0, 1, ..")
    static void hoursAre12AtMost() {
        faultIs(NONE, times(11, "h1,1;"));
        faultIs(NONE, TWELVE_HOURS);
        faultIs(60, TWELVE_HOURS + "h1,1;");
        faultIs(60, TWELVE_HOURS + "h1,1;h1,1;");
        faultIs(63, TWELVE_HOURS + "s1;h1,1;");
    }

    @Says(promise = 4, words = "the SUN comes with HOUR S (0 to 20)")
    static void theSunIs0To20() {
        good("s0;", "s20;");
        bad("s21;", "s22;", "s99;");
    }

    @Says(promise = 4, words = "merchants come with HOUR M (1 to 24)")
    static void merchantsAre1To24() {
        good("m1;", "m24;");
        bad("m0;", "m00;", "m25;", "m26;", "m99;");
    }

    @Says(promise = 4, words = "a YARD is Y (1 to 27) DROPS")
    static void aYardIs1To27() {
        good("y1;", "y27;");
        bad("y0;", "y00;", "y28;", "y29;", "y99;");
    }

    @Says(promise = 4, words = {"(6 without; of several the last one counts) mM",
        "(9 without; of several the last one counts) yY",
        "(6 without; of several the last one counts) FAULT"})
    static void suchItemsMayBeSeveral() {
        faultIs(NONE, times(66, "s1;"));
        faultIs(NONE, times(66, "m1;"));
        faultIs(NONE, times(66, "y1;"));
        // One that is not so is a fault, even if a later one counts.
        faultIs(0, "s21;s1;");
        faultIs(0, "m25;m1;");
        faultIs(0, "y28;y1;");
    }

    // ---- promise 5

    @Says(promise = 5, words = "a TEXT without FAULT, of a LOOM at least (NO else")
    static void layOfATextWithoutALoomIsRefused() {
        for (String text : new String[] {"", "s5;", "h1,1;", "m5;", "y5;", TWELVE_HOURS}) {
            Edge.Act before = x -> {
                Edge.busy(x);
                x.wipe();
                Due.write(x, text);
            };
            Edge.refuses(NO, "lay of '" + text + "'", before, x -> x.lay());
        }
    }

    @Says(promise = 5, words = {"a TEXT without FAULT, of a LOOM at least (NO else", "NO"})
    static void layOfAFaultIsRefused() {
        String[] texts = {"l", "l0,0,1", "l0,0,1;l0,0,1;", "l0,0,1;s21;", "y0;l0,0,1;", "l4,0,1;",
            SIX_LOOMS + "l0,6,1;", SIX_LOOMS + TWELVE_HOURS + "h1,1;", "l0,0,1;;"};
        for (String text : texts) {
            Edge.Act before = x -> {
                Edge.busy(x);
                x.wipe();
                Due.write(x, text);
            };
            Edge.refuses(NO, "lay of '" + text + "'", before, x -> x.lay());
        }
    }

    @Says(promise = 5, words = "LAID: how many LOOMS")
    static void layOfOneLoomAndOfSix() {
        DewLooms x = written("l0,0,1;");
        Edge.is("lay() of one", x.lay(), 1);
        Edge.is("count(0)", x.count(0), 1);
        x.wipe();
        Due.write(x, SIX_LOOMS);
        Edge.is("lay() of six", x.lay(), 6);
        Edge.is("count(0)", x.count(0), 6);
        x.wipe();
        Due.write(x, FIRST);
        Edge.is("lay() of five", x.lay(), 5);
        Edge.isTrue("it is what it was", Due.shown(x).equals(Due.shown(Edge.made(
            y -> Due.write(y, FIRST)))));
    }

    @Says(promise = 5, words = "HOUR 0, no DROPS, no SHADE, nothing SPOILED, SEEN, UNDONE, KEPT")
    static void layLeavesNothingOfWhatWas() {
        DewLooms x = Edge.made(Edge::busy);
        x.pass(1);
        x.keep();
        int[] before = {3, 7, 1, 4, 5, 7, 8, 9};
        for (int what : before) {
            Edge.isTrue("count(" + what + ") is above 0", x.count(what) > 0);
        }
        x.wipe();
        Due.write(x, FIRST);
        Edge.is("lay()", x.lay(), 5);
        x.wipe();
        Edge.is("undo()", x.undo(), NO);
        Edge.is("back()", x.back(), NO);
        Edge.isLike("laid", x, new DewLooms());
    }

    @Says(promise = 5, words = "HOUR 0, no DROPS, no SHADE, nothing SPOILED, SEEN, UNDONE, KEPT")
    static void layOfFewerAndThenMoreLooms() {
        DewLooms x = Edge.made(Edge::busy);
        x.wipe();
        Due.write(x, "l0,0,1;");
        x.lay();
        x.wipe();
        Due.write(x, FIRST);
        x.lay();
        x.wipe();
        Edge.isLike("laid", x, new DewLooms());
    }

    @Says(promise = 5, words = "(THE TEXT stays)")
    static void layLeavesTheText() {
        DewLooms x = written("l0,0,1;");
        x.lay();
        Edge.is("count(10)", x.count(10), 7);
        Edge.is("fault()", x.fault(), NONE);
        Due.write(x, "l1,1,1;");
        Edge.is("lay() of both", x.lay(), 2);
        Edge.is("write(';')", x.write(';'), 15);
        Edge.is("lay() of both and a fault", x.lay(), NO);
        Edge.is("wipe()", x.wipe(), 15);
    }

    @Says(promise = 5, words = "the SUN comes with HOUR S (0 to 20) (6 without")
    static void theSunIs6Without() {
        DewLooms x = Due.laid("l0,0,9;h1,0;");
        Edge.is("hour 5 is night", x.behind(6, 0, 0), 6);
        Edge.is("hour 6 is not", x.behind(7, 0, 0), 4);
    }

    @Says(promise = 5, words = "the SUN comes with HOUR S (0 to 20)")
    static void theSunMayCome0To20() {
        for (int sun = 0; sun <= 20; sun++) {
            DewLooms x = Due.laid("l0,0,9;h1,0;s" + sun + ";");
            Edge.is("s" + sun, x.behind(sun, 0, 0), sun);
            Edge.is("s" + sun + " and an hour", x.behind(sun + 1, 0, 0), Math.max(0, sun - 2));
        }
    }

    @Says(promise = 5, words = "merchants come with HOUR M (1 to 24) (9 without")
    static void merchantsAre9Without() {
        // 9, 7, 5 .. from hour 0 on: 9 hours leave 9 - 2 * 5 of what the sun finds behind hour 4.
        Edge.is("9 hours of 1", Due.laid("l0,0,9;h1,0;s20;y9;").yards(), 1);
        Edge.is("not 10", Due.laid("l0,0,9;h1,0;s20;y10;").yards(), 0);
    }

    @Says(promise = 5, words = "merchants come with HOUR M (1 to 24)")
    static void merchantsMayCome1To24() {
        for (int hour = 1; hour <= 24; hour++) {
            // 1 drop by an hour of 20, 2 fewer by each of the 4 behind them.
            int drops = hour <= 20 ? hour : 20 - 2 * (hour - 20);
            String night = "l0,0,9;h1,0;s20;m" + hour + ";y";
            Edge.is(night + drops + ";", Due.laid(night + drops + ";").yards(), 1);
            Edge.is(night + (drops + 1) + ";", Due.laid(night + (drops + 1) + ";").yards(), 0);
        }
    }

    @Says(promise = 5, words = "a YARD is Y (1 to 27) DROPS (6 without")
    static void aYardIs6Without() {
        Edge.is("6 drops", Due.laid("l0,0,9;h6,0;s1;m1;").yards(), 1);
        Edge.is("5 drops", Due.laid("l0,0,9;h5,0;s1;m1;").yards(), 0);
    }

    @Says(promise = 5, words = "a YARD is Y (1 to 27) DROPS")
    static void aYardMayBe1To27() {
        for (int yard = 1; yard <= 27; yard++) {
            DewLooms x = Due.laid("l0,0,9;h1,0;s0;y" + yard + ";");
            Edge.is("y" + yard + ", none", x.count(6), 0);
            x.tears(0);
            Edge.is("y" + yard + ", 9", x.count(6), yard <= 9 ? 1 : 0);
            x.tears(0);
            Edge.is("y" + yard + ", 18", x.count(6), yard <= 18 ? 1 : 0);
            x.tears(0);
            Edge.is("y" + yard + ", 27", x.count(6), 1);
        }
    }

    @Says(promise = 5, words = "(6 without; of several the last one counts) mM")
    static void ofSeveralSunsTheLastCounts() {
        Edge.is("s9;s1;", Due.laid("s9;l0,0,9;h3,0;s1;").behind(2, 0, 0), 1);
        Edge.is("s1;s9;", Due.laid("s1;l0,0,9;h3,0;s9;").behind(2, 0, 0), 6);
        Edge.is("s9;s9;s0;", Due.laid("s9;s9;s0;l0,0,9;h3,0;").behind(2, 0, 0), 0);
    }

    @Says(promise = 5, words = "(9 without; of several the last one counts) yY")
    static void ofSeveralMerchantsTheLastCount() {
        Edge.is("m9;m2;", Due.laid("m9;l0,0,9;h1,0;m2;y3;").yards(), 0);
        Edge.is("m2;m3;", Due.laid("m2;l0,0,9;h1,0;m3;y3;").yards(), 1);
        Edge.is("m1;m2;m3;", Due.laid("m1;m2;m3;l0,0,9;h1,0;y3;").yards(), 1);
    }

    @Says(promise = 5, words = "(6 without; of several the last one counts) FAULT")
    static void ofSeveralYardsTheLastCounts() {
        Edge.is("y1;y4;", Due.laid("y1;l0,0,9;h3,0;m1;y4;").yards(), 0);
        Edge.is("y4;y3;", Due.laid("y4;l0,0,9;h3,0;m1;y3;").yards(), 1);
        Edge.is("y1;y9;y3;", Due.laid("y1;y9;y3;l0,0,9;h3,0;m1;").yards(), 1);
    }

    @Says(promise = 5, words = "of several the last one counts")
    static void whatAnEarlierTextToldIsForgotten() {
        DewLooms x = Due.laid("l0,0,9;h9,1;s0;m1;y1;");
        Due.write(x, "l0,0,9;");
        x.lay();
        x.wipe();
        Edge.isLike("laid without sun, merchants, yard, hours", x,
            Due.laid("l0,0,9;s6;m9;y6;h4,0;"));
    }

    // ---- promise 6

    @Says(promise = 6, words = {"KIND (what = 0), PLACE (1), THREADS (2), DROPS (3), what is"
        + " SPOILED on it (4), 1 if it has SHADE (5)", "BAD"})
    static void loomTells0To5() {
        Edge.takes(0, 5, "loom(0, what)", Edge::busy, (x, n) -> x.loom(0, n));
        Edge.takes(0, 5, "loom(4, what)", Edge::nothing, (x, n) -> x.loom(4, n));
        DewLooms x = Due.laid("l2,9,8;l1,7,1;h9,0;");
        x.pass(1);
        x.shade(0);
        int[][] want = {{2, 9, 8, 9, 15, 1}, {1, 7, 1, 3, 0, 0}};
        for (int l = 0; l < want.length; l++) {
            for (int what = 0; what < 6; what++) {
                Edge.is("loom(" + l + ", " + what + ")", x.loom(l, what), want[l][what]);
            }
        }
    }

    @Says(promise = 6, words = "BAD: a number is none that is told (LOOMS: such as there are)")
    static void loomTakesLoomsThatThereAre() {
        Edge.takes(0, 4, "loom(l, 0)", Edge::busy, (x, n) -> x.loom(n, 0));
        Edge.takes(0, 0, "loom(l, 0) of one", Loomed::one, (x, n) -> x.loom(n, 0));
        Edge.takes(0, 5, "loom(l, 0) of six", Loomed::six, (x, n) -> x.loom(n, 0));
    }

    @Says(promise = 6, words = {"(0 PLAIN, 1 SPIDER's, 2 BRIDE's, 3 SHEET)", "0, 1, .."})
    static void loomsAreNumberedAsInTheText() {
        DewLooms x = Due.laid("l3,9,1;l2,0,9;s1;l1,5,2;h1,1;l0,4,3;");
        int[][] want = {{3, 9, 1}, {2, 0, 9}, {1, 5, 2}, {0, 4, 3}};
        for (int l = 0; l < want.length; l++) {
            for (int what = 0; what < 3; what++) {
                Edge.is("loom(" + l + ", " + what + ")", x.loom(l, what), want[l][what]);
            }
        }
    }

    // ---- promise 7

    @Says(promise = 7, words = {"Of an HOUR (0 to 99)", "BAD"})
    static void hourTakes0To99() {
        Edge.takes(0, 99, "hour(h, 0)", Edge::busy, (x, n) -> x.hour(n, 0));
        Edge.takes(0, 99, "hour(h, 1)", Edge::nothing, (x, n) -> x.hour(n, 1));
    }

    @Says(promise = 7, words = "COLD (what = 0), MIST (1)")
    static void hourTells0And1() {
        Edge.takes(0, 1, "hour(0, what)", Edge::busy, (x, n) -> x.hour(0, n));
        Edge.takes(0, 1, "hour(99, what)", Edge::nothing, (x, n) -> x.hour(99, n));
    }

    @Says(promise = 7, words = "12 at most, HOUR 0, 1, ..")
    static void hoursAreNumberedAsInTheText() {
        DewLooms x = Due.laid("l0,0,1;" + TWELVE_HOURS);
        int[] colds = {1, 2, 3, 4, 5, 6, 7, 8, 9, 0, 1, 2};
        int[] mists = {0, 1, 0, 1, 0, 1, 0, 1, 0, 1, 1, 0};
        for (int h = 0; h < colds.length; h++) {
            Edge.is("hour(" + h + ", 0)", x.hour(h, 0), colds[h]);
            Edge.is("hour(" + h + ", 1)", x.hour(h, 1), mists[h]);
        }
    }

    @Says(promise = 7, words = "behind the last one all are as that (4, 0 without any)")
    static void hoursBehindTheLastAreAsThat() {
        DewLooms twelve = Due.laid("l0,0,1;" + TWELVE_HOURS);
        DewLooms one = Due.laid("l0,0,1;h7,1;");
        DewLooms two = Due.laid("l0,0,1;h7,1;h0,0;");
        for (int h = 12; h <= 99; h++) {
            Edge.is("hour(" + h + ", 0) of 12", twelve.hour(h, 0), 2);
            Edge.is("hour(" + h + ", 1) of 12", twelve.hour(h, 1), 0);
        }
        for (int h = 0; h <= 99; h++) {
            Edge.is("hour(" + h + ", 0) of 1", one.hour(h, 0), 7);
            Edge.is("hour(" + h + ", 1) of 1", one.hour(h, 1), 1);
            Edge.is("hour(" + h + ", 0) of 2", two.hour(h, 0), h == 0 ? 7 : 0);
            Edge.is("hour(" + h + ", 1) of 2", two.hour(h, 1), h == 0 ? 1 : 0);
        }
    }

    @Says(promise = 7, words = "(4, 0 without any)")
    static void hoursWithoutAnyAreOfCold4() {
        DewLooms x = Due.laid("l0,0,9;l3,1,9;");
        for (int h = 0; h <= 99; h += 11) {
            Edge.is("hour(" + h + ", 0)", x.hour(h, 0), 4);
            Edge.is("hour(" + h + ", 1)", x.hour(h, 1), 0);
        }
        x.pass(1);
        Edge.is("a plain one's drops", x.loom(0, 3), 4);
        Edge.is("a sheet's", x.loom(1, 3), 4);
    }

    // ---- promise 8

    @Says(promise = 8, words = {"The LOOM on a PLACE", "BAD"})
    static void atTakes0To9() {
        Edge.takes(0, 9, "at", Edge::busy, (x, n) -> x.at(n));
        Edge.takes(0, 9, "at", Edge::nothing, (x, n) -> x.at(n));
    }

    @Says(promise = 8, words = "The LOOM on a PLACE")
    static void atTellsTheUppermostAndTheLowest() {
        DewLooms x = Due.laid("l0,9,1;l0,0,1;");
        Edge.is("at(9)", x.at(9), 0);
        Edge.is("at(0)", x.at(0), 1);
        Edge.is("at(9) of six", Due.laid(SIX_LOOMS.replace("l0,5", "l0,9")).at(9), 5);
    }

    @Says(promise = 8, words = "NONE")
    static void atIsNoneWhereNoLoomStands() {
        DewLooms x = Due.laid("l0,4,1;");
        for (int p = 0; p < 10; p++) {
            Edge.is("at(" + p + ")", x.at(p), p == 4 ? 0 : NONE);
        }
        x.set(0, 9);
        Edge.is("at(4) when it has left", x.at(4), NONE);
        Edge.is("at(9)", x.at(9), 0);
        x.undo();
        Edge.is("at(9) when that is undone", x.at(9), NONE);
    }
}
