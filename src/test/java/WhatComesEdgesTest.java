/** The edges of promises 15 to 20: what hangs behind hours, yards, settings, shade, threads. */
public final class WhatComesEdgesTest {
    private static final int BAD = Edge.BAD, NONE = Edge.NONE;

    public static void main(String[] args) throws ReflectiveOperationException {
        Edge.run(WhatComesEdgesTest.class);
    }

    private static void takesLooms(String call, Edge.CallOf of) {
        Edge.takes(0, 4, call, Edge::busy, of);
        Edge.takes(0, 0, call + " of one", Loomed::one, of);
        Edge.takes(0, 5, call + " of six", Loomed::six, of);
    }

    // ---- promise 15

    @Says(promise = 15, words = {"BEHIND n (0 to 24) HOURS", "BAD"})
    static void behindTakes0To24() {
        Edge.takes(0, 24, "behind(n, 0, 0)", Edge::busy, (x, n) -> x.behind(n, 0, 0));
        Edge.takes(0, 24, "behind(n, 2, 1)", Edge::nothing, (x, n) -> x.behind(n, 2, 1));
    }

    @Says(promise = 15, words = "DROPS (what = 0), SPOILED (1)")
    static void behindTellsDropsAndSpoiled() {
        Edge.takes(0, 1, "behind(1, 2, what)", Edge::busy, (x, n) -> x.behind(1, 2, n));
        DewLooms x = Due.laid("l0,0,1;l2,1,9;h5,0;s2;");
        int[] drops = {0, 5, 10, 8, 6};
        int[] spoiled = {0, 2, 7, 7, 7};
        for (int n = 0; n < drops.length; n++) {
            Edge.is("behind(" + n + ", 1, 0)", x.behind(n, 1, 0), drops[n]);
            Edge.is("behind(" + n + ", 1, 1)", x.behind(n, 1, 1), spoiled[n]);
        }
    }

    @Says(promise = 15, words = "BAD: a number is none that is told (LOOMS: such as there are)")
    static void behindTakesLoomsThatThereAre() {
        takesLooms("behind(1, l, 0)", (x, l) -> x.behind(1, l, 0));
    }

    @Says(promise = 15, words = "BEHIND n (0 to 24) HOURS")
    static void behind0IsNow() {
        DewLooms x = Edge.made(Edge::busy);
        for (int l = 0; l < 5; l++) {
            Edge.is("behind(0, " + l + ", 0)", x.behind(0, l, 0), x.loom(l, 3));
            Edge.is("behind(0, " + l + ", 1)", x.behind(0, l, 1), x.loom(l, 4));
        }
    }

    @Says(promise = 15, words = "BEHIND n (0 to 24) HOURS")
    static void behind24IsAsIfSoManyHadGoneBy() {
        DewLooms x = Due.laid("l0,0,9;l2,1,9;h9,0;s20;");
        DewLooms gone = Due.laid("l0,0,9;l2,1,9;h9,0;s20;");
        gone.pass(24);
        for (int l = 0; l < 2; l++) {
            Edge.is("behind(24, " + l + ", 0)", x.behind(24, l, 0), 27 - 2 * 4);
            Edge.is("as gone by", gone.loom(l, 3), 27 - 2 * 4);
            Edge.is("behind(24, " + l + ", 1)", x.behind(24, l, 1), l * 17 * 9);
            Edge.is("as gone by", gone.loom(l, 4), l * 17 * 9);
        }
    }

    @Says(promise = 15, words = "BEHIND n (0 to 24) HOURS")
    static void behindGoesAbove99() {
        DewLooms x = Due.laid("l3,0,9;h0,0;s0;");
        for (int i = 0; i < 4; i++) {
            x.pass(24);
        }
        x.pass(3);
        Edge.is("hour", x.count(1), 99);
        x.tears(0);
        x.tears(0);
        x.tears(0);
        Edge.is("behind(24, 0, 0)", x.behind(24, 0, 0), 3);
        Edge.is("behind(1, 0, 0)", x.behind(1, 0, 0), 26);
    }

    @Says(promise = 15, words = "BEHIND n (0 to 24) HOURS")
    static void behindChangesNothing() {
        Edge.changesNothing("behind(24, 0, 0)", Edge::busy, x -> x.behind(24, 0, 0));
        Edge.changesNothing("behind(24, 2, 1)", Edge::nothing, x -> x.behind(24, 2, 1));
    }

    // ---- promise 16

    @Says(promise = 16, words = "LOOMS (bits) that will have a YARD or more when merchants come")
    static void aYardIsEnoughOneDropLessIsNot() {
        Edge.is("5 of 5", Due.laid("l0,0,9;h5,0;m1;y5;").yards(), 1);
        Edge.is("5 of 6", Due.laid("l0,0,9;h5,0;m1;y6;").yards(), 0);
        Edge.is("5 of 4", Due.laid("l0,0,9;h5,0;m1;y4;").yards(), 1);
        Edge.is("27 of 27", Due.laid("l0,0,9;h9,0;m3;y27;").yards(), 1);
        Edge.is("26 of 27", Due.laid("l0,0,9;h9,0;h9,0;h8,0;m3;y27;").yards(), 0);
    }

    @Says(promise = 16, words = "LOOMS (bits) that will have a YARD or more when merchants come")
    static void yardsOfNoneAndOfAllSix() {
        for (int l = 0; l < 6; l++) {
            DewLooms x = Due.laid("l0,0,9;l0,1,9;l0,2,9;l0,3,9;l0,4,9;l0,5,9;h0,0;s9;m9;y9;");
            Edge.is("none of six", x.yards(), 0);
            x.tears(l);
            Edge.is("loom " + l + " alone", x.yards(), 1 << l);
        }
        Edge.is("all six",
            Due.laid("l0,0,9;l0,1,9;l0,2,9;l0,3,9;l0,4,9;l0,5,9;h9,0;m1;y9;").yards(), 63);
        Edge.is("none of one", Due.laid("l0,0,9;h0,0;m1;y1;").yards(), 0);
        Edge.is("one of one", Due.laid("l0,0,9;h1,0;m1;y1;").yards(), 1);
    }

    @Says(promise = 16, words = "behind as many HOURS as are left till HOUR M")
    static void yardsAreThoseBehindTheHoursThatAreLeft() {
        for (int hour = 1; hour <= 20; hour++) {
            DewLooms x = Due.laid("l0,0,9;h1,0;s20;m" + hour + ";y" + hour + ";");
            DewLooms more = Due.laid("l0,0,9;h1,0;s20;m" + hour + ";y" + (hour + 1) + ";");
            for (int gone = 0; gone < hour; gone++) {
                Edge.is("m" + hour + " in hour " + gone, x.yards(), 1);
                Edge.is("m" + hour + " in hour " + gone + ", a drop more", more.yards(), 0);
                x.pass(1);
                more.pass(1);
            }
        }
        Edge.is("24 hours", Due.laid("l0,0,9;h1,0;s20;m24;y12;").yards(), 1);
        Edge.is("24 hours", Due.laid("l0,0,9;h1,0;s20;m24;y13;").yards(), 0);
    }

    @Says(promise = 16, words = "now, if it is that or later")
    static void yardsAreThoseOfNowWhenMerchantsHaveCome() {
        DewLooms x = Due.laid("l0,0,9;h1,0;s20;m2;y2;");
        x.pass(1);
        Edge.is("an hour ahead: 1, and 1 more", x.yards(), 1);
        x.cow(0);
        Edge.is("an hour ahead: 0, and 1 more", x.yards(), 0);
        x.pass(1);
        Edge.is("in hour M: 1, and no more", x.yards(), 0);
        x.pass(1);
        Edge.is("an hour later: 2", x.yards(), 1);
        x.cow(0);
        Edge.is("an hour later: 1", x.yards(), 0);
        x.pass(24);
        Edge.is("in the sun: 18 - 2 * 7", x.yards(), 1);
        x.pass(1);
        x.pass(1);
        Edge.is("in the sun: 0", x.yards(), 0);
        x.pass(24);
        x.pass(24);
        x.pass(22);
        x.tears(0);
        Edge.is("hour", x.count(1), 99);
        Edge.is("in hour 99: tears", x.yards(), 1);
        Edge.changesNothing("yards()", Edge::busy, y -> y.yards());
    }

    // ---- promise 17

    private static void setting(String of, DewLooms x, int yards, int... places) {
        Edge.is("setting(-1) of " + of, x.setting(-1), yards);
        for (int k = 0; k < places.length; k++) {
            Edge.is("setting(" + k + ") of " + of, x.setting(k), places[k]);
        }
    }

    @Says(promise = 17, words = {"how many (k = -1), the PLACE of LOOM k", "BAD"})
    static void settingTakesMinus1ToTheLastLoom() {
        Edge.takes(-1, 4, "setting", Edge::busy, (x, k) -> x.setting(k));
        Edge.takes(-1, 0, "setting of one", Loomed::one, (x, k) -> x.setting(k));
        Edge.takes(-1, 5, "setting of six", Loomed::six, (x, k) -> x.setting(k));
    }

    private static void twoBrides(DewLooms x) {
        Due.write(x, "l2,0,1;l2,5,1;h4,0;m1;y1;");
        x.lay();
    }

    @Says(promise = 17, words = {"NONE", "the PLACE of the k-th LOOM; none"})
    static void settingIsNoneWhereEachWaySpoils() {
        setting("two brides", Edge.made(WhatComesEdgesTest::twoBrides), NONE, NONE, NONE);
        Edge.changesNothing("setting(0)", WhatComesEdgesTest::twoBrides, x -> x.setting(0));
        Edge.changesNothing("setting(0)", Edge::busy, x -> x.setting(0));
        // With 3 drops nothing runs from either.
        setting("two that do not run", Due.laid("l2,0,1;l2,5,1;h3,0;m1;y1;"), 2, 0, 5);
    }

    @Says(promise = 17, words = "Of several the first in this order")
    static void settingIsBadBeforeItIsNone() {
        Edge.refuses(BAD, "setting(2) of two brides", WhatComesEdgesTest::twoBrides,
            x -> x.setting(2));
        Edge.refuses(BAD, "setting(-2) of two brides", WhatComesEdgesTest::twoBrides,
            x -> x.setting(-2));
    }

    @Says(promise = 17, words = "by which nothing more is SPOILED by then")
    static void aWayBySpoiltDropIsNoWay() {
        // Loom 0 runs by the hour 1: nothing by then if merchants come with that, 1 if behind it.
        setting("merchants ahead of it", Due.laid("l1,0,1;l2,5,1;h1,0;m1;y1;"), 2, 0, 5);
        setting("merchants behind it", Due.laid("l1,0,1;l2,5,1;h1,0;m2;y1;"), 2, 5, 0);
        // What was spoiled before is nothing more.
        DewLooms x = Due.laid("l1,0,1;l2,5,1;h4,0;s1;m9;y1;");
        x.pass(1);
        Edge.is("spoiled", x.count(4), 5);
        setting("spoiled before the sun came", x, 0, 0, 5);
    }

    @Says(promise = 17, words = "by which nothing more is SPOILED by then, that by which most have"
        + " a YARD then")
    static void aWayWithMoreYardsThatSpoilsIsNoWay() {
        // Loom 3 has a yard by the 5 of loom 2, but holds no more: then a bride's 1 is spoiled on
        // the other one's. Nothing is spoiled only if loom 3, between them, has that 1.
        setting("two brides and a wide one",
            Due.laid("l2,0,1;l2,1,1;l1,2,1;l0,3,3;h4,0;m1;y9;"), 0, 0, 2, 3, 1);
        setting("one bride's and a wide one",
            Due.laid("l2,0,1;l3,1,1;l1,2,1;l0,3,3;h4,0;m1;y9;"), 1, 0, 1, 2, 3);
        setting("a bride's that was below", Due.laid("l0,4,1;l2,6,9;h4,0;m1;y4;"), 1, 6, 4);
    }

    @Says(promise = 17, words = "how many")
    static void noYardAtAllIsNotNone() {
        setting("0 yards", Due.laid("l0,3,1;l0,2,1;h0,0;m1;y1;"), 0, 2, 3);
        setting("0 yards of one", Due.laid("l0,9,1;h0,0;m1;y1;"), 0, 9);
    }

    @Says(promise = 17, words = "of several the first (by the PLACE of LOOM 0, then 1, ..)")
    static void ofSeveralWaysTheFirst() {
        setting("alike", Due.laid("l0,9,1;l0,8,1;l0,7,1;l0,5,1;l0,4,1;l0,3,1;h3,0;m1;y3;"),
            6, 3, 4, 5, 7, 8, 9);
        // Loom 2 wants what runs from loom 1: loom 0 goes first all the same, then loom 1.
        setting("two that hang together", Due.laid("l0,9,9;l0,7,1;l0,5,2;h4,0;m1;y5;"),
            1, 5, 7, 9);
        setting("merchants have come", Edge.made(y -> {
            y.set(0, 9);
            y.set(4, 0);
            y.pass(7);
        }), 1, 0, 2, 3, 5, 9);
    }

    @Says(promise = 17, words = "of all ways to set the LOOMS now on the PLACES on which any stand")
    static void theFirstOfAllWaysIsOne() {
        // A chain by which each wants the one above: 6, 5, .. drops run on, 1 of them is wanted.
        setting("the first of 720", Due.laid("l1,9,1;l0,8,3;l0,7,3;l0,5,3;l0,4,3;l0,3,3;"
            + "h8,0;m1;y9;"), 5, 3, 4, 5, 7, 8, 9);
    }

    @Says(promise = 17, words = "of all ways to set the LOOMS now on the PLACES on which any stand")
    static void theLastOfAllWaysIsOne() {
        // Of all 720 ways only the last one leaves 3 yards and spoils nothing.
        DewLooms x = Due.laid("l1,0,9;l3,1,8;l2,3,2;l3,4,9;l0,7,2;l2,9,9;h8,0;s9;m1;y27;");
        int[] tears = {0, 3, 2, 1, 0, 3};
        for (int l = 0; l < tears.length; l++) {
            for (int i = 0; i < tears[l]; i++) {
                x.tears(l);
            }
        }
        setting("the last of 720", x, 3, 9, 7, 4, 3, 1, 0);
        setting("the last of 2", Due.laid("l0,0,3;l0,9,1;h4,0;m1;y5;"), 1, 9, 0);
    }

    @Says(promise = 17, words = "that by which most have a YARD then, of several the first (by the"
        + " PLACE of LOOM 0, then 1, ..)")
    static void settingIsTheFirstOfAllWaysInThisOrder() {
        Way[] ways = {
            new Way("h8,0;s9;m1;y27;", "l1,9,3", "l3,8,0", "l2,2,0", "l3,9,1"),
            new Way("h4,0;s1;m2;y7;", "l0,3,3s", "l1,1,2", "l2,2,1", "l0,4,0s", "l3,5,0"),
            new Way("h9,0;m1;y24;", "l1,6,2", "l2,3,1", "l0,8,1", "l0,9,0", "l0,5,1", "l2,5,2"),
            new Way("h3,0;h1,1;m3;y9;", "l0,1,0", "l0,2,2", "l0,3,1", "l0,4,0", "l0,5,2", "l1,1,3"),
            new Way("h7,0;s1;m3;y5;", "l3,2,1", "l3,2,0s", "l0,2,2", "l0,3,1", "l2,1,2", "l1,4,0"),
            new Way("h2,0;m2;y4;", "l2,1,3", "l2,1,3", "l0,9,0", "l1,1,3", "l0,1,3", "l3,2,1"),
            new Way("h9,0;m1;y20;", "l0,1,0", "l0,9,0", "l0,2,0", "l0,8,1", "l0,1,0", "l1,9,0")};
        for (Way way : ways) {
            way.seekFrom(0);
            DewLooms x = way.asAtFirst();
            setting(way.night, x, way.bestYards, way.best);
        }
    }

    /** All ways to set some looms, each made anew and looked at. */
    private static final class Way {
        private static final int[] PLACES = {0, 2, 3, 5, 8, 9};
        private final String night;
        private final String[] looms;
        private final int[] places;
        private final int[] best;
        private int bestYards = NONE;

        /** Of looms by kind, threads, how many tears, and s with shade. */
        Way(String night, String... looms) {
            this.night = night;
            this.looms = looms;
            places = new int[looms.length];
            best = new int[looms.length];
            java.util.Arrays.fill(best, NONE);
        }

        DewLooms asAtFirst() {
            // From below: the way in which they stand is not the first one.
            for (int l = 0; l < looms.length; l++) {
                places[l] = PLACES[looms.length - 1 - l];
            }
            return made();
        }

        private DewLooms made() {
            StringBuilder text = new StringBuilder();
            for (int l = 0; l < looms.length; l++) {
                text.append(looms[l], 0, 3).append(places[l]).append(',').append(looms[l].charAt(3))
                    .append(';');
            }
            DewLooms x = Due.laid(text + night);
            for (int l = 0; l < looms.length; l++) {
                for (int i = looms[l].charAt(5) - '0'; i > 0; i--) {
                    x.tears(l);
                }
                if (looms[l].endsWith("s")) {
                    x.shade(l);
                }
            }
            return x;
        }

        /** Sets the looms from l on, each on any place that is left, the uppermost first. */
        void seekFrom(int l) {
            if (l == looms.length) {
                look();
                return;
            }
            for (int p = 0; p < looms.length; p++) {
                boolean free = true;
                for (int other = 0; other < l; other++) {
                    free &= places[other] != PLACES[p];
                }
                if (free) {
                    places[l] = PLACES[p];
                    seekFrom(l + 1);
                }
            }
        }

        private void look() {
            DewLooms x = made();
            int yards = Integer.bitCount(x.yards());
            x.pass(night.charAt(night.indexOf('m') + 1) - '0');
            if (x.count(4) == 0 && yards > bestYards) {
                bestYards = yards;
                System.arraycopy(places, 0, best, 0, best.length);
            }
        }
    }

    @Says(promise = 17, words = "on the PLACES on which any stand")
    static void onlyPlacesOnWhichAnyStandNow() {
        DewLooms x = Due.laid("l0,0,1;l0,9,1;h0,0;m1;y1;");
        x.set(0, 5);
        setting("set elsewhere", x, 0, 5, 9);
        x.set(1, 0);
        setting("both set elsewhere", x, 0, 0, 5);
        x.undo();
        x.undo();
        setting("undone", x, 0, 0, 9);
    }

    @Says(promise = 17, words = "on the PLACES on which any stand")
    static void noPlacesOfAnEarlierNight() {
        // Each is the first to be asked behind the other night.
        int[] lower = {1, 5, 3};
        int[] upper = {1, 7, 9};
        for (int k = -1; k < 2; k++) {
            DewLooms x = Edge.made(Loomed::six);
            x.setting(-1);
            isLaid(x, "l0,3,3;l0,5,1;h4,0;m1;y5;");
            Edge.is("setting(" + k + ") of two behind six", x.setting(k), lower[k + 1]);
            isLaid(x, "l0,7,1;l0,9,3;h4,0;m1;y5;");
            Edge.is("setting(" + k + ") of two behind two", x.setting(k), upper[k + 1]);
            isLaid(x, "l0,6,3;");
            setting("one behind two", x, 0, 6);
        }
    }

    private static void isLaid(DewLooms x, String text) {
        x.wipe();
        Due.write(x, text);
        Edge.isTrue("lay of " + text, x.lay() > 0);
    }

    @Says(promise = 17, words = "each with its DROPS and SHADE")
    static void eachIsSetWithItsDropsAndShade() {
        DewLooms x = Due.laid("l0,0,1;l0,4,1;h1,0;s1;m2;y3;");
        x.tears(1);
        x.tears(1);
        x.tears(1);
        x.shade(0);
        // Loom 0 has 2 by the night; 3, which its shade keeps, only with 1 from the full loom 1.
        x.tears(0);
        setting("1 and 1 and 1", x, 1, 4, 0);
        x.shade(0);
        setting("without shade", x, 0, 0, 4);
        x.shade(0);
        x.cow(1);
        setting("with a cow on the full one", x, 0, 0, 4);
    }

    // ---- promise 18

    @Says(promise = 18, words = {"how many YARDS (what = 0), which (1)", "BAD"})
    static void shadingTakes0And1() {
        Edge.takes(0, 1, "shading", Edge::busy, (x, n) -> x.shading(n));
        Edge.takes(0, 1, "shading", Loomed::six, (x, n) -> x.shading(n));
        Edge.changesNothing("shading(0)", Edge::busy, x -> x.shading(0));
        Edge.changesNothing("shading(1)", Edge::busy, x -> x.shading(1));
    }

    private static void shading(String of, DewLooms x, int yards, int set) {
        Edge.is("shading(0) of " + of, x.shading(0), yards);
        Edge.is("shading(1) of " + of, x.shading(1), set);
    }

    @Says(promise = 18, words = "most are in YARDS, of several that of fewest")
    static void noLoomIsShadedWithoutNeed() {
        shading("yards without", Due.laid("l0,0,9;l0,1,9;h9,0;s1;m2;y7;"), 2, 0);
        shading("no yards with", Due.laid("l0,0,9;l0,1,9;h9,0;s1;m2;y10;"), 0, 0);
        shading("no sun by then", Due.laid("l0,0,9;l0,1,9;h9,0;s2;m2;y18;"), 2, 0);
        shading("a yard by the last drop", Due.laid("l0,0,9;l3,1,9;h9,0;s1;m2;y8;"), 2, 1);
    }

    @Says(promise = 18, words = "of sets of LOOMS without SHADE that one by which, SHADE being"
        + " hired for them now, most are in YARDS")
    static void allSixMayBeShaded() {
        DewLooms x = Due.laid("l0,0,9;l0,1,9;l0,2,9;l0,3,9;l0,4,9;l0,5,9;h9,0;s1;m2;y9;");
        shading("all six", x, 6, 63);
        for (int l = 0; l < 6; l++) {
            x.shade(l);
            shading("those without shade", x, 6, 63 & ~((2 << l) - 1));
        }
        x.shade(5);
        shading("the last one alone", x, 6, 32);
        shading("one of one", Due.laid("l0,0,9;h9,0;s1;m2;y9;"), 1, 1);
    }

    @Says(promise = 18, words = "SHADE being hired for them now")
    static void shadeThatIsHiredTooLateIsNone() {
        DewLooms x = Due.laid("l0,0,9;h9,0;s1;m3;y9;");
        shading("before the sun", x, 1, 1);
        x.pass(1);
        shading("as the sun comes", x, 1, 1);
        x.pass(1);
        shading("behind an hour of sun", x, 0, 0);
        DewLooms one = Due.laid("l0,0,9;h9,0;s1;m3;y7;");
        one.pass(2);
        shading("an hour ahead of merchants", one, 1, 1);
        one.pass(1);
        shading("in hour M", one, 0, 0);
    }

    @Says(promise = 18, words = "most are in YARDS, of several that of fewest, then the lowest as"
        + " bits")
    static void shadingIsTheFirstOfAllSetsInThisOrder() {
        String[] nights = {"l0,0,2;l3,1,9;l0,2,1;l1,5,3;l2,7,9;l0,9,4;h6,0;s1;m2;y",
            "l0,0,9;l0,1,9;l0,2,9;l0,3,9;l0,4,9;l0,5,9;h9,0;s1;m2;y",
            "l3,9,2;l1,4,1;l0,0,3;l0,3,1;h5,0;h8,0;s2;m5;y"};
        for (String night : nights) {
            for (int yard = 1; yard <= 12; yard++) {
                for (int shaded = 0; shaded < 4; shaded++) {
                    isTheFirstOfAllSets(night + yard + ";", shaded);
                }
            }
        }
    }

    private static DewLooms shaded(String night, int set) {
        DewLooms x = Due.laid(night);
        for (int l = 0; l < 6; l++) {
            if ((set >> l & 1) == 1) {
                x.shade(l);
            }
        }
        return x;
    }

    private static void isTheFirstOfAllSets(String night, int before) {
        DewLooms x = shaded(night, before);
        int best = 0;
        int yards = -1;
        for (int set = 0; set < 1 << x.count(0); set++) {
            int then = Integer.bitCount(shaded(night, before | set).yards());
            boolean fewer = Integer.bitCount(set) < Integer.bitCount(best);
            if ((set & before) == 0 && (then > yards || then == yards && fewer)) {
                best = set;
                yards = then;
            }
        }
        shading(night + " with shade for " + before, x, yards, best);
    }

    // ---- promise 19

    @Says(promise = 19, words = {"WANTS", "BAD"})
    static void wantsTakesLoomsThatThereAre() {
        takesLooms("wants", (x, l) -> x.wants(l));
        Edge.changesNothing("wants(1)", Edge::busy, x -> x.wants(1));
    }

    @Says(promise = 19, words = "how many THREADS more (0 to 9) it wants now to be one of YARDS,"
        + " the fewest; none")
    static void wantsAre0To9ThreadsMore() {
        for (int hours = 1; hours <= 12; hours++) {
            // 3 drops by each hour, each of which wants a thread; a yard is all of them.
            int yard = Math.min(27, 3 * hours);
            String night = "l0,0,1;h3,0;s20;m" + hours + ";y" + yard + ";";
            Edge.is("wants(0) of " + night, Due.laid(night).wants(0), Math.min(hours, 9) - 1);
        }
        // 54 settle by night; what it holds is less by 2 for each hour of sun.
        Edge.is("27 for 27", Due.laid("l1,0,1;h9,0;s3;m3;y27;").wants(0), 8);
        Edge.is("27 for 25", Due.laid("l1,0,1;h9,0;s3;m4;y25;").wants(0), 8);
        Edge.is("30 for 28 or less", Due.laid("l1,0,1;h9,0;s3;m4;y27;").wants(0), 9);
        Edge.is("30 for 26", Due.laid("l1,0,1;h9,0;s3;m5;y26;").wants(0), 9);
        Edge.is("33 for 27", Due.laid("l1,0,1;h9,0;s3;m5;y27;").wants(0), NONE);
    }

    @Says(promise = 19, words = "NONE")
    static void wantsIsNoneWhereThreadsAreNoHelp() {
        Edge.is("too few settle", Due.laid("l0,0,1;h1,0;m1;y2;").wants(0), NONE);
        Edge.is("enough settle", Due.laid("l0,0,1;h2,0;m1;y2;").wants(0), 0);
        DewLooms x = Due.laid("l0,0,1;h9,0;m1;y4;");
        Edge.is("an hour ahead", x.wants(0), 1);
        x.pass(1);
        Edge.is("in hour M", x.wants(0), NONE);
        DewLooms y = Due.laid("l0,0,1;h9,0;m1;y3;");
        y.pass(1);
        Edge.is("in hour M, with a yard", y.wants(0), 0);
        y.cow(0);
        Edge.is("in hour M, without", y.wants(0), NONE);
    }

    @Says(promise = 19, words = "how many THREADS more (0 to 9)")
    static void wantsMayGoAbove9ThreadsInAll() {
        Edge.is("48 for 28 or less", Due.laid("l1,0,9;h9,0;s3;m13;y27;").wants(0), 7);
        Edge.is("54 for 26", Due.laid("l1,0,9;h9,0;s3;m17;y26;").wants(0), 9);
        Edge.is("57 for 27", Due.laid("l1,0,9;h9,0;s3;m17;y27;").wants(0), NONE);
    }

    @Says(promise = 19, words = "to be one of YARDS")
    static void wantsIsOfOneLoomAlone() {
        // More threads of the upper one leave less for the lower one.
        DewLooms x = Due.laid("l0,0,1;l0,9,3;h4,0;m1;y5;");
        Edge.is("the upper one has 4 at most", x.wants(0), NONE);
        Edge.is("the lower one has 5", x.wants(1), 0);
        DewLooms y = Due.laid("l0,0,1;l0,9,1;h4,0;m1;y4;");
        Edge.is("the upper one", y.wants(0), 1);
        Edge.is("the lower one", y.wants(1), 1);
        Edge.is("threads", y.loom(0, 2) + y.loom(1, 2), 2);
    }

    // ---- promise 20

    @Says(promise = 20, words = {"DRIPS", "BAD"})
    static void dripsTakesLoomsThatThereAre() {
        takesLooms("drips", (x, l) -> x.drips(l));
        Edge.changesNothing("drips(2)", Edge::busy, x -> x.drips(2));
        Edge.changesNothing("drips(2)", x -> x.pass(1), x -> x.drips(2));
    }

    @Says(promise = 20, words = "the one next above it, if anything would run down from there in"
        + " the next HOUR; none")
    static void dripsFromTheFirstDropThatIsMore() {
        Edge.is("3 of 3", Due.laid("l0,0,1;l0,1,1;h3,0;").drips(1), NONE);
        Edge.is("4 of 3", Due.laid("l0,0,1;l0,1,1;h4,0;").drips(1), 0);
        Edge.is("4 of 3 far above", Due.laid("l0,9,1;l0,0,1;h4,0;").drips(0), 1);
        DewLooms x = Due.laid("l0,0,1;l0,1,1;h0,0;");
        x.tears(0);
        x.tears(0);
        x.tears(0);
        Edge.is("full, but nothing settles", x.drips(1), NONE);
    }

    @Says(promise = 20, words = "NONE")
    static void nothingDripsOnTheUppermost() {
        DewLooms x = Due.laid("l0,9,1;l0,8,1;h9,0;");
        Edge.is("the lower", x.drips(0), 1);
        Edge.is("the uppermost", x.drips(1), NONE);
        Edge.is("one alone", Due.laid("l0,9,1;h9,0;").drips(0), NONE);
        x.set(0, 0);
        Edge.is("when it is uppermost", x.drips(0), NONE);
        Edge.is("when it is not", x.drips(1), 0);
        DewLooms six = Due.laid("l0,9,1;l0,8,1;l0,6,1;l0,5,1;l0,3,1;l0,0,1;h4,0;");
        int[] above = {1, 2, 3, 4, 5, NONE};
        for (int l = 0; l < 6; l++) {
            Edge.is("drips(" + l + ") of six", six.drips(l), above[l]);
        }
    }

    @Says(promise = 20, words = "in the next HOUR")
    static void dripsOfTheNextHourAlone() {
        DewLooms x = Due.laid("l0,0,1;l0,1,1;h2,0;s2;");
        Edge.is("2 of 3", x.drips(1), NONE);
        x.pass(1);
        Edge.is("4 of 3, the hour ahead of the sun", x.drips(1), 0);
        x.pass(1);
        Edge.is("in the sun", x.drips(1), NONE);
        Edge.is("the sun comes with the hour 0", Due.laid("l0,0,1;l0,1,1;h9,0;s0;").drips(1), NONE);
        Edge.is("the sun comes with the hour 1", Due.laid("l0,0,1;l0,1,1;h9,0;s1;").drips(1), 0);
    }

    @Says(promise = 20, words = "the one next above it")
    static void dripsFromTheOneNextAboveAlone() {
        // From loom 0 on top 6 run, of which loom 1 holds all.
        DewLooms x = Due.laid("l0,0,1;l0,4,9;l0,9,1;h9,0;");
        Edge.is("the middle one", x.drips(1), 0);
        Edge.is("the lowest", x.drips(2), NONE);
        // What runs on through it counts.
        DewLooms y = Due.laid("l0,0,1;l0,4,2;l0,9,1;h4,0;");
        y.tears(1);
        Edge.is("6 of 6 and 1 more", y.drips(2), 1);
        y.undo();
        Edge.is("5 of 6", y.drips(2), NONE);
    }

    @Says(promise = 20, words = "if anything would run down from there")
    static void whatIsSpoiledDripsToo() {
        DewLooms x = Due.laid("l0,0,1;l2,1,9;l0,2,1;h4,0;");
        Edge.is("on a bride's", x.drips(1), 0);
        Edge.is("from a bride's, which takes nothing", x.drips(2), NONE);
        DewLooms y = Due.laid("l2,0,1;l0,1,9;h4,0;");
        Edge.is("from a bride's own", y.drips(1), 0);
    }
}
