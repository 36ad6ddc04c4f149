/** The edges of promises 9 to 14: hours that go by, shade, a cow, tears, looms set, undone. */
public final class ActsEdgesTest {
    private static final int BAD = Edge.BAD, NO = Edge.NO, NONE = Edge.NONE;

    public static void main(String[] args) throws ReflectiveOperationException {
        Edge.run(ActsEdgesTest.class);
    }

    /** How many drops a loom has behind 1, 2, .. hours of a night. */
    private static void dropsBy(String night, int l, int... want) {
        DewLooms x = Due.laid(night);
        for (int n = 0; n < want.length; n++) {
            x.pass(1);
            Edge.is("drops of " + l + " behind " + (n + 1) + " of " + night, x.loom(l, 3), want[n]);
        }
    }

    private static void ranOffBy(String night, int... want) {
        DewLooms x = Due.laid(night);
        for (int n = 0; n < want.length; n++) {
            x.pass(1);
            Edge.is("run off behind " + (n + 1) + " of " + night, x.count(3), want[n]);
        }
    }

    private static void spoiledBy(String night, int l, int... want) {
        DewLooms x = Due.laid(night);
        for (int n = 0; n < want.length; n++) {
            x.pass(1);
            Edge.is("spoiled on " + l + " behind " + (n + 1) + " of " + night, x.loom(l, 4),
                want[n]);
        }
    }

    /** Hours gone by in calls of a day at most. */
    private static void passTo(DewLooms x, int hour) {
        while (x.count(1) < hour) {
            x.pass(Math.min(24, hour - x.count(1)));
        }
    }

    private static void takesLooms(String call, Edge.CallOf of) {
        Edge.takes(0, 4, call, Edge::busy, of);
        Edge.takes(0, 0, call + " of one", Loomed::oneInNight, of);
        Edge.takes(0, 5, call + " of six", Loomed::sixInNight, of);
    }

    // ---- promise 9: how many hours

    @Says(promise = 9, words = {"n (1 to 24) HOURS go by", "BAD"})
    static void passTakes1To24() {
        Edge.takes(1, 24, "pass", Edge::busy, (x, n) -> x.pass(n));
        Edge.takes(1, 24, "pass", Edge::nothing, (x, n) -> x.pass(n));
        DewLooms x = new DewLooms();
        x.pass(1);
        Edge.is("hour behind pass(1)", x.count(1), 1);
        x.pass(24);
        Edge.is("hour behind pass(24)", x.count(1), 25);
    }

    @Says(promise = 9, words = "NO: above 99")
    static void passGoesTo99() {
        DewLooms x = Edge.made(y -> passTo(y, 75));
        Edge.is("pass(24) from 75", x.pass(24), 0);
        Edge.is("hour", x.count(1), 99);
        DewLooms y = Edge.made(z -> passTo(z, 98));
        Edge.is("pass(1) from 98", y.pass(1), 0);
        Edge.is("hour", y.count(1), 99);
    }

    @Says(promise = 9, words = "NO: above 99")
    static void passAbove99IsRefused() {
        Edge.refuses(NO, "pass(24) from 76", x -> passTo(x, 76), x -> x.pass(24));
        Edge.refuses(NO, "pass(2) from 98", x -> passTo(x, 98), x -> x.pass(2));
        Edge.refuses(NO, "pass(1) from 99", x -> passTo(x, 99), x -> x.pass(1));
        Edge.refuses(NO, "pass(24) from 99", x -> passTo(x, 99), x -> x.pass(24));
    }

    @Says(promise = 9, words = "Of several the first in this order")
    static void passIsBadBeforeItIsNo() {
        for (int n : new int[] {0, 25, -1, Integer.MAX_VALUE, Integer.MIN_VALUE}) {
            Edge.refuses(BAD, "pass(" + n + ") from 99", x -> passTo(x, 99), x -> x.pass(n));
        }
    }

    @Says(promise = 9, words = "how many DROPS hang then")
    static void passTellsTheDropsOfAll() {
        Edge.is("none", Due.laid("l0,0,9;h0,0;").pass(1), 0);
        Edge.is("none of six", Due.laid("l0,0,9;l0,1,9;l0,2,9;l0,3,9;l1,4,9;l3,5,9;h0,0;").pass(9),
            0);
        Edge.is("as many as can be",
            Due.laid("l0,0,9;l0,1,9;l0,2,9;l0,3,9;l1,4,9;l3,5,9;h9,0;s20;").pass(20), 6 * 27);
        Edge.is("of one loom", Due.laid("l0,9,1;h2,0;").pass(1), 2);
    }

    // ---- promise 9: what settles

    @Says(promise = 9, words = "A LOOM holds 3 DROPS a THREAD at most")
    static void aLoomHolds3AThread() {
        for (int threads = 1; threads <= 9; threads++) {
            DewLooms x = Due.laid("l0,0," + threads + ";h3,0;h3,0;h3,0;h3,0;h3,0;h3,0;h3,0;h3,0;"
                + "h3,0;h1,0;s20;");
            Edge.is("full", x.behind(threads, 0, 0), 3 * threads);
            Edge.is("one hour more", x.behind(threads + 1, 0, 0), 3 * threads);
            Edge.is("one hour less", x.behind(threads - 1, 0, 0), 3 * threads - 3);
        }
    }

    @Says(promise = 9, words = {"A LOOM holds 3 DROPS a THREAD at most",
        "what is more than it holds runs down to the next one below"})
    static void aFullLoomRunsByTheFirstDropThatIsMore() {
        ranOffBy("l0,0,1;h3,0;h0,0;h1,0;", 0, 0, 1);
        ranOffBy("l0,0,1;h2,0;h2,0;", 0, 1);
        dropsBy("l0,0,1;l0,1,9;h3,0;h0,0;h1,0;", 1, 3, 3, 5);
        dropsBy("l0,0,1;l0,1,9;h2,0;h1,0;h1,0;", 1, 2, 3, 5);
    }

    @Says(promise = 9, words = "By an HOUR ahead of HOUR S")
    static void theHourAheadOfTheSunIsNight() {
        dropsBy("l0,0,9;h3,0;s1;", 0, 3, 1);
        dropsBy("l0,0,9;h3,0;s2;", 0, 3, 6, 4);
        Edge.is("hour 19 of s20", Due.laid("l0,0,9;h1,0;s20;").behind(20, 0, 0), 20);
        Edge.is("hour 20 of s20", Due.laid("l0,0,9;h1,0;s20;").behind(21, 0, 0), 18);
        dropsBy("l0,0,9;h9,1;s0;", 0, 0, 0);
    }

    @Says(promise = 9, words = "as many as the COLD")
    static void asManySettleAsTheCold() {
        for (int cold = 0; cold <= 9; cold++) {
            dropsBy("l0,0,9;h" + cold + ",0;", 0, cold, 2 * cold);
            dropsBy("l2,0,9;h" + cold + ",0;", 0, cold, 2 * cold);
        }
    }

    @Says(promise = 9, words = "in MIST half of that, cut")
    static void inMistHalfOfThatSettlesCut() {
        int[] halves = {0, 0, 1, 1, 2, 2, 3, 3, 4, 4};
        for (int cold = 0; cold <= 9; cold++) {
            // Each hour is cut alone: 1 and 1 in mist are none.
            dropsBy("l0,0,9;h" + cold + ",1;", 0, halves[cold], 2 * halves[cold]);
            dropsBy("l2,0,9;h" + cold + ",1;", 0, halves[cold], 2 * halves[cold]);
        }
    }

    @Says(promise = 9, words = "on a SPIDER's twice as many as on others: of that half, where it is"
        + " cut, too")
    static void twiceAsManySettleOnASpiders() {
        int[] inMist = {0, 0, 2, 2, 4, 4, 6, 6, 8, 8};
        for (int cold = 0; cold <= 9; cold++) {
            dropsBy("l1,0,9;h" + cold + ",0;", 0, 2 * cold);
            dropsBy("l1,0,9;h" + cold + ",1;", 0, inMist[cold]);
        }
    }

    @Says(promise = 9, words = "on a SHEET as many as the COLD and in MIST 2 more")
    static void onASheetInMist2MoreSettle() {
        for (int cold = 0; cold <= 9; cold++) {
            dropsBy("l3,0,9;h" + cold + ",0;", 0, cold);
            dropsBy("l3,0,9;h" + cold + ",1;", 0, cold + 2);
        }
    }

    // ---- promise 9: what runs

    @Says(promise = 9, words = "from the uppermost LOOM down")
    static void nothingRunsToTheUppermost() {
        dropsBy("l0,0,9;l0,1,1;h9,0;s3;", 0, 9, 18, 27);
        dropsBy("l0,9,9;l0,8,1;h9,0;s3;", 1, 3, 3, 3);
        dropsBy("l0,9,9;l0,8,1;h9,0;s3;", 0, 15, 27, 27);
        spoiledBy("l2,0,1;l0,1,1;h9,0;s3;", 0, 0, 0, 0);
    }

    @Says(promise = 9, words = "those that ran down from the next LOOM above it in this HOUR")
    static void whatRanDownComesOverAnyGap() {
        dropsBy("l0,0,1;l0,9,9;h4,0;s3;", 1, 5, 13, 21);
        dropsBy("l0,0,1;l0,1,9;h4,0;s3;", 1, 5, 13, 21);
        // Through a full one in between, and only as far as one has room.
        dropsBy("l0,0,1;l0,5,2;l0,9,9;h4,0;s3;", 1, 5, 6, 6);
        dropsBy("l0,0,1;l0,5,2;l0,9,9;h4,0;s3;", 2, 4, 15, 27);
    }

    @Says(promise = 9, words = "in this HOUR")
    static void whatRanDownInAnEarlierHourComesNoMore() {
        dropsBy("l0,0,1;l0,1,9;h5,0;h0,0;h1,0;", 1, 7, 7, 9);
        ranOffBy("l0,0,1;h5,0;h0,0;h0,0;", 2, 2, 2);
    }

    @Says(promise = 9, words = "from the lowest one it RUNS OFF")
    static void itRunsOffFromTheLowestAlone() {
        ranOffBy("l0,0,1;l0,9,9;h9,0;s2;", 0, 6);
        ranOffBy("l0,0,9;l0,9,1;h9,0;s4;", 6, 15, 24, 42);
        ranOffBy("l0,9,1;l0,0,9;h9,0;s4;", 6, 15, 24, 42);
        ranOffBy("l1,5,1;h9,0;s2;", 15, 33);
    }

    @Says(promise = 9, words = "A BRIDE's takes nothing that runs down to it: that is SPOILED"
        + " there")
    static void aBridesTakesNothingThatRunsDown() {
        dropsBy("l0,0,1;l2,1,9;h4,0;s3;", 1, 4, 8, 12);
        spoiledBy("l0,0,1;l2,1,9;h4,0;s3;", 1, 1, 5, 9);
        spoiledBy("l0,0,1;l2,9,9;h3,0;h1,0;h0,0;", 1, 0, 1, 1);
        // What is more than a bride's own holds runs down from it as from others.
        dropsBy("l2,0,1;l0,1,9;h4,0;s3;", 1, 5, 13, 21);
        ranOffBy("l0,0,1;l2,9,1;h4,0;s3;", 1, 5, 9);
        spoiledBy("l0,0,1;l2,4,1;l2,9,1;h4,0;s3;", 2, 1, 5, 9);
    }

    // ---- promise 9: the sun

    @Says(promise = 9, words = "In HOUR S and later nothing settles, nothing runs")
    static void nothingSettlesOrRunsInTheSun() {
        ranOffBy("l0,0,1;l0,1,1;h3,0;h9,0;s1;", 0, 0, 0);
        spoiledBy("l0,0,1;l2,1,1;h3,0;h9,0;s1;", 1, 0, 0, 0);
        dropsBy("l1,0,9;h3,0;h9,0;s1;", 0, 6, 4, 2, 0, 0);
        dropsBy("l0,0,1;l0,1,9;h9,1;s0;", 1, 0, 0);
    }

    @Says(promise = 9, words = "a LOOM that has no SHADE has 2 DROPS fewer (a SHEET 1), 0 at least")
    static void theSunLeaves0AtLeast() {
        dropsBy("l0,0,9;h5,0;s1;", 0, 5, 3, 1, 0, 0);
        dropsBy("l0,0,9;h4,0;s1;", 0, 4, 2, 0, 0);
        dropsBy("l0,0,9;h1,0;s1;", 0, 1, 0, 0);
        dropsBy("l1,0,9;h2,0;s1;", 0, 4, 2, 0, 0);
        dropsBy("l2,0,9;h3,0;s1;", 0, 3, 1, 0, 0);
        dropsBy("l3,0,9;h2,0;s1;", 0, 2, 1, 0, 0);
        Edge.is("24 hours of sun", Due.laid("l0,0,9;h0,0;s0;").pass(24), 0);
    }

    @Says(promise = 9, words = "by each such HOUR a LOOM that has no SHADE has 2 DROPS fewer (a"
        + " SHEET 1)")
    static void theSunComesOnceToEachOfOneToSix() {
        StringBuilder night = new StringBuilder("h0,0;s0;");
        for (int many = 1; many <= 6; many++) {
            night.append(many % 2 == 0 ? "l3," : "l0,").append(9 - many).append(",9;");
            DewLooms x = Due.laid(night.toString());
            for (int l = 0; l < many; l++) {
                x.tears(l);
            }
            x.pass(1);
            for (int l = 0; l < many; l++) {
                Edge.is("drops of " + l + " of " + many, x.loom(l, 3), l % 2 == 0 ? 7 : 8);
            }
        }
    }

    @Says(promise = 9, words = "a LOOM that has no SHADE has 2 DROPS fewer")
    static void inShadeNothingIsFewer() {
        for (int kind = 0; kind <= 3; kind++) {
            DewLooms x = Due.laid("l" + kind + ",0,9;l0,1,9;h1,0;s1;");
            x.pass(1);
            int drops = x.loom(0, 3);
            x.shade(0);
            x.pass(24);
            Edge.is("kind " + kind + " in shade", x.loom(0, 3), drops);
            Edge.is("the one below, without", x.loom(1, 3), 0);
            x.shade(0);
            x.pass(1);
            Edge.is("given up", x.loom(0, 3), 0);
        }
    }

    @Says(promise = 9, words = "a LOOM that has no SHADE has 2 DROPS fewer")
    static void shadeIsNothingByNight() {
        DewLooms x = Due.laid("l0,0,1;l0,1,9;h4,0;s2;");
        x.shade(0);
        x.shade(1);
        x.pass(1);
        Edge.is("settled", x.loom(0, 3), 3);
        Edge.is("settled and run down", x.loom(1, 3), 5);
    }

    // ---- promise 10

    @Says(promise = 10, words = {"SHADE is hired, or given up: 1 if it has it then, 0", "BAD"})
    static void shadeTakesLoomsThatThereAre() {
        takesLooms("shade", (x, l) -> x.shade(l));
    }

    @Says(promise = 10, words = "SHADE is hired for a LOOM, or given up")
    static void shadeOfNoneAndOfAll() {
        DewLooms x = Edge.made(Loomed::six);
        for (int l = 0; l < 6; l++) {
            Edge.is("count(5)", x.count(5), l);
            Edge.is("shade(" + l + ")", x.shade(l), 1);
            Edge.is("loom(" + l + ", 5)", x.loom(l, 5), 1);
        }
        for (int l = 0; l < 6; l++) {
            Edge.is("count(5)", x.count(5), 6 - l);
            Edge.is("shade(" + l + ") again", x.shade(l), 0);
            Edge.is("loom(" + l + ", 5)", x.loom(l, 5), 0);
        }
        Edge.is("count(5)", x.count(5), 0);
        Edge.is("shade(5) once more", x.shade(5), 1);
    }

    // ---- promise 11

    @Says(promise = 11, words = {"A COW: how many DROPS are left", "BAD"})
    static void cowTakesLoomsThatThereAre() {
        Edge.takes(0, 4, "cow", x -> x.pass(1), (x, l) -> x.cow(l));
        Edge.takes(0, 0, "cow of one", Loomed::oneInNight, (x, l) -> x.cow(l));
        Edge.takes(0, 5, "cow of six", Loomed::sixInNight, (x, l) -> x.cow(l));
    }

    @Says(promise = 11, words = "half its DROPS, rounded down, are left")
    static void aCowLeavesHalfRoundedDown() {
        for (int drops = 1; drops <= 27; drops++) {
            DewLooms x = Due.laid("l0,0,9;h1,0;s20;m24;");
            if (drops <= 20) {
                x.pass(drops);
            } else {
                x.tears(0);
                x.pass(drops - 9);
            }
            Edge.is("drops", x.loom(0, 3), drops);
            Edge.is("cow of " + drops, x.cow(0), drops / 2);
            Edge.is("drops", x.loom(0, 3), drops / 2);
        }
    }

    @Says(promise = 11, words = "NO: none are")
    static void aCowOnNoDropsIsRefused() {
        Edge.refuses(NO, "cow on a new one", Edge::nothing, x -> x.cow(4));
        Edge.refuses(NO, "cow behind a last drop", x -> {
            x.pass(1);
            x.cow(0);
            x.cow(0);
        }, x -> x.cow(0));
        Edge.refuses(NO, "cow in the sun", x -> x.pass(6), x -> x.cow(4));
        // Drops of another are not its own.
        Edge.refuses(NO, "cow beside tears", x -> x.tears(1), x -> x.cow(0));
    }

    @Says(promise = 11, words = "NO: none are")
    static void aCowOnOneDropIsNotRefused() {
        DewLooms x = Due.laid("l0,0,9;h1,0;");
        x.pass(1);
        Edge.is("cow of 1", x.cow(0), 0);
        Edge.is("it can be undone", x.count(8), 2);
        Edge.is("cow of 0", x.cow(0), NO);
        Edge.is("that cannot", x.count(8), 2);
    }

    @Says(promise = 11, words = "Of several the first in this order")
    static void cowIsBadBeforeItIsNo() {
        Edge.refuses(BAD, "cow(5) without any drop", Edge::nothing, x -> x.cow(5));
        Edge.refuses(BAD, "cow(-1) without any drop", Edge::nothing, x -> x.cow(-1));
    }

    // ---- promise 12

    @Says(promise = 12, words = {"TEARS: how many DROPS there are", "BAD"})
    static void tearsTakeLoomsThatThereAre() {
        Edge.takes(0, 4, "tears", Edge::nothing, (x, l) -> x.tears(l));
        Edge.takes(0, 0, "tears of one", Loomed::oneInNight, (x, l) -> x.tears(l));
        Edge.takes(0, 5, "tears of six", Loomed::six, (x, l) -> x.tears(l));
    }

    @Says(promise = 12, words = "it has as many more as it has THREADS, no more than it holds")
    static void tearsAreAsManyAsThreads() {
        for (int threads = 1; threads <= 9; threads++) {
            DewLooms x = Due.laid("l2,0," + threads + ";");
            Edge.is("tears of " + threads, x.tears(0), threads);
            Edge.is("tears again", x.tears(0), 2 * threads);
            Edge.is("full", x.tears(0), 3 * threads);
            Edge.is("more", x.tears(0), NO);
        }
    }

    @Says(promise = 12, words = "no more than it holds")
    static void tearsAreCutWhereItIsFull() {
        for (int cold = 1; cold <= 5; cold++) {
            DewLooms x = Due.laid("l0,0,2;l0,9,2;h" + cold + ",0;");
            x.pass(1);
            Edge.is("tears on " + cold, x.tears(0), Math.min(6, cold + 2));
            Edge.is("nothing runs down", x.loom(1, 3), cold);
            Edge.is("tears on the lowest", x.tears(1), Math.min(6, cold + 2));
            Edge.is("nothing runs off", x.count(3), 0);
        }
        DewLooms nine = Due.laid("l0,0,9;h8,0;h9,0;h9,0;");
        nine.pass(3);
        Edge.is("of 26 drops", nine.tears(0), 27);
    }

    @Says(promise = 12, words = "NO: it holds no more")
    static void tearsOnAFullOneAreRefused() {
        Edge.refuses(NO, "tears on 6 of 6", x -> x.pass(1), x -> x.tears(1));
        Edge.refuses(NO, "tears on 12 of 12", x -> x.pass(3), x -> x.tears(3));
        Edge.refuses(NO, "tears on 3 of 3", x -> {
            Loomed.six(x);
            x.pass(1);
        }, x -> x.tears(0));
        // 11 of 12 is not full.
        DewLooms x = Edge.made(y -> y.pass(4));
        Edge.is("tears on 11 of 12", x.tears(3), 12);
    }

    @Says(promise = 12, words = "Of several the first in this order")
    static void tearsAreBadBeforeTheyAreNo() {
        Edge.Act full = x -> {
            Due.write(x, "l0,0,1;h3,0;");
            x.lay();
            x.pass(1);
        };
        Edge.refuses(NO, "tears(0)", full, x -> x.tears(0));
        Edge.refuses(BAD, "tears(1)", full, x -> x.tears(1));
        Edge.refuses(BAD, "tears(-1)", full, x -> x.tears(-1));
    }

    // ---- promise 13

    @Says(promise = 13, words = "BAD (p: 0 to 9)")
    static void setTakesPlaces0To9() {
        Edge.Act inTheMiddle = x -> {
            Due.write(x, "l0,4,1;l1,5,2;");
            x.lay();
        };
        Edge.takes(0, 9, "set(0, p)", inTheMiddle, (x, p) -> x.set(0, p));
        Edge.takes(0, 9, "set(1, p)", inTheMiddle, (x, p) -> x.set(1, p));
        DewLooms x = Edge.made(inTheMiddle);
        Edge.is("set(0, 9)", x.set(0, 9), 4);
        Edge.is("set(0, 0)", x.set(0, 0), 9);
        Edge.is("set(0, 4)", x.set(0, 4), 0);
    }

    @Says(promise = 13, words = "BAD (p: 0 to 9)")
    static void setTakesLoomsThatThereAre() {
        takesLooms("set(l, 6)", (x, l) -> x.set(l, 6));
    }

    @Says(promise = 13, words = {"A LOOM is set: the PLACE it was on",
        "A LOOM is set on another PLACE that is free, with its DROPS"})
    static void setTakesDropsSpoiledAndShadeAlong() {
        DewLooms x = Edge.made(y -> y.pass(2));
        x.shade(2);
        x.set(2, 9);
        int[] want = {2, 9, 3, 8, 10, 1};
        for (int what = 0; what < want.length; what++) {
            Edge.is("loom(2, " + what + ")", x.loom(2, what), want[what]);
        }
        Edge.is("drops of all", x.count(2), 36);
        x.pass(1);
        Edge.is("2, and 2 in mist from the spider's, run to the sheet's 8 and 4", x.loom(3, 3), 12);
    }

    @Says(promise = 13, words = "NO: it is not free")
    static void setOnATakenPlaceIsRefused() {
        for (int l = 0; l < 5; l++) {
            int loom = l;
            for (int p : new int[] {0, 2, 3, 5, 8}) {
                Edge.refuses(NO, "set(" + l + ", " + p + ")", x -> x.pass(1), x -> x.set(loom, p));
            }
        }
    }

    @Says(promise = 13, words = "NO: it is not free")
    static void setOnItsOwnPlaceIsRefused() {
        Edge.refuses(NO, "set(0, 0) of one", Loomed::one, x -> x.set(0, 0));
        Edge.refuses(NO, "set(0, 9) of six", Loomed::six, x -> x.set(0, 9));
        Edge.refuses(NO, "set(4, 9) when it is there", Edge::busy, x -> x.set(4, 9));
    }

    @Says(promise = 13, words = "another PLACE that is free")
    static void thePlaceThatALoomHasLeftIsFree() {
        DewLooms x = Due.laid("l0,0,1;l0,1,1;");
        Edge.is("set(0, 1)", x.set(0, 1), NO);
        Edge.is("set(1, 2)", x.set(1, 2), 1);
        Edge.is("set(0, 1)", x.set(0, 1), 0);
        Edge.is("set(1, 0)", x.set(1, 0), 2);
        Edge.is("at(0)", x.at(0), 1);
        Edge.is("at(1)", x.at(1), 0);
        Edge.is("at(2)", x.at(2), NONE);
    }

    @Says(promise = 13, words = "Of several the first in this order")
    static void setIsBadBeforeItIsNo() {
        Edge.refuses(BAD, "set(5, 0)", Edge::busy, x -> x.set(5, 0));
        Edge.refuses(BAD, "set(-1, 0)", Edge::busy, x -> x.set(-1, 0));
        Edge.refuses(BAD, "set(-1, -1)", Edge::busy, x -> x.set(-1, -1));
        Edge.refuses(BAD, "set(9, 9)", Edge::nothing, x -> x.set(9, 9));
    }

    // ---- promise 14

    @Says(promise = 14, words = "NO")
    static void undoOfNothingIsRefused() {
        Edge.refuses(NO, "undo()", Edge::nothing, x -> x.undo());
        Edge.refuses(NO, "undo() when all is undone", x -> {
            x.pass(1);
            x.keep();
            x.seen(0, 1, 1);
            x.cow(1);
            x.undo();
            x.undo();
        }, x -> x.undo());
    }

    @Says(promise = 14, words = "the last 8 can be")
    static void undoTakesBackTheLast8() {
        for (int many = 1; many <= 11; many++) {
            DewLooms x = new DewLooms();
            for (int i = 0; i < many; i++) {
                x.pass(1);
            }
            int can = Math.min(many, 8);
            Edge.is("count(8) of " + many, x.count(8), can);
            for (int left = can - 1; left >= 0; left--) {
                Edge.is("undo() of " + many, x.undo(), left);
                Edge.is("hour", x.count(1), many - can + left);
            }
            Edge.is("undo() once more", x.undo(), NO);
            Edge.is("hour", x.count(1), many - can);
        }
    }

    @Says(promise = 14, words = "the last 8 can be")
    static void undoOfNineDifferentActs() {
        DewLooms x = new DewLooms();
        DewLooms one = Edge.made(y -> y.tears(0));
        x.tears(0);
        x.pass(1);
        x.shade(0);
        x.cow(0);
        x.set(0, 9);
        x.pass(24);
        x.tears(1);
        x.shade(0);
        x.cow(1);
        for (int left = 7; left >= 0; left--) {
            Edge.is("undo()", x.undo(), left);
        }
        Edge.is("the tears are no more among them", x.undo(), NO);
        Edge.is("they stay", x.loom(0, 3), 3);
        one.keep();
        one.back();
        Edge.isLike("as behind the first act", x, one);
    }

    @Says(promise = 14, words = "HOURS (all of one call at once")
    static void undoTakesBackAllHoursOfOneCall() {
        DewLooms x = new DewLooms();
        x.pass(24);
        Edge.is("count(8)", x.count(8), 1);
        Edge.is("undo()", x.undo(), 0);
        Edge.isLike("as new", x, new DewLooms());
    }

    @Says(promise = 14, words = "such by which nothing becomes another, too")
    static void undoTakesBackHoursByWhichNothingBecameAnother() {
        DewLooms x = Due.laid("l0,0,9;h0,0;s3;");
        x.tears(0);
        x.shade(0);
        x.pass(1);
        Edge.is("count(8) behind an hour of night", x.count(8), 3);
        x.pass(24);
        Edge.is("count(8) behind hours of sun", x.count(8), 4);
        Edge.is("undo()", x.undo(), 3);
        Edge.is("hour", x.count(1), 1);
        Edge.is("undo()", x.undo(), 2);
        Edge.is("hour", x.count(1), 0);
        Edge.is("drops", x.loom(0, 3), 9);
    }

    @Says(promise = 14, words = "UNDONE is the latest of these, of HOURS")
    static void undoTakesBackEachAct() {
        Edge.Act begun = x -> {
            x.pass(2);
            x.shade(2);
        };
        Edge.Act[] acts = {x -> x.pass(1), x -> x.pass(24), x -> x.shade(0), x -> x.shade(2),
            x -> x.cow(0), x -> x.tears(0), x -> x.set(0, 9), x -> x.set(4, 1)};
        for (int i = 0; i < acts.length; i++) {
            DewLooms x = Edge.made(begun);
            acts[i].on(x);
            Edge.is("count(8) behind act " + i, x.count(8), 3);
            Edge.is("undo() of act " + i, x.undo(), 2);
            Edge.isLike("act " + i + " undone", x, Edge.made(begun));
        }
    }

    @Says(promise = 14, words = "nothing changes then")
    static void aRefusedActIsNotUndone() {
        Edge.Call[] refused = {x -> x.pass(0), x -> x.pass(25), x -> x.shade(5), x -> x.cow(5),
            x -> x.cow(3), x -> x.tears(5), x -> x.tears(1), x -> x.set(0, 2), x -> x.set(0, 0),
            x -> x.set(0, 10), x -> x.set(5, 9), x -> x.lay()};
        Edge.Act begun = x -> {
            x.pass(1);
            x.cow(3);
            x.cow(3);
        };
        for (int i = 0; i < refused.length; i++) {
            DewLooms x = Edge.made(begun);
            Edge.isTrue("refused " + i, refused[i].on(x) < 0);
            Edge.is("count(8) behind refused " + i, x.count(8), 3);
            Edge.is("undo()", x.undo(), 2);
            Edge.is("1 drop again", x.loom(3, 3), 1);
        }
    }

    @Says(promise = 14, words = "how many more can be")
    static void undoneIsNotUndone() {
        DewLooms x = new DewLooms();
        x.pass(1);
        x.pass(1);
        Edge.is("undo()", x.undo(), 1);
        Edge.is("undo() again", x.undo(), 0);
        Edge.is("hour", x.count(1), 0);
        x.pass(3);
        Edge.is("undo() of what came since", x.undo(), 0);
        Edge.is("undo() of no more", x.undo(), NO);
    }

    @Says(promise = 14, words = "UNDONE is the latest of these")
    static void theTextWhatIsSeenAndKeptAreNotUndone() {
        DewLooms x = new DewLooms();
        x.pass(1);
        x.write('l');
        x.seen(0, 3, 0);
        x.keep();
        Edge.is("count(8)", x.count(8), 1);
        Edge.is("undo()", x.undo(), 0);
        Edge.is("letters", x.count(10), 1);
        Edge.is("seen", x.count(7), 1);
        Edge.is("kept", x.count(9), 1);
    }
}
