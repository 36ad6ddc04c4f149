/** The edges of promises 21 to 24: what is seen, whose cow it was, how cold an hour was. */
public final class SeenEdgesTest {
    private static final int BAD = Edge.BAD, FULL = Edge.FULL;

    public static void main(String[] args) throws ReflectiveOperationException {
        Edge.run(SeenEdgesTest.class);
    }

    private static void sixSeen(DewLooms x) {
        for (int i = 0; i < 6; i++) {
            x.seen(0, 0, 0);
        }
    }

    // ---- promise 21

    @Says(promise = 21, words = {"SEEN: how many", "BAD"})
    static void seenTakesLoomsThatThereAre() {
        Edge.takes(0, 4, "seen(l, 1, 1)", Edge::busy, (x, l) -> x.seen(l, 1, 1));
        Edge.takes(0, 0, "seen(l, 1, 1) of one", Loomed::one, (x, l) -> x.seen(l, 1, 1));
        Edge.takes(0, 5, "seen(l, 1, 1) of six", Loomed::six, (x, l) -> x.seen(l, 1, 1));
    }

    @Says(promise = 21, words = "a LOOM has n (0 to 27) DROPS")
    static void seenTakes0To27Drops() {
        Edge.takes(0, 27, "seen(0, n, 1)", Edge::busy, (x, n) -> x.seen(0, n, 1));
        Edge.takes(0, 27, "seen(4, n, 0)", Edge::nothing, (x, n) -> x.seen(4, n, 0));
        DewLooms x = Due.laid("l0,0,9;h9,0;s20;");
        x.seen(0, 0, 0);
        x.seen(0, 27, 3);
        Edge.is("0 now, 27 behind 3 hours", x.cows(), 65);
        x.seen(0, 26, 3);
        Edge.is("and 26", x.cows(), 0);
    }

    @Says(promise = 21, words = "behind t (0 to 12) HOURS from now")
    static void seenTakes0To12Hours() {
        Edge.takes(0, 12, "seen(0, 1, t)", Edge::busy, (x, t) -> x.seen(0, 1, t));
        Edge.takes(0, 12, "seen(4, 0, t)", Edge::nothing, (x, t) -> x.seen(4, 0, t));
        for (int t = 0; t <= 12; t++) {
            DewLooms x = Due.laid("l0,0,9;h1,0;s20;");
            x.seen(0, t, t);
            Edge.is(t + " behind " + t, x.cows(), 65);
            x.seen(0, t + 1, t);
            Edge.is(t + 1 + " behind " + t, x.cows(), 0);
        }
    }

    @Says(promise = 21, words = {"SEEN (6 at most)", "FULL"})
    static void seenIsFullFromTheSeventhOn() {
        DewLooms x = new DewLooms();
        for (int many = 1; many <= 6; many++) {
            Edge.is("the same once more", x.seen(0, 3, 1), many);
            Edge.is("count(7)", x.count(7), many);
        }
        Edge.is("a seventh", x.seen(0, 3, 1), FULL);
        Edge.is("count(7)", x.count(7), 6);
        Edge.refuses(FULL, "a seventh", SeenEdgesTest::sixSeen, y -> y.seen(4, 27, 12));
        // What is not so counts if it is the sixth, not if it would be the seventh.
        DewLooms y = Edge.made(SeenEdgesTest::sixSeen);
        y.seen(0, 1, 0);
        Edge.is("six of 0", y.cows(), 95);
        y.forget();
        for (int i = 0; i < 5; i++) {
            y.seen(0, 0, 0);
        }
        y.seen(0, 1, 0);
        Edge.is("five of 0 and one of 1", y.cows(), 0);
        Edge.is("five of 0 and one of 1", y.colds(), 0);
    }

    @Says(promise = 21, words = "Of several the first in this order")
    static void seenIsBadBeforeItIsFull() {
        Edge.refuses(BAD, "seen(5, 0, 0)", SeenEdgesTest::sixSeen, x -> x.seen(5, 0, 0));
        Edge.refuses(BAD, "seen(0, 28, 0)", SeenEdgesTest::sixSeen, x -> x.seen(0, 28, 0));
        Edge.refuses(BAD, "seen(0, 0, 13)", SeenEdgesTest::sixSeen, x -> x.seen(0, 0, 13));
    }

    @Says(promise = 21, words = "(by how all stands when that is asked, not when it was SEEN)")
    static void seenIsOfHowAllStandsWhenThatIsAsked() {
        DewLooms x = Due.laid("l0,0,9;h1,0;s20;");
        x.seen(0, 2, 1);
        Edge.is("1 behind an hour", x.cows(), 0);
        Edge.is("2 by cold 2", x.colds(), 1 << 2);
        x.pass(1);
        Edge.is("2 behind an hour", x.cows(), 64);
        Edge.is("2 by cold 1", x.colds(), 1 << 1);
        x.pass(1);
        Edge.is("3 behind an hour, by a cow 2", x.cows(), 1);
        Edge.is("2 by cold 0", x.colds(), 1);
        x.pass(1);
        Edge.is("4 behind an hour, by a cow 2", x.cows(), 1);
        Edge.is("3 and more", x.colds(), 0);
    }

    // ---- promise 22

    @Says(promise = 22, words = "Nothing is SEEN: how many were")
    static void forgetOfNoneAndOfSix() {
        Edge.is("forget() of none", new DewLooms().forget(), 0);
        Edge.changesNothing("forget() of none", Edge::nothing, x -> x.forget());
        DewLooms x = Edge.made(SeenEdgesTest::sixSeen);
        Edge.is("forget() of six", x.forget(), 6);
        Edge.is("forget() again", x.forget(), 0);
        Edge.is("count(7)", x.count(7), 0);
        Edge.isLike("with nothing seen", x, new DewLooms());
        x.forget();
        Edge.is("seen(0, 0, 0)", x.seen(0, 0, 0), 1);
        Edge.is("forget() of one", x.forget(), 1);
    }

    // ---- promise 23

    @Says(promise = 23, words = {"COWS, as bits, and 64", "64 more, if it is so as it is"})
    static void cowsWithNothingSeenAreAll() {
        Edge.is("of one", Edge.made(Loomed::one).cows(), 64 + 1);
        Edge.is("of one with drops", Edge.made(Loomed::oneInNight).cows(), 64 + 1);
        Edge.is("of five", new DewLooms().cows(), 64 + 31);
        Edge.is("of six", Edge.made(Loomed::six).cows(), 64 + 63);
        Edge.is("of six with drops", Edge.made(Loomed::sixInNight).cows(), 64 + 63);
        Edge.changesNothing("cows()", Edge::busy, x -> x.cows());
        Edge.changesNothing("cows()", x -> x.pass(1), x -> x.cows());
    }

    @Says(promise = 23, words = "LOOMS (bits) such that, had a COW breathed on that one now, all"
        + " that is SEEN would be so")
    static void cowsTellTheFirstLoomAndTheLast() {
        for (int l = 0; l < 6; l++) {
            DewLooms x = Due.laid("l0,0,1;l0,1,1;l0,2,1;l0,3,1;l0,4,1;l0,5,1;h0,0;s20;");
            for (int i = 0; i < 6; i++) {
                x.tears(i);
                x.tears(i);
            }
            x.seen(l, 1, 0);
            Edge.is("2 of which a cow left 1 on loom " + l, x.cows(), 1 << l);
            x.seen((l + 1) % 6, 1, 0);
            Edge.is("1 on another, too", x.cows(), 0);
            x.forget();
            x.seen(l, 2, 0);
            Edge.is("still 2 on loom " + l, x.cows(), 64 + 63 - (1 << l));
        }
    }

    @Says(promise = 23, words = "(on one without DROPS nothing would change: it is one, if 64 is)")
    static void aCowOnNoDropsIsOneIf64Is() {
        DewLooms x = Due.laid("l0,0,9;l0,1,9;h0,0;s20;");
        x.tears(0);
        x.seen(1, 0, 0);
        Edge.is("9 and none, none seen", x.cows(), 64 + 1 + 2);
        x.seen(0, 9, 0);
        Edge.is("9 and none, both seen", x.cows(), 64 + 2);
        x.forget();
        x.seen(0, 4, 0);
        Edge.is("9 and none, 4 seen", x.cows(), 1);
        x.forget();
        x.seen(1, 1, 0);
        Edge.is("9 and none, 1 seen", x.cows(), 0);
    }

    @Says(promise = 23, words = "all that is SEEN would be so")
    static void aCowOnOneDropLeavesNone() {
        DewLooms x = Due.laid("l0,0,9;h1,0;s20;");
        x.pass(1);
        x.seen(0, 0, 0);
        Edge.is("none now", x.cows(), 1);
        x.seen(0, 1, 1);
        Edge.is("1 behind an hour", x.cows(), 1);
        x.seen(0, 2, 1);
        Edge.is("2 behind an hour, too", x.cows(), 0);
    }

    @Says(promise = 23, words = "all that is SEEN would be so")
    static void cowsOfAnHourBehindTheLastOne() {
        DewLooms x = Due.laid("l3,0,9;h0,0;s0;");
        for (int i = 0; i < 4; i++) {
            x.pass(24);
        }
        x.pass(3);
        x.tears(0);
        x.tears(0);
        x.tears(0);
        x.seen(0, 1, 12);
        Edge.is("13 of 27, and 12 hours of sun from hour 99 on", x.cows(), 1);
        Edge.is("how cold it is is nothing then", x.colds(), 0);
    }

    // ---- promise 24

    @Says(promise = 24, words = {"COLDS, as bits", "C (bits of 0 to 9)"})
    static void coldsAre0To9() {
        Edge.is("with nothing seen", new DewLooms().colds(), 1023);
        for (int cold = 0; cold <= 9; cold++) {
            DewLooms x = Due.laid("l0,0,9;h4,0;s20;");
            x.seen(0, cold, 1);
            Edge.is(cold + " seen", x.colds(), 1 << cold);
        }
        DewLooms x = Due.laid("l0,0,9;h4,0;s20;");
        x.seen(0, 10, 1);
        Edge.is("10 seen", x.colds(), 0);
        Edge.changesNothing("colds()", Edge::busy, y -> y.colds());
        Edge.changesNothing("colds()", y -> y.seen(0, 9, 2), y -> y.colds());
    }

    @Says(promise = 24, words = "of the HOUR that comes next, that one alone, in place of its own")
    static void coldsAreOfTheNextHourAlone() {
        DewLooms x = Due.laid("l0,0,9;h4,0;s20;");
        x.seen(0, 4, 2);
        Edge.is("0 and its own 4", x.colds(), 1);
        x.forget();
        x.seen(0, 13, 2);
        Edge.is("9 and its own 4", x.colds(), 1 << 9);
        x.forget();
        x.seen(0, 14, 2);
        Edge.is("10 and its own 4", x.colds(), 0);
        x.forget();
        x.seen(0, 3, 2);
        Edge.is("less than its own 4", x.colds(), 0);
    }

    @Says(promise = 24, words = "all that is SEEN would be so")
    static void whatIsSeenNowIsSoByAnyColdOrNone() {
        DewLooms x = Due.laid("l0,0,9;h4,0;s20;");
        x.seen(0, 0, 0);
        Edge.is("0 now", x.colds(), 1023);
        x.seen(0, 5, 1);
        Edge.is("and 5 behind an hour", x.colds(), 1 << 5);
        x.seen(0, 1, 0);
        Edge.is("and 1 now", x.colds(), 0);
    }

    @Says(promise = 24, words = "in place of its own")
    static void coldsKeepTheMistOfTheHour() {
        DewLooms x = Due.laid("l0,0,9;l3,1,9;h4,1;s20;");
        x.seen(0, 4, 1);
        Edge.is("half of 8 and 9", x.colds(), 1 << 8 | 1 << 9);
        x.seen(1, 11, 1);
        Edge.is("9 and 2 on a sheet", x.colds(), 1 << 9);
        x.forget();
        x.seen(0, 0, 1);
        Edge.is("half of 0 and 1", x.colds(), 3);
    }

    @Says(promise = 24, words = "COLDS: C (bits of 0 to 9) of the HOUR that comes next")
    static void coldsInTheSunAreAllOrNone() {
        DewLooms x = Due.laid("l0,0,9;h4,0;s1;");
        x.seen(0, 4, 1);
        Edge.is("the hour ahead of the sun", x.colds(), 1 << 4);
        x.pass(1);
        Edge.is("4 in the sun", x.colds(), 0);
        x.forget();
        x.seen(0, 2, 1);
        Edge.is("2 in the sun", x.colds(), 1023);
    }
}
