/** The edges of promises 25 and 26: how likely mist leaves a yard, years by draws. */
public final class ChancesEdgesTest {
    public static void main(String[] args) throws ReflectiveOperationException {
        Edge.run(ChancesEdgesTest.class);
    }

    // ---- promise 25

    private static void likely(String night, int n, int x, int above, int below) {
        DewLooms looms = Due.laid(night);
        String call = "likely(0, " + n + ", " + x + ", ";
        Edge.is(call + "0) of " + night, looms.likely(0, n, x, 0), above);
        Edge.is(call + "1) of " + night, looms.likely(0, n, x, 1), below);
    }

    @Says(promise = 25, words = {"LIKELY for a LOOM", "BAD"})
    static void likelyTakesLoomsThatThereAre() {
        Edge.takes(0, 4, "likely(l, 1, 5, 0)", Edge::busy, (x, l) -> x.likely(l, 1, 5, 0));
        Edge.takes(0, 0, "likely(l, 1, 5, 1) of one", Loomed::one, (x, l) -> x.likely(l, 1, 5, 1));
        Edge.takes(0, 5, "likely(l, 1, 5, 0) of six", Loomed::six, (x, l) -> x.likely(l, 1, 5, 0));
    }

    @Says(promise = 25, words = "n (0 to 6) HOURS")
    static void likelyTakes0To6Hours() {
        Edge.takes(0, 6, "likely(0, n, 5, 0)", Edge::busy, (x, n) -> x.likely(0, n, 5, 0));
        Edge.takes(0, 6, "likely(0, n, 5, 1)", Edge::nothing, (x, n) -> x.likely(0, n, 5, 1));
    }

    @Says(promise = 25, words = "MIST by x (0 to 10) of ten")
    static void likelyTakes0To10OfTen() {
        Edge.takes(0, 10, "likely(0, 2, x, 0)", Edge::busy, (x, n) -> x.likely(0, 2, n, 0));
        Edge.takes(0, 10, "likely(0, 6, x, 1)", Edge::nothing, (x, n) -> x.likely(0, 6, n, 1));
    }

    @Says(promise = 25, words = "above (part = 0), below (1)")
    static void likelyTakesParts0And1() {
        Edge.takes(0, 1, "likely(0, 1, 5, part)", Edge::busy, (x, n) -> x.likely(0, 1, 5, n));
        Edge.changesNothing("likely(0, 6, 5, 0)", Edge::busy, x -> x.likely(0, 6, 5, 0));
        Edge.changesNothing("likely(0, 6, 5, 1)", Edge::nothing, x -> x.likely(0, 6, 5, 1));
    }

    @Says(promise = 25, words = {"n (0 to 6) HOURS", "in lowest terms"})
    static void likelyBehindNoHourIsAsItIs() {
        DewLooms x = Due.laid("l0,0,9;h9,0;y9;");
        for (int tenths = 0; tenths <= 10; tenths++) {
            likely("l0,0,9;h9,0;y9;", 0, tenths, 0, 1);
        }
        x.tears(0);
        for (int tenths = 0; tenths <= 10; tenths++) {
            Edge.is("with a yard, above", x.likely(0, 0, tenths, 0), 1);
            Edge.is("with a yard, below", x.likely(0, 0, tenths, 1), 1);
        }
    }

    @Says(promise = 25, words = "in lowest terms")
    static void neverIs0Of1AndSurelyIs1Of1() {
        for (int n = 1; n <= 6; n++) {
            for (int tenths = 0; tenths <= 10; tenths++) {
                likely("l0,0,9;h0,0;y1;", n, tenths, 0, 1);
                likely("l0,0,9;h2,0;y1;", n, tenths, 1, 1);
            }
        }
    }

    @Says(promise = 25, words = "MIST by x (0 to 10) of ten")
    static void by0ThereIsNoneAndBy10ThereIsSurely() {
        // By mist a sheet has 4 by an hour, without it 2.
        for (int n = 1; n <= 6; n++) {
            String all = "l3,0,9;h2,0;y" + 4 * n + ";";
            likely(all, n, 10, 1, 1);
            likely(all, n, 0, 0, 1);
            likely("l3,0,9;h2,0;y" + (4 * n + 1) + ";", n, 10, 0, 1);
            likely("l3,0,9;h2,0;y" + 2 * n + ";", n, 0, 1, 1);
            likely("l3,0,9;h2,0;y" + (2 * n + 1) + ";", n, 0, 0, 1);
        }
    }

    @Says(promise = 25, words = {"n (0 to 6) HOURS", "in lowest terms"})
    static void likelyOfSixMistyHours() {
        String all = "l3,0,9;h2,0;y24;";
        int[] above = {0, 1, 1, 729, 64, 1, 729, 117649, 4096, 531441, 1};
        int[] below = {1, 1000000, 15625, 1000000, 15625, 64, 15625, 1000000, 15625, 1000000, 1};
        for (int tenths = 0; tenths <= 10; tenths++) {
            likely(all, 6, tenths, above[tenths], below[tenths]);
        }
        // One misty hour of six is enough.
        int[] one = {0, 468559, 11529, 882351, 14896, 63, 15561, 999271, 15624, 999999, 1};
        for (int tenths = 0; tenths <= 10; tenths++) {
            likely("l3,0,9;h2,0;y14;", 6, tenths, one[tenths], below[tenths]);
        }
    }

    @Says(promise = 25, words = "in each there is MIST by x (0 to 10) of ten, whatever is told")
    static void whatIsToldOfMistIsNothing() {
        for (int mist = 0; mist <= 1; mist++) {
            likely("l0,0,9;h9," + mist + ";y9;", 1, 0, 1, 1);
            likely("l0,0,9;h9," + mist + ";y9;", 1, 3, 7, 10);
            likely("l0,0,9;h9," + mist + ";y9;", 1, 10, 0, 1);
            likely("l0,0,9;h9," + mist + ";y4;", 1, 10, 1, 1);
        }
    }

    @Says(promise = 25, words = "how likely it has a YARD or more behind them")
    static void aYardIsEnoughOneDropLessIsNot() {
        likely("l0,0,9;h9,0;y8;", 1, 5, 1, 2);
        likely("l0,0,9;h9,0;y9;", 1, 5, 1, 2);
        likely("l0,0,9;h9,0;y10;", 1, 5, 0, 1);
        likely("l0,0,9;h9,0;y4;", 1, 5, 1, 1);
        likely("l0,0,9;h9,0;y5;", 1, 5, 1, 2);
        // Of the hours asked, not of those till merchants come.
        likely("l0,0,9;h9,0;m1;y18;", 2, 5, 1, 4);
        likely("l0,0,9;h9,0;m24;y18;", 1, 5, 0, 1);
    }

    @Says(promise = 25, words = "in each there is MIST by x (0 to 10) of ten")
    static void mistIsNothingInTheSun() {
        likely("l0,0,9;h9,0;s1;y7;", 2, 5, 1, 2);
        likely("l0,0,9;h9,0;s1;y8;", 2, 0, 0, 1);
        likely("l0,0,9;h9,0;s0;y1;", 6, 5, 0, 1);
    }

    // ---- promise 26

    @Says(promise = 26, words = {"A YEAR by z (0 to 9999)", "BAD"})
    static void yearTakes0To9999() {
        Edge.takes(0, 9999, "year(z, 1, 0)", Edge::busy, (x, z) -> x.year(z, 1, 0));
        Edge.takes(0, 9999, "year(z, 40, 2)", Edge::nothing, (x, z) -> x.year(z, 40, 2));
    }

    @Says(promise = 26, words = "of n (1 to 40) HOURS from now on")
    static void yearTakes1To40Hours() {
        Edge.takes(1, 40, "year(0, n, 0)", Edge::busy, (x, n) -> x.year(0, n, 0));
        Edge.takes(1, 40, "year(9999, n, 1)", Edge::nothing, (x, n) -> x.year(9999, n, 1));
    }

    @Says(promise = 26, words = "YARDS (what = 0), RUN OFF (1), SPOILED (2)")
    static void yearTells0To2() {
        Edge.takes(0, 2, "year(0, 1, what)", Edge::busy, (x, n) -> x.year(0, 1, n));
    }

    @Says(promise = 26, words = "(nothing changes by it)")
    static void nothingChangesByAYear() {
        for (int what = 0; what <= 2; what++) {
            int part = what;
            Edge.changesNothing("year(7, 40, " + what + ")", Edge::busy, x -> x.year(7, 40, part));
            Edge.changesNothing("year(0, 1, " + what + ")", Edge::nothing, x -> x.year(0, 1, part));
        }
    }

    /** DRAW as the document tells it, in numbers that it cannot be too large for. */
    private static int draw(int z, int i) {
        java.math.BigInteger x = java.math.BigInteger.valueOf(7919).multiply(
            java.math.BigInteger.valueOf(z)).add(java.math.BigInteger.valueOf(6151L * i + 1));
        return x.multiply(x).mod(java.math.BigInteger.valueOf(65521)).intValue() / 2;
    }

    /** Drops of one plain loom of 9 threads in hours in which nothing settles. */
    private static int dropsOfAYear(int z, int n, int drops, int sun) {
        boolean shaded = false;
        int left = drops;
        for (int i = 0; i < n; i++) {
            switch (draw(z, i) / 8 % 5) {
                case 0: left = left / 2; break;
                case 1: left = Math.min(27, left + 9); break;
                case 2: shaded = !shaded; break;
                default: break;
            }
            left = i >= sun && !shaded ? Math.max(0, left - 2) : left;
        }
        return left;
    }

    private static void isYear(int z, int n) {
        for (int sun : new int[] {0, 20}) {
            int drops = dropsOfAYear(z, n, 9, sun);
            for (int yard = Math.max(1, drops); yard <= Math.min(27, drops + 1); yard++) {
                DewLooms x = Due.laid("l0,0,9;h0,0;s" + sun + ";y" + yard + ";");
                x.tears(0);
                Edge.is("year(" + z + ", " + n + ", 0), s" + sun + ", y" + yard, x.year(z, n, 0),
                    drops >= yard ? 1 : 0);
            }
        }
    }

    @Says(promise = 26, words = {"A YEAR by z (0 to 9999)", "DRAW being ((x times x) modulo 65521)"
        + " by 2, cut, x 7919 z, 6151 (the HOUR of these, 0 first) and 1 together"})
    static void theFirstYearsAndTheLast() {
        int[] draws = {0, 20743, 5149, 18739, 28753};
        for (int i = 0; i < draws.length; i++) {
            Edge.is("draw " + i + " of year 0", draw(0, i), draws[i]);
        }
        Edge.is("draw 0 of year 9999", draw(9999, 0), 25651);
        for (int z : new int[] {0, 1, 2, 5000, 9998, 9999}) {
            isYear(z, 1);
            isYear(z, 2);
            isYear(z, 3);
        }
    }

    @Says(promise = 26, words = "(the HOUR of these, 0 first)")
    static void theActsOfAllHoursOfAYearCount() {
        for (int z : new int[] {0, 5, 11, 19, 25, 31, 38, 9999}) {
            for (int n = 1; n <= 40; n++) {
                isYear(z, n);
            }
        }
        // Ahead of its last hour, the hour 39 of these, year 5 draws tears.
        Edge.is("the act of hour 39 of these", draw(5, 39) / 8 % 5, 1);
        DewLooms x = Due.laid("l0,0,9;h0,0;s0;y7;");
        Edge.is("39 hours", x.year(5, 39, 0), dropsOfAYear(5, 39, 0, 0) >= 7 ? 1 : 0);
        Edge.is("40 hours", x.year(5, 40, 0), 1);
    }

    @Says(promise = 26, words = "(the HOUR of these, 0 first)")
    static void theHoursOfAYearAreCountedFromNow() {
        DewLooms x = Due.laid("l0,0,9;h0,0;s20;y4;");
        x.pass(9);
        x.tears(0);
        Edge.is("a cow in the hour 0 of these", x.year(0, 1, 0), 1);
        DewLooms y = Due.laid("l0,0,9;h0,0;s20;y5;");
        y.pass(9);
        y.tears(0);
        Edge.is("9 and a cow are 4", y.year(0, 1, 0), 0);
    }

    @Says(promise = 26, words = "of n (1 to 40) HOURS from now on")
    static void yearGoesAbove99() {
        DewLooms x = Due.laid("l0,0,9;h9,0;s0;y7;");
        for (int i = 0; i < 4; i++) {
            x.pass(24);
        }
        x.pass(3);
        Edge.is("hour", x.count(1), 99);
        Edge.is("year(5, 40, 0): tears and an hour of sun", x.year(5, 40, 0), 1);
        Edge.is("hour", x.count(1), 99);
    }

    @Says(promise = 26, words = "LOOM DRAW modulo as many")
    static void theLoomIsTheDrawModuloAsMany() {
        // Tears by the first draw of such years as draw them, with 1 to 6 looms.
        for (int many = 1; many <= 6; many++) {
            StringBuilder night = new StringBuilder();
            for (int l = 0; l < many; l++) {
                night.append("l0,").append(l).append(',').append(l + 1).append(';');
            }
            for (int z = 0; z < 60; z++) {
                int loom = draw(z, 0) % many;
                if (draw(z, 0) / 8 % 5 == 1) {
                    String call = "year(" + z + ", 1, 0) of " + many;
                    Edge.is(call, Due.laid(night + "h0,0;y" + (loom + 1) + ";").year(z, 1, 0), 1);
                    Edge.is(call, Due.laid(night + "h0,0;y" + (loom + 2) + ";").year(z, 1, 0), 0);
                }
            }
        }
    }

    @Says(promise = 26, words = {"ahead of each", "if (DRAW by 8, cut) modulo 5 is 0, a COW"
        + " breathes on it, if 1, it has TEARS, if 2, SHADE is hired for it, or given up"})
    static void whatADrawDoesAheadOfTheHour() {
        // Of 9 behind an hour of sun: a cow leaves 2, tears 16, shade 9, all else 7.
        int[] left = {2, 16, 9, 7, 7};
        for (int z = 0; z < 100; z++) {
            int due = left[draw(z, 0) / 8 % 5];
            DewLooms x = Due.laid("l0,0,9;h0,0;s0;y" + due + ";");
            DewLooms more = Due.laid("l0,0,9;h0,0;s0;y" + (due + 1) + ";");
            x.tears(0);
            more.tears(0);
            Edge.is("year(" + z + ", 1, 0), y" + due, x.year(z, 1, 0), 1);
            Edge.is("year(" + z + ", 1, 0), y" + (due + 1), more.year(z, 1, 0), 0);
        }
    }

    @Says(promise = 26, words = "SHADE is hired for it, or given up")
    static void aDrawGivesUpShadeThatThereIs() {
        // The first draw of year 15 is that of shade.
        Edge.is("the act", draw(15, 0) / 8 % 5, 2);
        DewLooms x = Due.laid("l0,0,9;h0,0;s0;y8;");
        x.tears(0);
        Edge.is("hired", x.year(15, 1, 0), 1);
        x.shade(0);
        Edge.is("given up", x.year(15, 1, 0), 0);
    }

    @Says(promise = 26, words = "modulo 5 is 0, a COW breathes on it, if 1, it has TEARS")
    static void aDrawOfACowOnNoneAndOfTearsOnAFullOne() {
        Edge.is("the act of year 0", draw(0, 0) / 8 % 5, 0);
        Edge.is("a cow on none", Due.laid("l0,0,9;h0,0;s9;y1;").year(0, 1, 0), 0);
        Edge.is("the act of year 7", draw(7, 0) / 8 % 5, 1);
        DewLooms x = Due.laid("l0,0,1;h0,0;s9;y3;");
        x.tears(0);
        x.tears(0);
        Edge.is("tears on 2 of 3", x.year(7, 1, 0), 1);
        x.tears(0);
        Edge.is("tears on 3 of 3", x.year(7, 1, 0), 1);
        Edge.is("nothing runs off by them", x.year(7, 1, 1), 0);
    }

    @Says(promise = 26, words = "how many have a YARD then")
    static void yardsOfAYearAreCountedNotBits() {
        // The first draw of year 4 does nothing.
        Edge.is("the act", draw(4, 0) / 8 % 5, 3);
        String six = "l0,0,9;l0,1,9;l0,2,9;l0,3,9;l0,4,9;l0,5,9;h5,0;m24;y";
        Edge.is("all six", Due.laid(six + "5;").year(4, 1, 0), 6);
        Edge.is("none of six", Due.laid(six + "6;").year(4, 1, 0), 0);
        DewLooms x = Due.laid(six + "6;");
        x.tears(5);
        Edge.is("the last one", x.year(4, 1, 0), 1);
    }

    @Says(promise = 26, words = {"what has RUN OFF in all (that by now, too)",
        "what is SPOILED in all"})
    static void whatHasRunOffAndIsSpoiledByNowCounts() {
        DewLooms x = Due.laid("l0,0,1;l2,1,1;h5,0;s2;");
        Edge.is("run off in the first hour", x.year(4, 1, 1), 2);
        Edge.is("spoiled in the first hour", x.year(4, 1, 2), 2);
        x.pass(1);
        Edge.is("2 and 5", x.year(4, 1, 1), 7);
        Edge.is("2 and 5", x.year(4, 1, 2), 7);
        x.pass(1);
        Edge.is("nothing more in the sun", x.year(4, 1, 1), 7);
        Edge.is("nothing more in the sun", x.year(4, 1, 2), 7);
        Edge.is("none in all", Due.laid("l0,0,1;h0,0;").year(4, 40, 1), 0);
        Edge.is("none in all", Due.laid("l2,0,1;h0,0;").year(4, 40, 2), 0);
        // Spoiled on two: on the one above by now, on the other one, set below, then.
        DewLooms y = Due.laid("l0,0,1;l2,4,1;l2,9,1;h4,0;s9;");
        y.pass(1);
        Edge.is("1 and 1", y.count(4), 2);
        Edge.is("1 and 1 and 4 and 4", y.year(4, 1, 2), 10);
    }
}
