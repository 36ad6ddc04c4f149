/** Promises 25 and 26: how likely mist leaves a yard, years by draws. */
public final class ChancesTest {
    private static final int BAD = -1;
    private static final Due due = new Due();

    public static void main(String[] args) {
        promise25Likely();
        promise25OfSixHours();
        promise25FromNow();
        promise25Bad();
        promise26OfOneLoom();
        promise26OfTwoLooms();
        promise26RunOffAndSpoiled();
        promise26Bad();
        due.end();
    }

    private static void likely(DewLooms x, int l, int n, int tenths, int above, int below) {
        String call = "likely(" + l + ", " + n + ", " + tenths + ", ";
        due.is(call + "0)", x.likely(l, n, tenths, 0), above);
        due.is(call + "1)", x.likely(l, n, tenths, 1), below);
    }

    private static void promise25Likely() {
        // 6 drops settle by an hour, 3 in mist; that all hours are told to have mist is nothing.
        DewLooms x = Due.laid("l0,0,9;h6,1;s9;y9;");
        likely(x, 0, 0, 5, 0, 1);
        likely(x, 0, 1, 5, 0, 1);
        likely(x, 0, 2, 0, 1, 1);
        likely(x, 0, 2, 3, 91, 100);
        likely(x, 0, 2, 5, 3, 4);
        likely(x, 0, 2, 8, 9, 25);
        likely(x, 0, 2, 10, 0, 1);
        likely(x, 0, 3, 10, 1, 1);
        likely(x, 0, 6, 7, 1, 1);
        // 1 and 3 in mist, 1 without: a sheet wants mist.
        DewLooms sheet = Due.laid("l3,0,9;h1,0;s9;y3;");
        likely(sheet, 0, 1, 4, 2, 5);
        likely(sheet, 0, 2, 4, 16, 25);
        likely(sheet, 0, 3, 4, 1, 1);
    }

    private static void promise25OfSixHours() {
        // 27 or more unless there is mist in more than 3 of 6 hours.
        DewLooms x = Due.laid("l0,0,9;h6,0;s9;y27;");
        likely(x, 0, 6, 1, 99873, 100000);
        likely(x, 0, 6, 5, 21, 32);
        likely(x, 0, 6, 0, 1, 1);
        likely(x, 0, 6, 10, 0, 1);
    }

    private static void promise25FromNow() {
        DewLooms x = Due.laid("l0,0,9;h6,0;s2;y9;");
        x.pass(1);
        likely(x, 0, 0, 5, 0, 1);
        likely(x, 0, 1, 4, 1, 1);
        // Behind a sunny hour: 10, or 7 with mist.
        likely(x, 0, 2, 4, 3, 5);
        x.shade(0);
        likely(x, 0, 2, 4, 1, 1);
        due.is("nothing has gone by", x.count(1), 1);
        // What runs down from above counts: 12 and 12 of which loom 1 holds all but 3.
        DewLooms two = Due.laid("l0,9,9;l1,0,1;h6,0;s9;y15;");
        likely(two, 0, 1, 2, 4, 5);
        likely(two, 1, 1, 2, 0, 1);
    }

    private static void promise25Bad() {
        DewLooms x = new DewLooms();
        due.is("likely(5, 0, 0, 0)", x.likely(5, 0, 0, 0), BAD);
        due.is("likely(-1, 0, 0, 0)", x.likely(-1, 0, 0, 0), BAD);
        due.is("likely(0, 7, 0, 0)", x.likely(0, 7, 0, 0), BAD);
        due.is("likely(0, -1, 0, 0)", x.likely(0, -1, 0, 0), BAD);
        due.is("likely(0, 0, 11, 0)", x.likely(0, 0, 11, 0), BAD);
        due.is("likely(0, 0, -1, 0)", x.likely(0, 0, -1, 0), BAD);
        due.is("likely(0, 0, 0, 2)", x.likely(0, 0, 0, 2), BAD);
        due.is("likely(0, 0, 0, -1)", x.likely(0, 0, 0, -1), BAD);
    }

    private static void promise26OfOneLoom() {
        // Year 0 draws 0 (a cow), 20743 (shade), 5149 (nothing), 18739 (shade), 28753 (nothing).
        DewLooms x = Due.laid("l0,0,9;h9,0;s1;y9;");
        x.tears(0);
        due.is("9: a cow leaves 4, 13 behind the night", x.year(0, 1, 0), 1);
        due.is("13 in shade", x.year(0, 3, 0), 1);
        due.is("given up: 11", x.year(0, 4, 0), 1);
        due.is("9", x.year(0, 5, 0), 1);
        // Then 2429 (nothing).
        due.is("7", x.year(0, 6, 0), 0);
        // Year 7 draws 29488 and 14570 (tears both), 28835 (nothing), 6764 (a cow).
        DewLooms y = Due.laid("l0,0,2;h0,0;s9;y4;");
        due.is("2", y.year(7, 1, 0), 0);
        due.is("4", y.year(7, 2, 0), 1);
        due.is("4", y.year(7, 3, 0), 1);
        due.is("a cow leaves 2", y.year(7, 4, 0), 0);
        y.tears(0);
        y.tears(0);
        due.is("4 and 2, and no more than it holds", y.year(7, 3, 0), 1);
        due.is("a cow leaves 3", y.year(7, 4, 0), 0);
        due.is("no year has been", y.count(2), 4);
        due.is("no hour has been", y.count(1), 0);
        due.is("no year can be undone", y.count(8), 2);
    }

    private static void promise26OfTwoLooms() {
        // Year 3 draws 22335: tears on loom 1 of 2; year 7 draws 29488: tears on loom 0.
        DewLooms x = Due.laid("l0,0,1;l0,1,5;h0,0;s9;y1;");
        due.is("one has a yard of 1", x.year(3, 1, 0), 1);
        DewLooms y = Due.laid("l0,0,1;l0,1,5;h0,0;s9;y5;");
        due.is("5 on loom 1", y.year(3, 1, 0), 1);
        due.is("1 on loom 0", y.year(7, 1, 0), 0);
        // Year 9999 draws 25651: tears on loom 1.
        due.is("5 on loom 1", y.year(9999, 1, 0), 1);
        due.is("of 3 looms it is loom 1, too", Due.laid("l0,0,1;l0,1,5;l0,2,1;h0,0;s9;y5;")
            .year(9999, 1, 0), 1);
        due.is("it ends with the hour 40", y.year(9999, 40, 1), 0);
    }

    private static void promise26RunOffAndSpoiled() {
        DewLooms x = new DewLooms();
        // By year 4 nothing is done ahead of the first two hours.
        due.is("run off in 2 hours", x.year(4, 2, 1), 2);
        due.is("spoiled in 2 hours", x.year(4, 2, 2), 10);
        x.pass(2);
        due.is("run off by now and in 1 hour", x.year(4, 1, 1), 3);
        due.is("spoiled by now and in 1 hour", x.year(4, 1, 2), 12);
        due.is("by now and in the sun", x.year(4, 40, 2), 12);
        due.is("count(3)", x.count(3), 2);
        due.is("count(4)", x.count(4), 10);
    }

    private static void promise26Bad() {
        DewLooms x = new DewLooms();
        due.is("year(-1, 1, 0)", x.year(-1, 1, 0), BAD);
        due.is("year(10000, 1, 0)", x.year(10000, 1, 0), BAD);
        due.is("year(0, 0, 0)", x.year(0, 0, 0), BAD);
        due.is("year(0, 41, 0)", x.year(0, 41, 0), BAD);
        due.is("year(0, 1, 3)", x.year(0, 1, 3), BAD);
        due.is("year(0, 1, -1)", x.year(0, 1, -1), BAD);
        due.isTrue("year(9999, 40, 2) is told", x.year(9999, 40, 2) >= 0);
    }
}
