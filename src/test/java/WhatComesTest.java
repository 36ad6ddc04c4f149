/** Promises 15 to 20: what hangs behind some hours, yards, settings, shade, threads, drips. */
public final class WhatComesTest {
    private static final int BAD = -1, NONE = -4;
    private static final Due due = new Due();

    public static void main(String[] args) {
        promise15Behind();
        promise16Yards();
        promise17Setting();
        promise17SettingWithDropsAndShade();
        promise17SettingNone();
        promise18Shading();
        promise19Wants();
        promise20Drips();
        nothingChangesByAsking();
        due.end();
    }

    private static void promise15Behind() {
        DewLooms x = new DewLooms();
        int[][] drops = {{0, 0, 0, 0, 0}, {3, 6, 3, 3, 3}, {8, 6, 8, 8, 6}, {9, 6, 9, 12, 6},
            {7, 4, 7, 11, 4}, {5, 2, 5, 10, 2}, {3, 0, 3, 9, 0}};
        int[] spoiled = {0, 0, 10, 12, 12, 12, 12};
        for (int by = 0; by < 2; by++) {
            for (int n = 0; n + by < drops.length; n++) {
                for (int l = 0; l < 5; l++) {
                    String call = "behind(" + n + ", " + l + ") from hour " + by;
                    due.is(call, x.behind(n, l, 0), drops[n + by][l]);
                    due.is(call, x.behind(n, l, 1), l == 2 ? spoiled[n + by] : 0);
                }
            }
            x.pass(1);
        }
        due.is("behind(24, 3, 0)", x.behind(24, 3, 0), 0);
        due.is("behind(25, 0, 0)", x.behind(25, 0, 0), BAD);
        due.is("behind(-1, 0, 0)", x.behind(-1, 0, 0), BAD);
        due.is("behind(0, 5, 0)", x.behind(0, 5, 0), BAD);
        due.is("behind(0, -1, 0)", x.behind(0, -1, 0), BAD);
        due.is("behind(0, 0, 2)", x.behind(0, 0, 2), BAD);
        due.is("behind(0, 0, -1)", x.behind(0, 0, -1), BAD);
        x.pass(24);
        x.pass(24);
        x.pass(24);
        x.pass(24);
        x.tears(0);
        due.is("behind the last hour, too", x.behind(24, 0, 0), 0);
        x.shade(0);
        due.is("behind the last hour, in shade", x.behind(24, 0, 0), 3);
    }

    private static void promise16Yards() {
        DewLooms x = new DewLooms();
        due.is("at hour 0", x.yards(), 8);
        x.pass(3);
        due.is("at hour 3", x.yards(), 8);
        x.shade(2);
        due.is("with shade", x.yards(), 12);
        x.pass(2);
        x.tears(4);
        due.is("4 drops, of which the last hour leaves 2", x.yards(), 12);
        x.pass(1);
        due.is("merchants now: 3, 0, 9, 9, 2", x.yards(), 12);
        x.tears(0);
        due.is("6 are a yard", x.yards(), 13);
        x.pass(1);
        due.is("later: as it is then", x.yards(), 12);
        DewLooms exact = Due.laid("l0,0,9;h5,0;s1;m1;y5;");
        due.is("a yard is enough", exact.yards(), 1);
        due.is("less is not", Due.laid("l0,0,9;h5,0;s1;m1;y6;").yards(), 0);
    }

    private static void setting(String of, DewLooms x, int... want) {
        for (int k = -1; k < want.length - 1; k++) {
            due.is("setting(" + k + ") of " + of, x.setting(k), want[k + 1]);
        }
        due.is("setting(-2) of " + of, x.setting(-2), BAD);
        due.is("setting behind the last loom of " + of, x.setting(x.count(0)), BAD);
    }

    private static void promise17Setting() {
        setting("a new object", new DewLooms(), 1, 0, 3, 2, 5, 8);
        // Wherever no drop is spoiled and all are alike, the first loom goes uppermost.
        setting("alike looms", Due.laid("l0,7,1;l0,2,1;l0,4,1;"), 0, 2, 4, 7);
        // The wide one below has 9 of the other's: only so there is a yard.
        setting("a wide one first", Due.laid("l0,3,3;l0,8,1;h2,0;s3;m3;y7;"), 1, 8, 3);
        setting("a wide one last", Due.laid("l0,8,1;l0,3,3;h2,0;s3;m3;y7;"), 1, 3, 8);
        setting("a bride below", Due.laid("l2,9,1;l1,0,1;s1;m1;y3;"), 2, 0, 9);
        setting("one loom", Due.laid("l1,6,2;"), 0, 6);
        setting("six looms",
            Due.laid("l0,9,1;l0,8,1;l0,7,1;l0,5,1;l0,4,1;l0,3,1;h3,0;s1;m1;y3;"),
            6, 3, 4, 5, 7, 8, 9);
    }

    private static void promise17SettingWithDropsAndShade() {
        // Loom 1 is full, so 4 drip from it; loom 0 wants these and its shade for 8.
        DewLooms x = Due.laid("l0,0,3;l0,4,1;h4,0;s1;m2;y8;");
        x.tears(1);
        x.tears(1);
        due.is("tears", x.tears(1), 3);
        due.is("shade", x.shade(0), 1);
        setting("a full one", x, 1, 4, 0);
        x.undo();
        setting("a full one without shade", x, 0, 0, 4);
        x.undo();
        x.shade(0);
        setting("one that is not full", x, 0, 0, 4);
        // A bride's has spoiled drops, but none more are: the merchants come now.
        DewLooms late = Due.laid("l1,0,1;l2,1,1;h9,0;s9;m1;y3;");
        late.pass(1);
        due.is("spoiled", late.count(4), 15);
        setting("merchants now", late, 2, 0, 1);
        // Spoiled before, and none more if the bride's goes up.
        DewLooms next = Due.laid("l1,0,1;l2,1,1;h9,0;s9;m2;y3;");
        next.pass(1);
        setting("an hour more", next, 2, 1, 0);
    }

    private static void promise17SettingNone() {
        DewLooms x = Due.laid("l2,0,1;l2,5,1;h9,0;s1;m1;y1;");
        setting("two brides", x, NONE, NONE, NONE);
        x.pass(1);
        setting("two brides when it is so", x, 2, 0, 5);
    }

    private static void shading(DewLooms x, String of, int yards, int set) {
        due.is("shading(0) of " + of, x.shading(0), yards);
        due.is("shading(1) of " + of, x.shading(1), set);
    }

    private static void promise18Shading() {
        DewLooms x = new DewLooms();
        shading(x, "a new object", 5, 23);
        x.shade(0);
        shading(x, "a shaded one", 5, 22);
        x.shade(1);
        x.shade(2);
        x.shade(3);
        x.shade(4);
        shading(x, "shaded ones alone", 5, 0);
        x.pass(6);
        shading(x, "merchants now", 5, 0);
        x.shade(0);
        shading(x, "merchants now, one unshaded", 5, 0);
        // Shade helps the first; the second has a yard anyway, the third has none anyway.
        shading(Due.laid("l0,0,2;l3,1,9;l0,2,1;h6,0;s1;m2;y5;"), "three looms", 2, 1);
        shading(Due.laid("l0,0,2;l3,1,9;l0,2,1;h6,0;s1;m2;y27;"), "no yard at all", 0, 0);
        due.is("shading(2)", x.shading(2), BAD);
        due.is("shading(-1)", x.shading(-1), BAD);
    }

    private static void promise19Wants() {
        DewLooms x = new DewLooms();
        int[] want = {NONE, 2, NONE, 0, NONE};
        for (int l = 0; l < want.length; l++) {
            due.is("wants(" + l + ")", x.wants(l), want[l]);
        }
        due.is("wants(5)", x.wants(5), BAD);
        due.is("wants(-1)", x.wants(-1), BAD);
        due.is("8 more", Due.laid("l1,0,1;h9,0;s3;m3;y27;").wants(0), 8);
        due.is("9 more", Due.laid("l1,0,1;h9,0;s3;m4;y27;").wants(0), 9);
        due.is("10 would be too many", Due.laid("l1,0,1;h9,0;s3;m5;y27;").wants(0), NONE);
        due.is("more than 9 in all", Due.laid("l1,0,9;h9,0;s3;m13;y27;").wants(0), 7);
        DewLooms late = Due.laid("l1,0,1;h9,0;s3;m3;y12;");
        due.is("of 3 hours", late.wants(0), 3);
        late.pass(2);
        due.is("of the last hour: 3 and 18", late.wants(0), 3);
        late.pass(1);
        due.is("too late", late.wants(0), NONE);
    }

    private static void drips(DewLooms x, String when, int... want) {
        for (int l = 0; l < want.length; l++) {
            due.is("drips(" + l + ") " + when, x.drips(l), want[l]);
        }
    }

    private static void promise20Drips() {
        DewLooms x = new DewLooms();
        drips(x, "at hour 0", NONE, NONE, NONE, NONE, NONE);
        x.pass(1);
        drips(x, "at hour 1", NONE, NONE, 1, NONE, NONE);
        x.pass(1);
        drips(x, "at hour 2", NONE, NONE, 1, NONE, NONE);
        x.tears(3);
        x.tears(2);
        drips(x, "with tears", NONE, NONE, 1, 2, 3);
        x.set(4, 1);
        drips(x, "set elsewhere", NONE, 4, 1, 2, NONE);
        x.pass(1);
        drips(x, "in the sun", NONE, NONE, NONE, NONE, NONE);
        due.is("drips(5)", x.drips(5), BAD);
        due.is("drips(-1)", x.drips(-1), BAD);
        // What runs from the uppermost makes the next one run, but no further.
        DewLooms y = Due.laid("l0,9,9;l0,5,1;l0,3,1;h3,0;s9;");
        y.tears(2);
        drips(y, "from place 3 by place 5", 1, 2, NONE);
        DewLooms z = Due.laid("l0,9,9;l0,5,9;l0,3,1;h3,0;s9;");
        z.tears(2);
        drips(z, "from place 3 alone", NONE, 2, NONE);
        DewLooms sunny = Due.laid("l0,0,1;l0,1,1;h9,0;s0;");
        drips(sunny, "without night", NONE, NONE);
    }

    private static void nothingChangesByAsking() {
        DewLooms x = new DewLooms();
        x.pass(1);
        x.shade(0);
        x.seen(0, 8, 1);
        String before = Due.shown(x);
        x.behind(24, 0, 0);
        x.yards();
        x.setting(-1);
        x.setting(0);
        x.shading(0);
        x.shading(1);
        x.wants(0);
        x.drips(0);
        x.cows();
        x.colds();
        x.likely(0, 6, 5, 0);
        x.year(5, 40, 0);
        x.loom(0, 0);
        x.hour(0, 0);
        x.at(0);
        x.fault();
        due.same("what is only asked", before, x);
        due.is("can be undone", x.count(8), 2);
        due.is("hours as ever", x.behind(1, 0, 0), 8);
    }
}
