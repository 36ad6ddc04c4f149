/** The edges of all promises: what is refused, by which answer, and that nothing changes then. */
public final class RefusedEdgesTest {
    private static final int BAD = Edge.BAD, NO = Edge.NO, FULL = Edge.FULL, NONE = Edge.NONE;
    private static final int[] WILD = {Integer.MIN_VALUE, Integer.MIN_VALUE + 1, -1_000_000_000,
        -65537, -1000, -257, -129, -3, -2, 10_000, 65536, 1 << 24, 1_000_000_000,
        Integer.MAX_VALUE - 1, Integer.MAX_VALUE};

    public static void main(String[] args) throws ReflectiveOperationException {
        Edge.run(RefusedEdgesTest.class);
    }

    @Says(promise = Says.OF_ALL, words = "BAD: a number is none that is told")
    static void anyNumberThatIsFarOffIsBad() {
        for (int wild : WILD) {
            Edge.Call[] calls = {x -> x.write(wild), x -> x.loom(wild, 0), x -> x.loom(0, wild),
                x -> x.hour(wild, 0), x -> x.hour(0, wild), x -> x.at(wild), x -> x.pass(wild),
                x -> x.shade(wild), x -> x.cow(wild), x -> x.tears(wild), x -> x.set(wild, 7),
                x -> x.set(0, wild), x -> x.behind(wild, 0, 0), x -> x.behind(0, wild, 0),
                x -> x.behind(0, 0, wild), x -> x.setting(wild), x -> x.shading(wild),
                x -> x.wants(wild), x -> x.drips(wild), x -> x.seen(wild, 0, 0),
                x -> x.seen(0, wild, 0), x -> x.seen(0, 0, wild), x -> x.likely(wild, 0, 0, 0),
                x -> x.likely(0, wild, 0, 0), x -> x.likely(0, 0, wild, 0),
                x -> x.likely(0, 0, 0, wild), x -> x.year(wild, 1, 0), x -> x.year(0, wild, 0),
                x -> x.year(0, 1, wild), x -> x.count(wild)};
            for (int i = 0; i < calls.length; i++) {
                Edge.refuses(BAD, "call " + i + " with " + wild, Edge::busy, calls[i]);
            }
        }
    }

    @Says(promise = Says.OF_ALL, words = "BAD: a number is none that is told")
    static void twoNumbersThatAreFarOffAreBad() {
        for (int a : new int[] {Integer.MIN_VALUE, -1, Integer.MAX_VALUE}) {
            for (int b : new int[] {Integer.MIN_VALUE, -1, Integer.MAX_VALUE}) {
                Edge.Call[] calls = {x -> x.loom(a, b), x -> x.hour(a, b), x -> x.set(a, b),
                    x -> x.behind(a, b, a), x -> x.seen(a, b, a), x -> x.likely(a, b, b, a),
                    x -> x.year(a, b, a)};
                for (int i = 0; i < calls.length; i++) {
                    Edge.refuses(BAD, "call " + i + " with " + a + ", " + b, Edge::busy, calls[i]);
                }
            }
        }
    }

    @Says(promise = Says.OF_ALL, words = {"NO: not as things stand", "nothing changes then"})
    static void whatCannotBeAsThingsStandIsNo() {
        Edge.refuses(NO, "lay()", Edge::nothing, x -> x.lay());
        Edge.refuses(NO, "pass(24)", RefusedEdgesTest::lateHour, x -> x.pass(24));
        Edge.refuses(NO, "cow(0)", RefusedEdgesTest::lateHour, x -> x.cow(0));
        Edge.refuses(NO, "tears(1)", x -> x.pass(1), x -> x.tears(1));
        Edge.refuses(NO, "set(0, 8)", x -> x.pass(1), x -> x.set(0, 8));
        Edge.refuses(NO, "undo()", x -> x.keep(), x -> x.undo());
        Edge.refuses(NO, "back()", x -> x.pass(1), x -> x.back());
    }

    private static void lateHour(DewLooms x) {
        for (int i = 0; i < 4; i++) {
            x.pass(24);
        }
    }

    @Says(promise = Says.OF_ALL, words = {"NONE: there is none", "nothing changes then"})
    static void whereThereIsNoneIsNone() {
        Edge.refuses(NONE, "fault()", x -> Due.write(x, "y5;"), x -> x.fault());
        Edge.refuses(NONE, "at(1)", Edge::busy, x -> x.at(1));
        Edge.refuses(NONE, "setting(-1)", x -> {
            Due.write(x, "l2,0,1;l2,5,1;h4,0;");
            x.lay();
        }, x -> x.setting(-1));
        Edge.refuses(NONE, "wants(0)", Edge::nothing, x -> x.wants(0));
        Edge.refuses(NONE, "drips(0)", Edge::busy, x -> x.drips(0));
    }

    @Says(promise = Says.OF_ALL, words = {"FULL. Of several the first in this order",
        "nothing changes then"})
    static void whereThereIsNoRoomIsFull() {
        Edge.refuses(FULL, "write('y')", x -> Due.write(x, "y".repeat(200)), x -> x.write('y'));
        Edge.refuses(FULL, "seen(0, 0, 0)", x -> {
            for (int i = 0; i < 6; i++) {
                x.seen(4, 27, 12);
            }
        }, x -> x.seen(0, 0, 0));
        Edge.refuses(FULL, "keep()", x -> {
            x.keep();
            x.pass(1);
            x.keep();
        }, x -> x.keep());
    }

    @Says(promise = Says.OF_ALL, words = "An object is used for at most 512 calls after it has been"
        + " made; what later calls answer is free")
    static void theCall512IsAnswered() {
        DewLooms x = new DewLooms();
        String text = "l0,0,9;h1,0;s20;m24;y7;";
        Due.write(x, text);
        Edge.is("lay()", x.lay(), 1);
        int calls = text.length() + 1;
        Edge.is("pass(1)", x.pass(1), 1);
        calls++;
        while (calls < 510) {
            Edge.is("tears(0)", x.tears(0), 10);
            Edge.is("undo()", x.undo(), 1);
            calls += 2;
        }
        while (calls < 511) {
            Edge.is("behind(6, 0, 0)", x.behind(6, 0, 0), 7);
            calls++;
        }
        // 1 and 19 by night, and 5 hours of sun.
        Edge.is("the call 512", x.pass(24), 10);
    }
}
