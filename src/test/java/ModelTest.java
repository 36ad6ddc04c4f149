/** All promises: long runs of calls, each answered by the program as by the model. */
public final class ModelTest {
    private static final int RUNS = 1200;
    private static final int CALLS = 512;
    private static final int MOST_TOLD = 20;

    private static final String[] NAMES = {"write", "wipe", "fault", "lay", "loom", "hour", "at",
        "pass", "shade", "cow", "tears", "set", "undo", "behind", "yards", "setting", "shading",
        "wants", "drips", "seen", "forget", "cows", "colds", "likely", "year", "keep", "back",
        "count"};
    // How often each of them is drawn; the last one is that of a new text, wiped, written and laid.
    private static final int[] WEIGHTS = {2, 1, 2, 1, 4, 2, 2, 10, 8, 6, 8, 6, 6, 6, 4, 2, 2, 6, 6,
        6, 1, 6, 6, 4, 6, 3, 2, 6, 1};
    private static final int ALL_WEIGHTS = 125;

    private final Due due;
    private final DewLooms looms = new DewLooms();
    private final Model model = new Model();
    private final StringBuilder run = new StringBuilder();
    private long draw;
    private int calls;
    private boolean wrong;

    private ModelTest(Due due, int number) {
        this.due = due;
        draw = number * 1_000_003L + 17;
    }

    public static void main(String[] args) {
        Due due = new Due();
        int told = 0;
        for (int number = 0; number < RUNS && told < MOST_TOLD; number++) {
            ModelTest test = new ModelTest(due, number);
            test.runAll();
            if (test.wrong) {
                told++;
                System.out.println("run " + number + ": " + test.run);
            }
        }
        due.end();
    }

    /** From 0 to most - 1, always the same ones. */
    private int below(int most) {
        draw = draw * 6364136223846793005L + 1442695040888963407L;
        return (int) ((draw >>> 33) % most);
    }

    /** Mostly a number that is told; now and then one that is not. */
    private int number(int least, int most) {
        if (below(40) > 0) {
            return least + below(most - least + 1);
        }
        int[] others = {least - 1, most + 1, -1, Integer.MIN_VALUE, Integer.MAX_VALUE, 100_000};
        return others[below(others.length)];
    }

    /** By the model: an object of the program has 512 calls, and these are none of them. */
    private int told(String name, int a, int b, int c) {
        return model.call(name, a, b, c, 0);
    }

    private int someLoom() {
        return number(0, told("count", 0, 0, 0) - 1);
    }

    private void runAll() {
        if (below(4) > 0) {
            newText();
        }
        while (calls < CALLS && !wrong) {
            int drawn = below(ALL_WEIGHTS);
            int which = 0;
            while (which < NAMES.length && drawn >= WEIGHTS[which]) {
                drawn -= WEIGHTS[which];
                which++;
            }
            if (which < NAMES.length) {
                draw(NAMES[which]);
            } else {
                newText();
            }
        }
    }

    private void newText() {
        ask("wipe", 0, 0, 0, 0);
        String text = text();
        for (int i = 0; i < text.length(); i++) {
            ask("write", text.charAt(i), 0, 0, 0);
        }
        ask("fault", 0, 0, 0, 0);
        ask("lay", 0, 0, 0, 0);
    }

    private String text() {
        StringBuilder text = new StringBuilder();
        int items = 1 + below(14);
        boolean[] taken = new boolean[100];
        int many = 0;
        for (int i = 0; i < items; i++) {
            switch (below(9)) {
                case 0: case 1: case 2: case 3:
                    int place = number(0, 9);
                    boolean free = place < 0 || place > 99 || !taken[place];
                    if (many == 6 || !free && below(8) > 0) {
                        break;
                    }
                    taken[Math.floorMod(place, 100)] = true;
                    many++;
                    text.append('l').append(number(0, 3)).append(',').append(place).append(',')
                        .append(below(3) == 0 ? number(1, 9) : number(1, 3)).append(';');
                    break;
                case 4: case 5:
                    text.append('h').append(number(0, 9)).append(',').append(number(0, 1))
                        .append(';');
                    break;
                case 6: text.append('s').append(number(0, 20)).append(';'); break;
                case 7: text.append('m').append(number(1, 24)).append(';'); break;
                default: text.append('y').append(1 + below(below(2) == 0 ? 27 : 9)).append(';');
            }
        }
        if (below(12) == 0 && text.length() > 0) {
            text.setCharAt(below(text.length()), "lhsmy0123456789,; z".charAt(below(19)));
        }
        if (below(30) == 0) {
            text.append(text);
        }
        return text.length() > 200 ? text.substring(0, 200) : text.toString();
    }

    private void draw(String name) {
        switch (name) {
            case "write": ask(name, number(32, 126), 0, 0, 0); break;
            case "loom": ask(name, someLoom(), number(0, 5), 0, 0); break;
            case "hour": ask(name, number(0, 99), number(0, 1), 0, 0); break;
            case "at": ask(name, number(0, 9), 0, 0, 0); break;
            case "pass": ask(name, number(1, below(5) == 0 ? 24 : 2), 0, 0, 0); break;
            case "set": ask(name, someLoom(), number(0, 9), 0, 0); break;
            case "behind": ask(name, number(0, 24), someLoom(), number(0, 1), 0); break;
            case "setting":
                ask(name, number(-1, told("count", 0, 0, 0) - 1), 0, 0, 0);
                break;
            case "shading": ask(name, number(0, 1), 0, 0, 0); break;
            case "seen": drawSeen(); break;
            case "likely":
                ask(name, someLoom(), number(0, 6), number(0, 10), number(0, 1));
                break;
            case "year": ask(name, number(0, 9999), number(1, 40), number(0, 2), 0); break;
            case "count": ask(name, number(0, 10), 0, 0, 0); break;
            default: ask(name, someLoom(), 0, 0, 0); break;
        }
    }

    /** Mostly what will be so, or nearly so: of other sights cows and colds tell nothing. */
    private void drawSeen() {
        int l = someLoom();
        int t = number(0, 12);
        int will = told("behind", t, l, 0);
        int n = below(4) == 0 || will < 0 ? number(0, 27) : will / (1 + below(3) / 2);
        if (told("count", 7, 0, 0) > below(6)) {
            ask("forget", 0, 0, 0, 0);
        }
        ask("seen", l, n, t, 0);
    }

    private void ask(String name, int a, int b, int c, int d) {
        if (calls >= CALLS || wrong) {
            return;
        }
        calls++;
        int got = answer(name, a, b, c, d);
        int want = model.call(name, a, b, c, d);
        String call = name + "(" + a + ", " + b + ", " + c + ", " + d + ")";
        run.append(call).append(' ');
        wrong = got != want;
        due.is(call, got, want);
    }

    private int answer(String name, int a, int b, int c, int d) {
        switch (name) {
            case "write": return looms.write(a);
            case "wipe": return looms.wipe();
            case "fault": return looms.fault();
            case "lay": return looms.lay();
            case "loom": return looms.loom(a, b);
            case "hour": return looms.hour(a, b);
            case "at": return looms.at(a);
            case "pass": return looms.pass(a);
            case "shade": return looms.shade(a);
            case "cow": return looms.cow(a);
            case "tears": return looms.tears(a);
            case "set": return looms.set(a, b);
            case "undo": return looms.undo();
            case "behind": return looms.behind(a, b, c);
            case "yards": return looms.yards();
            case "setting": return looms.setting(a);
            case "shading": return looms.shading(a);
            case "wants": return looms.wants(a);
            case "drips": return looms.drips(a);
            case "seen": return looms.seen(a, b, c);
            case "forget": return looms.forget();
            case "cows": return looms.cows();
            case "colds": return looms.colds();
            case "likely": return looms.likely(a, b, c, d);
            case "year": return looms.year(a, b, c);
            case "keep": return looms.keep();
            case "back": return looms.back();
            case "count": return looms.count(a);
            default: throw new IllegalArgumentException(name);
        }
    }
}
