import java.lang.reflect.InvocationTargetException;
import java.lang.reflect.Method;
import java.util.ArrayList;
import java.util.Comparator;
import java.util.List;

/**
 * What the tests of edges ask: the last number that is taken, the first one that is refused, and
 * that a call which is refused changes nothing.
 */
final class Edge {
    static final int BAD = -1, NO = -2, FULL = -3, NONE = -4;

    private static final Due due = new Due();
    private static String test = "";

    private Edge() {
    }

    interface Act {
        void on(DewLooms x);
    }

    interface Call {
        int on(DewLooms x);
    }

    interface CallOf {
        int on(DewLooms x, int number);
    }

    /** Runs every method of a class that says which words it is of; ends the test. */
    static void run(Class<?> tests) throws ReflectiveOperationException {
        for (Method method : testsOf(tests)) {
            test = method.getName();
            try {
                method.invoke(null);
            } catch (InvocationTargetException e) {
                throw new IllegalStateException(test, e.getCause());
            }
        }
        due.end();
    }

    static List<Method> testsOf(Class<?> tests) {
        List<Method> found = new ArrayList<>();
        for (Method method : tests.getDeclaredMethods()) {
            if (method.isAnnotationPresent(Says.class)) {
                found.add(method);
            }
        }
        found.sort(Comparator.comparing(Method::getName));
        return found;
    }

    static void is(String call, long got, long want) {
        due.is(test + ": " + call, got, want);
    }

    static void isTrue(String what, boolean so) {
        due.isTrue(test + ": " + what, so);
    }

    /** Of a new object; made twice, so that one goes on without the call. */
    static void refuses(int answer, String call, Act before, Call refused) {
        DewLooms with = made(before);
        is(call, refused.on(with), answer);
        isLike(call + " changes nothing", with, made(before));
    }

    /** Whatever the answer is, nothing is another behind the call. */
    static void changesNothing(String call, Act before, Call asked) {
        DewLooms with = made(before);
        asked.on(with);
        isLike(call + " changes nothing", with, made(before));
    }

    /** That the least and the most number are taken; what is below or above is BAD. */
    static void takes(int least, int most, String call, Act before, CallOf of) {
        for (int number : new int[] {least, most}) {
            int answer = of.on(made(before), number);
            isTrue(call + " takes " + number + ", answered " + answer,
                answer >= 0 || answer == NONE);
        }
        int[] below = {least - 1, least - 2, least - 256, -65536, Integer.MIN_VALUE + most,
            Integer.MIN_VALUE};
        int[] above = {most + 1, most + 2, most + 256, least + 65536, Integer.MAX_VALUE - 1,
            Integer.MAX_VALUE};
        for (int i = 0; i < below.length; i++) {
            int low = below[i];
            int high = above[i];
            refuses(BAD, call + " of " + low, before, x -> of.on(x, low));
            refuses(BAD, call + " of " + high, before, x -> of.on(x, high));
        }
    }

    static void isLike(String what, DewLooms got, DewLooms want) {
        String line = whole(got);
        String due = whole(want);
        isTrue(what + "\n  is  " + line + "\n  due " + due, line.equals(due));
    }

    static DewLooms made(Act before) {
        DewLooms x = new DewLooms();
        before.on(x);
        return x;
    }

    static void nothing(DewLooms x) {
    }

    /** Something of everything: acts, two that are kept, sights, letters. */
    static void busy(DewLooms x) {
        Due.write(x, "l1,4,2;h3,1;");
        x.pass(1);
        x.keep();
        x.shade(1);
        x.tears(0);
        x.seen(0, 6, 0);
        x.seen(1, 6, 1);
        x.set(4, 9);
        x.cow(3);
        x.pass(1);
        x.shade(4);
    }

    /** All that can be found out of an object by 425 calls; it is no more as it was then. */
    private static String whole(DewLooms x) {
        StringBuilder line = new StringBuilder(Due.shown(x));
        line.append("| at");
        for (int p = 0; p < 10; p++) {
            line.append(' ').append(x.at(p));
        }
        line.append("| hours");
        for (int h = 0; h <= 12; h++) {
            line.append(' ').append(x.hour(h, 0)).append(',').append(x.hour(h, 1));
        }
        line.append("| comes ").append(x.yards()).append(' ').append(x.setting(-1)).append(' ')
            .append(x.shading(1)).append(' ').append(x.colds()).append(' ').append(x.fault());
        while (x.undo() != NO) {
            brief(line.append("| undone"), x);
        }
        while (x.back() != NO) {
            brief(line.append("| back"), x);
        }
        line.append("| laid ").append(x.lay()).append(' ').append(x.hour(0, 0));
        brief(line, x);
        return line.toString();
    }

    private static void brief(StringBuilder line, DewLooms x) {
        int looms = x.count(0);
        line.append(' ').append(x.count(1)).append(' ').append(x.count(3)).append(' ')
            .append(x.cows());
        for (int l = 0; l < looms; l++) {
            line.append('/').append(x.loom(l, 1)).append(' ').append(x.loom(l, 3)).append(' ')
                .append(x.loom(l, 4)).append(' ').append(x.loom(l, 5));
        }
    }
}
