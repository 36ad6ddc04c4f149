import java.math.BigInteger;
import java.util.ArrayDeque;
import java.util.ArrayList;
import java.util.Comparator;
import java.util.Deque;
import java.util.List;
import java.util.function.ToIntFunction;
import java.util.regex.Matcher;
import java.util.regex.Pattern;

/**
 * The document once more, told in another way: every act makes a new stand of looms, texts are
 * read by patterns, settings are found by recursion, chances are fractions that are added up.
 */
final class Model {
    private static final int BAD = -1, NO = -2, FULL = -3, NONE = -4;
    private static final Pattern ITEM = Pattern.compile(
        "l(0?[0-3]),(0?[0-9]),(0?[1-9]);|h(0?[0-9]),(0?[01]);|s(0?[0-9]|1[0-9]|20);"
        + "|m(0?[1-9]|1[0-9]|2[0-4]);|y(0?[1-9]|1[0-9]|2[0-7]);");

    private record Loom(int kind, int place, int threads, int drops, int spoiled, boolean shade) {
        Loom hanging(int newDrops) {
            return new Loom(kind, place, threads, newDrops, spoiled, shade);
        }

        Loom on(int newPlace) {
            return new Loom(kind, newPlace, threads, drops, spoiled, shade);
        }

        Loom shaded(boolean newShade) {
            return new Loom(kind, place, threads, drops, spoiled, newShade);
        }
    }

    private record Stand(List<Loom> looms, int hour, int ranOff) {
        Stand with(int l, Loom loom) {
            List<Loom> others = new ArrayList<>(looms);
            others.set(l, loom);
            return new Stand(others, hour, ranOff);
        }

        int sum(ToIntFunction<Loom> of) {
            return looms.stream().mapToInt(of).sum();
        }
    }

    private record Weather(int cold, boolean mist) { }

    private record Sight(int loom, int drops, int hours) { }

    /** All that a text tells; where it has a fault, only that. */
    private static final class Told {
        private final List<Loom> looms = new ArrayList<>();
        private final List<Weather> hours = new ArrayList<>();
        private int sun = 6;
        private int merchants = 9;
        private int yard = 6;
        private int fault = NONE;

        Told(String text) {
            Matcher item = ITEM.matcher(text);
            int place = 0;
            while (place < text.length() && fault == NONE) {
                item.region(place, text.length());
                if (!item.lookingAt() || !take(item)) {
                    fault = place;
                } else {
                    place = item.end();
                }
            }
        }

        private boolean take(Matcher item) {
            switch (item.group().charAt(0)) {
                case 'l':
                    int place = number(item, 2);
                    looms.add(new Loom(number(item, 1), place, number(item, 3), 0, 0, false));
                    return looms.size() <= 6
                        && looms.stream().filter(loom -> loom.place() == place).count() == 1;
                case 'h':
                    hours.add(new Weather(number(item, 4), number(item, 5) == 1));
                    return hours.size() <= 12;
                case 's': sun = number(item, 6); return true;
                case 'm': merchants = number(item, 7); return true;
                default: yard = number(item, 8); return true;
            }
        }

        private static int number(Matcher item, int group) {
            return Integer.parseInt(item.group(group));
        }

        Weather weather(int hour) {
            if (hours.isEmpty()) {
                return new Weather(4, false);
            }
            return hour < hours.size() ? hours.get(hour) : hours.get(hours.size() - 1);
        }
    }

    private String text = "";
    private Told told = new Told(
        "l0,0,3;l1,2,2;l2,3,3;l3,5,4;l0,8,2;h3,0;h5,0;h2,1;h0,1;s3;m6;y5;");
    private Stand stand = new Stand(told.looms, 0, 0);
    private final List<Sight> sights = new ArrayList<>();
    private final Deque<Stand> undone = new ArrayDeque<>();
    private final Deque<Stand> kept = new ArrayDeque<>();

    /** A call by its name, with its numbers. */
    int call(String name, int a, int b, int c, int d) {
        switch (name) {
            case "write": return write(a);
            case "wipe": return wipe();
            case "fault": return new Told(text).fault;
            case "lay": return lay();
            case "loom": return noLoom(a) || b < 0 || b > 5 ? BAD : loom(stand.looms().get(a), b);
            case "hour": return hour(a, b);
            case "at": return a < 0 || a > 9 ? BAD : at(a);
            case "pass": return pass(a);
            case "shade": return shade(a);
            case "cow": return cow(a);
            case "tears": return tears(a);
            case "set": return set(a, b);
            case "undo": return undo();
            case "behind": return behind(a, b, c);
            case "yards": return yards(stand);
            case "setting": return setting(a);
            case "shading": return shading(a);
            case "wants": return wants(a);
            case "drips": return drips(a);
            case "seen": return seen(a, b, c);
            case "forget": return forget();
            case "cows": return cows();
            case "colds": return colds();
            case "likely": return likely(a, b, c, d);
            case "year": return year(a, b, c);
            case "keep": return keep();
            case "back": return back();
            case "count": return count(a);
            default: throw new IllegalArgumentException(name);
        }
    }

    private boolean noLoom(int l) {
        return l < 0 || l >= stand.looms().size();
    }

    private int write(int letter) {
        if (letter < ' ' || letter > '~') {
            return BAD;
        }
        if (text.length() == 200) {
            return FULL;
        }
        text += (char) letter;
        return text.length();
    }

    private int wipe() {
        int length = text.length();
        text = "";
        return length;
    }

    private int lay() {
        Told read = new Told(text);
        if (read.fault != NONE || read.looms.isEmpty()) {
            return NO;
        }
        told = read;
        stand = new Stand(read.looms, 0, 0);
        sights.clear();
        undone.clear();
        kept.clear();
        return read.looms.size();
    }

    private static int loom(Loom loom, int what) {
        return new int[] {loom.kind(), loom.place(), loom.threads(), loom.drops(), loom.spoiled(),
            loom.shade() ? 1 : 0}[what];
    }

    private int hour(int h, int what) {
        if (h < 0 || h > 99 || what < 0 || what > 1) {
            return BAD;
        }
        Weather weather = told.weather(h);
        return what == 0 ? weather.cold() : weather.mist() ? 1 : 0;
    }

    private int at(int p) {
        for (int l = 0; l < stand.looms().size(); l++) {
            if (stand.looms().get(l).place() == p) {
                return l;
            }
        }
        return NONE;
    }

    private void act(Stand next) {
        undone.addLast(stand);
        if (undone.size() > 8) {
            undone.removeFirst();
        }
        stand = next;
    }

    private static int settling(int kind, Weather weather) {
        int cold = weather.cold();
        if (!weather.mist()) {
            return kind == 1 ? cold * 2 : cold;
        }
        int half = (cold - cold % 2) / 2;
        return kind == 3 ? cold + 2 : kind == 1 ? half + half : half;
    }

    /** An hour of that weather; what runs down from each loom goes into ran, if it is a row. */
    private Stand next(Stand from, Weather weather, int[] ran) {
        List<Loom> looms = new ArrayList<>(from.looms());
        if (from.hour() >= told.sun) {
            looms.replaceAll(loom -> loom.shade() ? loom
                : loom.hanging(Math.max(loom.drops() - (loom.kind() == 3 ? 1 : 2), 0)));
            return new Stand(looms, from.hour() + 1, from.ranOff());
        }
        List<Loom> down = new ArrayList<>(from.looms());
        down.sort(Comparator.comparingInt(Loom::place));
        int running = 0;
        for (Loom loom : down) {
            int l = from.looms().indexOf(loom);
            boolean bride = loom.kind() == 2;
            int come = loom.drops() + settling(loom.kind(), weather) + (bride ? 0 : running);
            int stays = come > 3 * loom.threads() ? 3 * loom.threads() : come;
            looms.set(l, new Loom(loom.kind(), loom.place(), loom.threads(), stays,
                loom.spoiled() + (bride ? running : 0), loom.shade()));
            running = come - stays;
            if (ran != null) {
                ran[l] = running;
            }
        }
        return new Stand(looms, from.hour() + 1, from.ranOff() + running);
    }

    private Stand later(Stand from, int hours) {
        return hours <= 0 ? from
            : later(next(from, told.weather(from.hour()), null), hours - 1);
    }

    private int pass(int n) {
        if (n < 1 || n > 24) {
            return BAD;
        }
        if (stand.hour() + n > 99) {
            return NO;
        }
        act(later(stand, n));
        return stand.sum(Loom::drops);
    }

    private int shade(int l) {
        if (noLoom(l)) {
            return BAD;
        }
        Loom loom = stand.looms().get(l);
        act(stand.with(l, loom.shaded(!loom.shade())));
        return loom.shade() ? 0 : 1;
    }

    private static Loom breathedOn(Loom loom) {
        return loom.hanging((loom.drops() - loom.drops() % 2) / 2);
    }

    private static Loom weptOn(Loom loom) {
        return loom.hanging(Math.min(loom.drops() + loom.threads(), 3 * loom.threads()));
    }

    private int cow(int l) {
        if (noLoom(l)) {
            return BAD;
        }
        if (stand.looms().get(l).drops() == 0) {
            return NO;
        }
        act(stand.with(l, breathedOn(stand.looms().get(l))));
        return stand.looms().get(l).drops();
    }

    private int tears(int l) {
        if (noLoom(l)) {
            return BAD;
        }
        Loom wept = weptOn(stand.looms().get(l));
        if (wept.equals(stand.looms().get(l))) {
            return NO;
        }
        act(stand.with(l, wept));
        return wept.drops();
    }

    private int set(int l, int p) {
        if (noLoom(l) || p < 0 || p > 9) {
            return BAD;
        }
        if (at(p) != NONE) {
            return NO;
        }
        int old = stand.looms().get(l).place();
        act(stand.with(l, stand.looms().get(l).on(p)));
        return old;
    }

    private int undo() {
        if (undone.isEmpty()) {
            return NO;
        }
        stand = undone.removeLast();
        return undone.size();
    }

    private int behind(int n, int l, int what) {
        if (n < 0 || n > 24 || noLoom(l) || what < 0 || what > 1) {
            return BAD;
        }
        Loom loom = later(stand, n).looms().get(l);
        return what == 0 ? loom.drops() : loom.spoiled();
    }

    private Stand atMarket(Stand from) {
        return later(from, told.merchants - from.hour());
    }

    private int yardsNow(Stand at) {
        int bits = 0;
        for (int l = 0; l < at.looms().size(); l++) {
            bits += at.looms().get(l).drops() >= told.yard ? 1 << l : 0;
        }
        return bits;
    }

    private int yards(Stand from) {
        return yardsNow(atMarket(from));
    }

    private void allWays(Stand soFar, int l, List<Integer> free, List<Stand> ways) {
        if (free.isEmpty()) {
            ways.add(soFar);
            return;
        }
        for (int i = 0; i < free.size(); i++) {
            List<Integer> rest = new ArrayList<>(free);
            int place = rest.remove(i);
            allWays(soFar.with(l, soFar.looms().get(l).on(place)), l + 1, rest, ways);
        }
    }

    private int setting(int k) {
        if (k < -1 || k >= stand.looms().size()) {
            return BAD;
        }
        List<Integer> places = stand.looms().stream().map(Loom::place).sorted().toList();
        List<Stand> ways = new ArrayList<>();
        allWays(stand, 0, places, ways);
        ways.removeIf(way -> atMarket(way).sum(Loom::spoiled) > stand.sum(Loom::spoiled));
        if (ways.isEmpty()) {
            return NONE;
        }
        int most = ways.stream().mapToInt(way -> Integer.bitCount(yards(way))).max().getAsInt();
        Stand best = ways.stream().filter(way -> Integer.bitCount(yards(way)) == most)
            .findFirst().get();
        return k == -1 ? most : best.looms().get(k).place();
    }

    private int shading(int what) {
        if (what != 0 && what != 1) {
            return BAD;
        }
        List<int[]> found = new ArrayList<>();
        for (int set = 0; set < 1 << stand.looms().size(); set++) {
            Stand hired = stand;
            boolean free = true;
            for (int l = 0; l < stand.looms().size(); l++) {
                if ((set & 1 << l) != 0) {
                    free &= !stand.looms().get(l).shade();
                    hired = hired.with(l, hired.looms().get(l).shaded(true));
                }
            }
            if (free) {
                found.add(new int[] {Integer.bitCount(yards(hired)), set});
            }
        }
        found.sort(Comparator.<int[]>comparingInt(row -> -row[0])
            .thenComparingInt(row -> Integer.bitCount(row[1])).thenComparingInt(row -> row[1]));
        return found.get(0)[what];
    }

    private int wants(int l) {
        if (noLoom(l)) {
            return BAD;
        }
        Loom loom = stand.looms().get(l);
        for (int more = 0; more <= 9; more++) {
            Loom wider = new Loom(loom.kind(), loom.place(), loom.threads() + more, loom.drops(),
                loom.spoiled(), loom.shade());
            if ((yards(stand.with(l, wider)) & 1 << l) != 0) {
                return more;
            }
        }
        return NONE;
    }

    private int drips(int l) {
        if (noLoom(l)) {
            return BAD;
        }
        int[] ran = new int[6];
        next(stand, told.weather(stand.hour()), ran);
        for (int p = stand.looms().get(l).place() - 1; p >= 0; p--) {
            if (at(p) != NONE) {
                return ran[at(p)] > 0 ? at(p) : NONE;
            }
        }
        return NONE;
    }

    private int seen(int l, int n, int t) {
        if (noLoom(l) || n < 0 || n > 27 || t < 0 || t > 12) {
            return BAD;
        }
        if (sights.size() == 6) {
            return FULL;
        }
        sights.add(new Sight(l, n, t));
        return sights.size();
    }

    private int forget() {
        int many = sights.size();
        sights.clear();
        return many;
    }

    private boolean allSo(Stand from, Weather first) {
        for (Sight sight : sights) {
            Stand then = sight.hours() == 0 ? from
                : later(next(from, first, null), sight.hours() - 1);
            if (then.looms().get(sight.loom()).drops() != sight.drops()) {
                return false;
            }
        }
        return true;
    }

    private int cows() {
        Weather own = told.weather(stand.hour());
        int bits = allSo(stand, own) ? 64 : 0;
        for (int l = 0; l < stand.looms().size(); l++) {
            bits += allSo(stand.with(l, breathedOn(stand.looms().get(l))), own) ? 1 << l : 0;
        }
        return bits;
    }

    private int colds() {
        int bits = 0;
        for (int cold = 0; cold <= 9; cold++) {
            Weather other = new Weather(cold, told.weather(stand.hour()).mist());
            bits += allSo(stand, other) ? 1 << cold : 0;
        }
        return bits;
    }

    /** How likely, out of ten to the n-th, by the mist or its lack in one hour after another. */
    private BigInteger chances(Stand from, int l, int n, int x) {
        if (n == 0) {
            return from.looms().get(l).drops() >= told.yard ? BigInteger.ONE : BigInteger.ZERO;
        }
        int cold = told.weather(from.hour()).cold();
        BigInteger misty = chances(next(from, new Weather(cold, true), null), l, n - 1, x);
        BigInteger clear = chances(next(from, new Weather(cold, false), null), l, n - 1, x);
        return misty.multiply(BigInteger.valueOf(x)).add(
            clear.multiply(BigInteger.valueOf(10 - x)));
    }

    private int likely(int l, int n, int x, int part) {
        if (noLoom(l) || n < 0 || n > 6 || x < 0 || x > 10 || part < 0 || part > 1) {
            return BAD;
        }
        BigInteger above = chances(stand, l, n, x);
        BigInteger below = BigInteger.TEN.pow(n);
        BigInteger shared = above.gcd(below);
        return (part == 0 ? above : below).divide(shared).intValueExact();
    }

    private int year(int z, int n, int what) {
        if (z < 0 || z > 9999 || n < 1 || n > 40 || what < 0 || what > 2) {
            return BAD;
        }
        Stand then = stand;
        for (int i = 0; i < n; i++) {
            BigInteger x = BigInteger.valueOf(7919).multiply(BigInteger.valueOf(z))
                .add(BigInteger.valueOf(6151L * i)).add(BigInteger.ONE);
            int draw = x.multiply(x).mod(BigInteger.valueOf(65521)).shiftRight(1).intValueExact();
            int l = draw % then.looms().size();
            Loom loom = then.looms().get(l);
            int act = (draw >> 3) % 5;
            if (act == 0) {
                then = then.with(l, breathedOn(loom));
            } else if (act == 1) {
                then = then.with(l, weptOn(loom));
            } else if (act == 2) {
                then = then.with(l, loom.shaded(!loom.shade()));
            }
            then = later(then, 1);
        }
        return what == 0 ? Integer.bitCount(yardsNow(then))
            : what == 1 ? then.ranOff() : then.sum(Loom::spoiled);
    }

    private int keep() {
        if (kept.size() == 2) {
            return FULL;
        }
        kept.addLast(stand);
        return kept.size();
    }

    private int back() {
        if (kept.isEmpty()) {
            return NO;
        }
        stand = kept.removeLast();
        undone.clear();
        return kept.size();
    }

    private int count(int what) {
        switch (what) {
            case 0: return stand.looms().size();
            case 1: return stand.hour();
            case 2: return stand.sum(Loom::drops);
            case 3: return stand.ranOff();
            case 4: return stand.sum(Loom::spoiled);
            case 5: return stand.sum(loom -> loom.shade() ? 1 : 0);
            case 6: return Integer.bitCount(yardsNow(stand));
            case 7: return sights.size();
            case 8: return undone.size();
            case 9: return kept.size();
            case 10: return text.length();
            default: return BAD;
        }
    }
}
