import java.util.ArrayList;
import java.util.Arrays;
import java.util.HashSet;
import java.util.List;
import java.util.Set;
import java.util.regex.Pattern;

/** The document once more, slowly and by other means: sets searched, walks tried out, texts written out. */
final class Model {
    static final int NONE = -6, UNKNOWN = -1, OUTSIDE = -2, STATE = -3, FULL = -4, NO = -5;
    private static final long LOST = -1000000000000000000L;
    private static final Pattern TEXT = Pattern.compile("(\\.|[A-F?][A-F]-?[0-5])*");
    private static final Pattern ONESELF = Pattern.compile("AA|BB|CC|DD|EE|FF");
    private static final String[] ENDINGS = {"", "A0", "B0", "0"};

    private static final class World {
        final int[][] ends = new int[6][2];
        final int[] layer = new int[6];
        final int[] tenths = new int[6];
        final boolean[][] trusts = new boolean[6][6];
        final boolean[][] knows = new boolean[6][6];
        final int[][] belief = new int[6][6];
        final List<int[]> sights = new ArrayList<>();
        int fade = 3;

        World copy() {
            World w = new World();
            for (int k = 0; k < 6; k++) {
                w.ends[k] = ends[k].clone();
                w.trusts[k] = trusts[k].clone();
                w.knows[k] = knows[k].clone();
                w.belief[k] = belief[k].clone();
                w.layer[k] = layer[k];
                w.tenths[k] = tenths[k];
            }
            w.sights.addAll(sights);
            w.fade = fade;
            return w;
        }

        int bears(int plank) {
            return (int) Arrays.stream(belief[plank]).filter(days -> days > 0).count();
        }

        boolean part(String part) {
            if (part.equals(".")) {
                for (int[] row : belief) {
                    for (int i = 0; i < 6; i++) {
                        row[i] = Math.max(0, row[i] - 1);
                    }
                }
                return true;
            }
            int by = part.charAt(0) - 'A';
            int to = part.charAt(1) - 'A';
            int plank = part.charAt(part.length() - 1) - '0';
            boolean denial = part.charAt(2) == '-';
            if (by == to || !trusts[to][by]) {
                return false;
            }
            if (denial) {
                boolean had = belief[plank][to] > 0;
                belief[plank][to] = 0;
                return had;
            }
            boolean may = layer[plank] == by || belief[plank][by] > 0;
            if (!may || layer[plank] == to || knows[to][plank] || belief[plank][to] > 0) {
                return false;
            }
            belief[plank][to] = fade;
            return true;
        }

        int vain(String text) {
            int many = 0;
            for (String part : parts(text)) {
                many += part(part) ? 0 : 1;
            }
            return many;
        }

        void all(int by, String matter) {
            for (char to = 'A'; to <= 'F'; to++) {
                part("" + (char) ('A' + by) + to + matter);
            }
        }
    }

    private World now = new World();
    private final World[] images = new World[2];
    private String text = "";

    Model() {
        for (int k = 0; k < 6; k++) {
            now.ends[k] = new int[] {k, (k + 1) % 6};
            now.layer[k] = k;
            now.tenths[k] = 5;
        }
    }

    private static List<String> parts(String text) {
        List<String> parts = new ArrayList<>();
        String rest = text;
        while (!rest.isEmpty()) {
            int length = rest.charAt(0) == '.' ? 1 : rest.charAt(2) == '-' ? 4 : 3;
            parts.add(rest.substring(0, length));
            rest = rest.substring(length);
        }
        return parts;
    }

    private static boolean no(int... six) {
        return Arrays.stream(six).anyMatch(v -> v < 0 || v > 5);
    }

    private static boolean out(int v, int least, int most) {
        return v < least || v > most;
    }

    private static boolean sound(String text) {
        return TEXT.matcher(text).matches() && !ONESELF.matcher(text).find()
            && text.chars().filter(sign -> sign == '?').count() <= 3;
    }

    private int refusal() {
        return !sound(text) ? NO : text.contains("?") ? STATE : 0;
    }

    int plank(int plank, int island, int other, int person) {
        if (no(plank, island, other, person) || island == other) {
            return UNKNOWN;
        }
        now.ends[plank] = new int[] {island, other};
        now.layer[plank] = person;
        now.belief[plank] = new int[6];
        for (boolean[] row : now.knows) {
            row[plank] = false;
        }
        return 1;
    }

    int trust(int person, int other, boolean trusts) {
        if (no(person, other) || person == other) {
            return UNKNOWN;
        }
        now.trusts[person][other] = trusts;
        return 1;
    }

    int know(int person, int plank, boolean knows) {
        if (no(person, plank)) {
            return UNKNOWN;
        }
        now.knows[person][plank] = knows;
        now.belief[plank][person] = knows ? 0 : now.belief[plank][person];
        return 1;
    }

    int fade(int v) {
        if (out(v, 1, 9)) {
            return OUTSIDE;
        }
        int before = now.fade;
        now.fade = v;
        return before;
    }

    int say(int sign) {
        if (out(sign, 33, 126)) {
            return OUTSIDE;
        }
        if (text.length() == 60) {
            return FULL;
        }
        text += (char) sign;
        return text.length();
    }

    int wipe() {
        int before = text.length();
        text = "";
        return before;
    }

    int fault() {
        for (int many = 1; many <= text.length(); many++) {
            String start = text.substring(0, many);
            if (Arrays.stream(ENDINGS).noneMatch(ending -> sound(start + ending))) {
                return many - 1;
            }
        }
        return sound(text) ? NONE : text.length();
    }

    int vain(int i) {
        if (refusal() != 0) {
            return refusal();
        }
        World then = now.copy();
        List<Integer> vain = new ArrayList<>();
        List<String> parts = parts(text);
        for (int place = 0; place < parts.size(); place++) {
            if (!then.part(parts.get(place))) {
                vain.add(place);
            }
        }
        return i == -1 ? vain.size() : i >= 0 && i < vain.size() ? vain.get(i) : NONE;
    }

    int done() {
        if (refusal() != 0) {
            return refusal();
        }
        now.vain(text);
        int parts = parts(text).size();
        text = "";
        return parts;
    }

    int bears(int plank, int person) {
        if (no(plank) || person != -1 && no(person)) {
            return UNKNOWN;
        }
        return person == -1 ? now.bears(plank) : now.belief[plank][person];
    }

    int behind(int plank, int person) {
        if (no(plank) || person != -1 && no(person)) {
            return UNKNOWN;
        }
        if (refusal() != 0) {
            return refusal();
        }
        World then = now.copy();
        then.vain(text);
        return person == -1 ? then.bears(plank) : then.belief[plank][person];
    }

    int falls(int island, int planks, int many, int n, int what) {
        if (no(island)) {
            return UNKNOWN;
        }
        if (out(n, 1, 6) || out(what, 0, 1) || out(many, 0, 6) || out(planks, 0, (int) Math.pow(10, many) - 1)) {
            return OUTSIDE;
        }
        String digits = many == 0 ? "" : String.format("%0" + many + "d", planks);
        List<Integer> islands = new ArrayList<>(List.of(island));
        for (char digit : digits.toCharArray()) {
            int here = islands.get(islands.size() - 1);
            int plank = digit - '0';
            if (no(plank) || now.ends[plank][0] != here && now.ends[plank][1] != here) {
                return NO;
            }
            islands.add(now.ends[plank][0] + now.ends[plank][1] - here);
        }
        for (int place = 0; place < many; place++) {
            if (now.bears(digits.charAt(place) - '0') < n) {
                return what == 0 ? place : islands.get(place);
            }
        }
        return what == 0 ? NONE : islands.get(many);
    }

    /** All walks of at most six planks, islands trodden again too, shorter ones and lesser planks first. */
    private List<List<Integer>> walks(int from, int to) {
        List<List<Integer>> found = new ArrayList<>();
        List<List<Integer>> planks = new ArrayList<>(List.of(List.of()));
        List<Integer> ends = new ArrayList<>(List.of(from));
        for (int length = 0; length <= 6; length++) {
            List<List<Integer>> nextPlanks = new ArrayList<>();
            List<Integer> nextEnds = new ArrayList<>();
            for (int w = 0; w < planks.size(); w++) {
                int here = ends.get(w);
                if (here == to) {
                    found.add(planks.get(w));
                }
                for (int plank = 0; plank < 6; plank++) {
                    for (int side = 0; side < 2; side++) {
                        if (now.ends[plank][side] == here) {
                            List<Integer> longer = new ArrayList<>(planks.get(w));
                            longer.add(plank);
                            nextPlanks.add(longer);
                            nextEnds.add(now.ends[plank][1 - side]);
                        }
                    }
                }
            }
            planks = nextPlanks;
            ends = nextEnds;
        }
        return found;
    }

    /** By search over who believes: how few tellings till n do; NONE. */
    private int tellings(int plank, int n) {
        Set<Integer> reached = new HashSet<>();
        int start = 0;
        for (int person = 0; person < 6; person++) {
            start |= now.belief[plank][person] > 0 ? 1 << person : 0;
        }
        reached.add(start);
        for (int many = 0; many <= 6; many++) {
            Set<Integer> next = new HashSet<>();
            for (int believers : reached) {
                if (Integer.bitCount(believers) >= n) {
                    return many;
                }
                for (int by = 0; by < 6; by++) {
                    for (int to = 0; to < 6; to++) {
                        boolean may = now.layer[plank] == by || (believers >> by & 1) == 1;
                        boolean open = now.trusts[to][by] && now.layer[plank] != to && !now.knows[to][plank];
                        if (by != to && may && open && (believers >> to & 1) == 0) {
                            next.add(believers | 1 << to);
                        }
                    }
                }
            }
            reached = next;
        }
        return NONE;
    }

    int tellings(int from, int to, int n, int i) {
        if (no(from, to)) {
            return UNKNOWN;
        }
        if (out(n, 1, 6)) {
            return OUTSIDE;
        }
        int fewest = Integer.MAX_VALUE;
        List<Integer> way = null;
        for (List<Integer> walk : walks(from, to)) {
            int many = 0;
            for (int plank : new HashSet<>(walk)) {
                int more = tellings(plank, n);
                many = more == NONE ? 1000 : many + more;
                if (more == NONE) {
                    break;
                }
            }
            if (many < 1000 && many < fewest) {
                fewest = many;
                way = walk;
            }
        }
        if (way == null) {
            return NONE;
        }
        return i == -1 ? fewest : i >= 0 && i < way.size() ? way.get(i) : NONE;
    }

    int stands(int from, int to, int n) {
        if (no(from, to)) {
            return UNKNOWN;
        }
        if (out(n, 1, 6)) {
            return OUTSIDE;
        }
        if (from == to) {
            return NONE;
        }
        World then = now.copy();
        int days = 0;
        while (reaches(then, from, to, n)) {
            then.part(".");
            days++;
        }
        return days;
    }

    private static boolean reaches(World world, int from, int to, int n) {
        boolean[] wet = new boolean[6];
        wet[from] = true;
        for (int round = 0; round < 6; round++) {
            for (int plank = 0; plank < 6; plank++) {
                int[] ends = world.ends[plank];
                if (world.bears(plank) >= n && (wet[ends[0]] || wet[ends[1]])) {
                    wet[ends[0]] = true;
                    wet[ends[1]] = true;
                }
            }
        }
        return wet[to];
    }

    int word(int what) {
        if (out(what, 0, 1)) {
            return OUTSIDE;
        }
        int first = 0;
        int most = 0;
        for (int code = 0; code < 36; code++) {
            World then = now.copy();
            then.all(code / 6, "-" + code % 6);
            int ended = now.bears(code % 6) - then.bears(code % 6);
            if (ended > most) {
                most = ended;
                first = code / 6 * 10 + code % 6;
            }
        }
        return what == 0 ? first : most;
    }

    int rumour(int plank, int m) {
        if (no(plank)) {
            return UNKNOWN;
        }
        if (out(m, 1, 6)) {
            return OUTSIDE;
        }
        World then = now.copy();
        int day = 0;
        while (then.bears(plank) < m) {
            day++;
            if (day > 30) {
                return NONE;
            }
            if (day > 1) {
                then.part(".");
            }
            World morning = then.copy();
            for (int hearer = 0; hearer < 6; hearer++) {
                for (int teller = 0; teller < 6; teller++) {
                    World one = morning.copy();
                    if (one.part("" + (char) ('A' + teller) + (char) ('A' + hearer) + plank)) {
                        then.belief[plank][hearer] = then.fade;
                    }
                }
            }
        }
        return day;
    }

    int odds(int plank, int person, int other, int first) {
        if (no(plank, person, other) || person == other) {
            return UNKNOWN;
        }
        if (out(first, 0, 1)) {
            return OUTSIDE;
        }
        World then = now.copy();
        for (int turn = 0; turn < 2; turn++) {
            if (turn == first) {
                then.all(person, "" + plank);
            } else {
                then.all(other, "-" + plank);
            }
        }
        return then.bears(plank);
    }

    int tenths(int plank, int v) {
        if (no(plank)) {
            return UNKNOWN;
        }
        if (out(v, 0, 10)) {
            return OUTSIDE;
        }
        int before = now.tenths[plank];
        now.tenths[plank] = v;
        return before;
    }

    /** Upper, lower, then the planks; null: no way. */
    private long[] safest(int from, int to) {
        long[] best = null;
        for (List<Integer> walk : walks(from, to)) {
            long upper = 1;
            long lower = 1;
            for (int plank : new HashSet<>(walk)) {
                upper *= now.tenths[plank];
                lower *= 10;
            }
            if (best == null || upper * best[1] > best[0] * lower) {
                best = new long[2 + walk.size()];
                best[0] = upper;
                best[1] = lower;
                for (int i = 0; i < walk.size(); i++) {
                    best[2 + i] = walk.get(i);
                }
            }
        }
        return best;
    }

    int safe(int from, int to, int i) {
        if (no(from, to)) {
            return UNKNOWN;
        }
        long[] best = safest(from, to);
        return best == null || i < 0 || i >= best.length - 2 ? NONE : (int) best[2 + i];
    }

    long chance(int from, int to, int part) {
        if (no(from, to)) {
            return LOST + UNKNOWN;
        }
        if (out(part, 0, 1)) {
            return LOST + OUTSIDE;
        }
        long[] best = safest(from, to);
        long upper = best == null ? 0 : best[0];
        long lower = best == null ? 1 : best[1];
        long shared = java.math.BigInteger.valueOf(upper).gcd(java.math.BigInteger.valueOf(lower)).longValue();
        return (part == 0 ? upper : lower) / shared;
    }

    int seen(int plank, int v) {
        if (no(plank)) {
            return UNKNOWN;
        }
        if (out(v, 0, 6)) {
            return OUTSIDE;
        }
        if (now.sights.size() == 6) {
            return FULL;
        }
        now.sights.add(new int[] {plank, v});
        return now.sights.size();
    }

    int forget() {
        int before = now.sights.size();
        now.sights.clear();
        return before;
    }

    private void fillings(String left, String letters, List<String> ways) {
        int place = left.indexOf('?');
        if (place >= 0) {
            for (char letter = 'A'; letter <= 'F'; letter++) {
                if (letter != left.charAt(place + 1)) {
                    fillings(left.replaceFirst("\\?", "" + letter), letters + letter, ways);
                }
            }
            return;
        }
        World then = now.copy();
        if (then.vain(left) == 0 && now.sights.stream().allMatch(sight -> then.bears(sight[0]) == sight[1])) {
            ways.add(letters);
        }
    }

    int filled(int i) {
        if (!sound(text)) {
            return NO;
        }
        List<String> ways = new ArrayList<>();
        fillings(text, "", ways);
        if (i == -1) {
            return ways.size();
        }
        return ways.isEmpty() || i < 0 || i >= ways.get(0).length() ? NONE : ways.get(0).charAt(i) - 'A';
    }

    int year(int seed, int m, int plank) {
        if (plank != -1 && no(plank)) {
            return UNKNOWN;
        }
        if (out(seed, 0, 9999) || out(m, 1, 99)) {
            return OUTSIDE;
        }
        World then = now.copy();
        long x = seed;
        int heard = 0;
        for (int many = 0; many < m; ) {
            x = (75 * x + 74) % 65537;
            String part = "" + (char) ('A' + x % 6) + (char) ('A' + x / 6 % 6) + x / 36 % 6;
            heard += then.part(part) ? 1 : 0;
            many++;
            if (many % 10 == 0) {
                then.part(".");
            }
        }
        return plank == -1 ? heard : then.bears(plank);
    }

    int image(int n) {
        if (out(n, 0, 1)) {
            return OUTSIDE;
        }
        images[n] = now.copy();
        return 1;
    }

    int restore(int n) {
        if (out(n, 0, 1)) {
            return OUTSIDE;
        }
        if (images[n] == null) {
            return STATE;
        }
        now = images[n].copy();
        return 1;
    }

    int told(int what) {
        int[] alone = {text.length(), now.fade, now.sights.size()};
        if (what >= 0 && what < 3) {
            return alone[what];
        }
        int which = what % 10;
        if (what < 10 || what > 45 || which > 5) {
            return OUTSIDE;
        }
        int bits = 0;
        for (int bit = 0; bit < 6; bit++) {
            boolean on = what < 20 ? now.trusts[which][bit] : now.knows[which][bit];
            bits += on ? 1 << bit : 0;
        }
        int low = Math.min(now.ends[which][0], now.ends[which][1]);
        int high = Math.max(now.ends[which][0], now.ends[which][1]);
        return what < 30 ? bits : what < 40 ? now.layer[which] * 100 + low * 10 + high : now.tenths[which];
    }
}
