import java.util.Random;

/** Runs of calls by draws (from written seeds), each answer held against the model's. */
public final class ModelTest {
    private static final int RUNS = 1500;
    // an object is used for 512 calls at most, and a text takes up to 140 of them
    private static final int CALLS = 512 - 140;
    private static final int[] STRANGE = {Integer.MIN_VALUE, Integer.MIN_VALUE + 1, -1000, -7, -2, -1, 6, 7, 9, 10,
        11, 100, 65536, 1 << 30, Integer.MAX_VALUE - 1, Integer.MAX_VALUE};

    private final Checks checks;
    private final Random draw;
    private final LieBridges x = new LieBridges();
    private final Model y = new Model();
    private final int run;
    private int calls;

    private ModelTest(Checks checks, int run) {
        this.checks = checks;
        this.run = run;
        draw = new Random(run);
    }

    public static void main(String[] args) {
        Checks checks = new Checks();
        for (int run = 0; run < RUNS; run++) {
            new ModelTest(checks, run).go();
        }
        checks.end("ModelTest");
    }

    private void go() {
        // some runs begin with much trust, or nothing could be told on
        int trusting = draw.nextInt(4);
        for (int i = 0; i < 10 * trusting; i++) {
            int person = six();
            int other = six();
            due("trust(" + person + ", " + other + ", true)", x.trust(person, other, true), y.trust(person, other, true));
        }
        while (calls < CALLS) {
            if (draw.nextInt(5) == 0) {
                write();
                if (draw.nextInt(3) > 0) {
                    due("done()", x.done(), y.done());
                }
            } else if (draw.nextInt(5) == 0) {
                change();
            } else {
                ask();
            }
        }
    }

    private void due(String call, long got, long want) {
        calls++;
        checks.due("run " + run + ", call " + calls + ": " + call, got, want);
    }

    private int six() {
        return draw.nextInt(40) == 0 ? STRANGE[draw.nextInt(STRANGE.length)] : draw.nextInt(6);
    }

    private int from(int least, int most) {
        return draw.nextInt(30) == 0 ? STRANGE[draw.nextInt(STRANGE.length)] : least + draw.nextInt(most - least + 1);
    }

    private void say(int sign) {
        due("say(" + sign + ")", x.say(sign), y.say(sign));
    }

    /** A text whose parts mostly take effect, often with a ?, seldom with a fault. */
    private void write() {
        if (draw.nextInt(12) > 0) {
            due("wipe()", x.wipe(), y.wipe());
        }
        int parts = draw.nextInt(15) == 0 ? 25 : draw.nextInt(6);
        int asking = draw.nextInt(3);
        for (int part = 0; part < parts; part++) {
            if (draw.nextInt(12) == 0) {
                say('.');
            } else {
                part(asking > 0 && draw.nextInt(3) < asking);
            }
            if (draw.nextInt(80) == 0) {
                say(from(30, 130));
            }
        }
        due("fault()", x.fault(), y.fault());
        int i = from(-2, 12);
        due("vain(" + i + ")", x.vain(i), y.vain(i));
        due("vain(-1)", x.vain(-1), y.vain(-1));
        int k = from(-2, 3);
        due("filled(" + k + ")", x.filled(k), y.filled(k));
        due("filled(-1)", x.filled(-1), y.filled(-1));
    }

    private void part(boolean asks) {
        boolean denial = draw.nextInt(4) == 0;
        int teller = 0;
        int hearer = 0;
        int plank = 0;
        // a few draws for one that takes effect: it has then, or the last one stays
        for (int turn = 0; turn < 25; turn++) {
            teller = draw.nextInt(6);
            hearer = draw.nextInt(6);
            plank = draw.nextInt(6);
            boolean believes = y.bears(plank, hearer) > 0;
            boolean may = y.told(30 + plank) / 100 == teller || y.bears(plank, teller) > 0;
            if ((y.told(10 + hearer) >> teller & 1) == 1 && (denial ? believes : may && !believes)) {
                break;
            }
        }
        say(asks ? '?' : 'A' + teller);
        say(teller == hearer && draw.nextInt(20) > 0 ? 'A' + (hearer + 1) % 6 : 'A' + hearer);
        if (denial) {
            say('-');
        }
        say('0' + plank);
    }

    private void change() {
        int a = six();
        int b = six();
        int c = six();
        int d = six();
        boolean on = draw.nextInt(3) > 0;
        switch (draw.nextInt(14)) {
            case 0 -> due("plank(" + a + ", " + b + ", " + c + ", " + d + ")", x.plank(a, b, c, d), y.plank(a, b, c, d));
            case 1, 2, 6 -> due("trust(" + a + ", " + b + ", " + on + ")", x.trust(a, b, on), y.trust(a, b, on));
            case 3 -> due("know(" + a + ", " + b + ", " + !on + ")", x.know(a, b, !on), y.know(a, b, !on));
            case 4 -> {
                int v = from(1, 9);
                due("fade(" + v + ")", x.fade(v), y.fade(v));
            }
            case 5 -> due("done()", x.done(), y.done());
            case 7, 8, 9 -> {
                int v = from(0, 10);
                due("tenths(" + a + ", " + v + ")", x.tenths(a, v), y.tenths(a, v));
            }
            case 10 -> {
                int v = draw.nextInt(3) == 0 ? from(0, 6) : y.behind(a, -1);
                due("seen(" + a + ", " + v + ")", x.seen(a, v), y.seen(a, v));
            }
            case 11 -> {
                if (draw.nextInt(3) == 0) {
                    due("forget()", x.forget(), y.forget());
                }
            }
            case 12 -> {
                int n = draw.nextInt(8) == 0 ? six() : draw.nextInt(2);
                due("image(" + n + ")", x.image(n), y.image(n));
            }
            default -> {
                int n = draw.nextInt(8) == 0 ? six() : draw.nextInt(2);
                due("restore(" + n + ")", x.restore(n), y.restore(n));
            }
        }
    }

    private void ask() {
        int a = six();
        int b = six();
        int c = six();
        int n = from(1, 6) > 3 ? from(1, 6) : from(1, 3);
        int i = from(-2, 5);
        int half = from(0, 1);
        switch (draw.nextInt(13)) {
            case 0 -> due("bears(" + a + ", " + i + ")", x.bears(a, i), y.bears(a, i));
            case 1 -> due("behind(" + a + ", " + i + ")", x.behind(a, i), y.behind(a, i));
            case 2 -> falls(a, n, half);
            case 3, 4 -> due("tellings(" + a + ", " + b + ", " + n + ", " + i + ")", x.tellings(a, b, n, i), y.tellings(a, b, n, i));
            case 5 -> due("stands(" + a + ", " + b + ", " + n + ")", x.stands(a, b, n), y.stands(a, b, n));
            case 6 -> due("word(" + half + ")", x.word(half), y.word(half));
            case 7 -> due("rumour(" + a + ", " + n + ")", x.rumour(a, n), y.rumour(a, n));
            case 8 -> due("odds(" + a + ", " + b + ", " + c + ", " + half + ")", x.odds(a, b, c, half), y.odds(a, b, c, half));
            case 9 -> due("safe(" + a + ", " + b + ", " + i + ")", x.safe(a, b, i), y.safe(a, b, i));
            case 10 -> due("chance(" + a + ", " + b + ", " + half + ")", x.chance(a, b, half), y.chance(a, b, half));
            case 11 -> {
                int seed = from(0, 9999);
                int m = from(1, 99);
                due("year(" + seed + ", " + m + ", " + i + ")", x.year(seed, m, i), y.year(seed, m, i));
            }
            default -> {
                int what = from(-1, 50);
                due("told(" + what + ")", x.told(what), y.told(what));
            }
        }
    }

    /** Digits that are mostly those of a walk. */
    private void falls(int island, int n, int what) {
        int many = from(0, 6);
        int planks = 0;
        int here = island;
        for (int step = 0; step < many && step < 9; step++) {
            int plank = draw.nextInt(6);
            for (int turn = 0; turn < 6 && draw.nextInt(20) > 0; turn++) {
                int ends = y.told(30 + plank) % 100;
                if (ends / 10 == here || ends % 10 == here) {
                    here = ends / 10 + ends % 10 - here;
                    break;
                }
                plank = (plank + 1) % 6;
            }
            planks = planks * 10 + plank;
        }
        int number = draw.nextInt(20) == 0 ? from(0, 999999) : planks;
        due("falls(" + island + ", " + number + ", " + many + ", " + n + ", " + what + ")",
            x.falls(island, number, many, n, what), y.falls(island, number, many, n, what));
    }
}
