import java.util.function.Supplier;
import java.util.function.ToLongFunction;

/** Each sentence under "Promise 1" to "Promise 28" that names a boundary case, in a test of its own. */
public final class BoundariesTest {
    private static final int NONE = -6, UNKNOWN = -1, OUTSIDE = -2, STATE = -3, FULL = -4, NO = -5;
    private static final long LOST = -1000000000000000000L;
    private static final int LEAST = Integer.MIN_VALUE, MOST = Integer.MAX_VALUE;
    private static final String WHOLE = "FA5.AB0", FILLABLE = "FA5AB-0?B0", FAULTY = "FA5.?B0A";
    private static final Checks checks = new Checks();

    public static void main(String[] args) {
        deltas();
        texts();
        days();
        ways();
        words();
        chances();
        fillings();
        images();
        checks.end("BoundariesTest");
    }

    private static void test(String sentence, Runnable test) {
        checks.test(sentence, test);
    }

    private static void due(String call, long got, long want) {
        checks.due(call, got, want);
    }

    private static LieBridges fresh() {
        return new LieBridges();
    }

    private static LieBridges made(String pairs, String text) {
        return Checks.made(pairs, text);
    }

    /** Little of it is as in a new object, neither image is, and such a text is on the pad. */
    private static LieBridges full(String text) {
        LieBridges x = made("BA CA DA CB AF", "AC0.AB0BC1");
        x.seen(0, 2);
        x.image(1);
        x.plank(4, 1, 3, 5);
        x.know(5, 3, true);
        x.image(0);
        x.fade(7);
        x.tenths(2, 9);
        x.tenths(0, 3);
        x.seen(4, 0);
        x.trust(3, 5, true);
        Checks.say(x, text);
        return x;
    }

    private static Supplier<LieBridges> with(String text) {
        return () -> full(text);
    }

    /** The call is refused, and changes nothing, whichever text is on the pad. */
    private static void refused(String call, ToLongFunction<LieBridges> asks, long want) {
        for (String text : new String[] {"", WHOLE, FILLABLE, FAULTY}) {
            checks.refused(call + " with " + text, with(text), asks, want);
        }
    }

    private static void refused(String call, String text, ToLongFunction<LieBridges> asks, long want) {
        checks.refused(call + " with " + text, with(text), asks, want);
    }

    // ---- 1 deltas, texts

    private static void deltas() {
        test("Promise 1: A ring of PLANKS", BoundariesTest::ring);
        test("Promise 1: nobody trusts anybody", BoundariesTest::noTrust);
        test("Promise 1: what Terms say of the first state", BoundariesTest::firstState);
        test("Promise 2: nobody has BELIEF in it then", BoundariesTest::plankEndsBeliefs);
        test("Promise 2: nobody KNOWS better then", BoundariesTest::plankEndsKnowing);
        test("Promise 2: A PLANK lies between two ISLANDS, laid by a PERSON: 1", BoundariesTest::plankLies);
        test("Promise 2: UNKNOWN: also both ISLANDS are one", BoundariesTest::plankUnknown);
        test("Promise 3: A PERSON trusts another one, or not: 1", BoundariesTest::trusts);
        test("Promise 3: UNKNOWN: also both are one", BoundariesTest::trustUnknown);
        test("Promise 4: knows true; its BELIEF ends", BoundariesTest::knows);
        test("Promise 4: or not: 1", BoundariesTest::knowsNot);
        test("Promise 4: UNKNOWN", BoundariesTest::knowUnknown);
        test("Promise 5: FADE: which it was", BoundariesTest::fadeWas);
        test("Promise 5: OUTSIDE", BoundariesTest::fadeOutside);
    }

    private static void ring() {
        for (int island = 0; island < 6; island++) {
            int next = (island + 1) % 6;
            due("from " + island + " to " + next, fresh().safe(island, next, 0), island);
            due("and no further", fresh().safe(island, next, 1), NONE);
            due("back", fresh().safe(next, island, 0), island);
        }
    }

    private static void noTrust() {
        for (char by = 'A'; by <= 'F'; by++) {
            LieBridges x = fresh();
            for (char to = 'A'; to <= 'F'; to++) {
                if (by != to) {
                    Checks.say(x, "" + by + to + (by - 'A'));
                }
            }
            due("tellings by " + by + " in vain", x.vain(-1), 5);
            due("whom " + by + " trusts", x.told(10 + by - 'A'), 0);
        }
    }

    private static void firstState() {
        LieBridges x = fresh();
        checks.same("BELIEFS", Checks.beliefs(x), "000000 000000 000000 000000 000000 000000");
        due("signs", x.told(0), 0);
        due("FADE", x.told(1), 3);
        due("SIGHTS", x.told(2), 0);
        due("image 0", x.restore(0), STATE);
        due("image 1", x.restore(1), STATE);
    }

    private static void plankEndsBeliefs() {
        LieBridges x = made("BA CA CB", "AB0AC0BC1");
        due("plank()", x.plank(0, 0, 1, 0), 1);
        checks.same("BELIEFS", Checks.beliefs(x), "000000 003000 000000 000000 000000 000000");
        LieBridges y = made("AF FA", "FA5");
        y.plank(3, 3, 4, 0);
        Checks.play(y, "AF3");
        due("plank()", y.plank(4, 4, 5, 4), 1);
        checks.same("BELIEFS", Checks.beliefs(y), "000000 000000 000000 000003 000000 300000");
    }

    private static void plankEndsKnowing() {
        LieBridges x = fresh();
        for (int person = 0; person < 6; person++) {
            x.know(person, 2, true);
            x.know(person, 3, true);
        }
        due("plank()", x.plank(2, 0, 1, 0), 1);
        for (int person = 0; person < 6; person++) {
            due("of which " + person + " KNOWS better", x.told(20 + person), 8);
        }
    }

    private static void plankLies() {
        LieBridges x = fresh();
        due("plank(5, 5, 0, 0)", x.plank(5, 5, 0, 0), 1);
        due("laid, lesser, greater", x.told(35), 5);
        due("plank(0, 4, 2, 5)", x.plank(0, 4, 2, 5), 1);
        due("laid, lesser, greater", x.told(30), 524);
        due("plank(0, 2, 4, 5)", x.plank(0, 2, 4, 5), 1);
        due("laid, lesser, greater", x.told(30), 524);
        due("beside 4", x.falls(4, 0, 1, 1, 0), 0);
        due("no longer beside 0", x.falls(0, 0, 1, 1, 0), NO);
        x.tenths(0, 9);
        x.plank(0, 0, 1, 0);
        due("its tenths stay", x.told(40), 9);
    }

    private static void plankUnknown() {
        for (int island = 0; island < 6; island++) {
            int one = island;
            due("both " + one, fresh().plank(0, one, one, 0), UNKNOWN);
        }
        refused("both 3", x -> x.plank(0, 3, 3, 0), UNKNOWN);
        int[][] wrong = {{-1, 0, 1, 0}, {6, 0, 1, 0}, {0, -1, 1, 0}, {0, 6, 1, 0}, {0, 0, -1, 0}, {0, 0, 6, 0},
            {0, 0, 1, -1}, {0, 0, 1, 6}, {LEAST, 0, 1, 0}, {MOST, 0, 1, 0}, {0, LEAST, 1, 0}, {0, 0, MOST, 0},
            {0, 0, 1, LEAST}, {0, 0, 1, MOST}};
        for (int[] w : wrong) {
            refused("plank", x -> x.plank(w[0], w[1], w[2], w[3]), UNKNOWN);
        }
    }

    private static void trusts() {
        LieBridges x = fresh();
        due("trusts", x.trust(5, 0, true), 1);
        due("trusts already", x.trust(5, 0, true), 1);
        due("bits", x.told(15), 1);
        due("trusts the last one, too", x.trust(5, 4, true), 1);
        due("bits", x.told(15), 17);
        due("trusts not", x.trust(5, 0, false), 1);
        due("trusts not already", x.trust(5, 0, false), 1);
        due("bits", x.told(15), 16);
        due("not the other way round", x.told(14), 0);
        due("nor who was never trusted", x.trust(0, 5, false), 1);
        due("bits", x.told(10), 0);
    }

    private static void trustUnknown() {
        for (int person = 0; person < 6; person++) {
            due("both " + person, fresh().trust(person, person, true), UNKNOWN);
        }
        int[][] wrong = {{3, 3}, {-1, 0}, {6, 0}, {0, -1}, {0, 6}, {LEAST, 0}, {MOST, 0}, {0, LEAST}, {0, MOST}};
        for (int[] w : wrong) {
            refused("trust", x -> x.trust(w[0], w[1], true), UNKNOWN);
            refused("trust not", x -> x.trust(w[0], w[1], false), UNKNOWN);
        }
    }

    private static void knows() {
        LieBridges x = made("BA CA", "AB0AC0");
        due("know", x.know(1, 0, true), 1);
        checks.same("BELIEFS", Checks.beliefs(x), "003000 000000 000000 000000 000000 000000");
        due("know again", x.know(1, 0, true), 1);
        due("bits", x.told(21), 1);
        due("who has no BELIEF", x.know(5, 5, true), 1);
        due("bits", x.told(25), 32);
        due("who laid it", x.know(0, 0, true), 1);
        due("bits", x.told(20), 1);
    }

    private static void knowsNot() {
        LieBridges x = made("BA", "AB0");
        due("who has BELIEF", x.know(1, 0, false), 1);
        due("which stays", x.bears(0, 1), 3);
        x.know(1, 0, true);
        due("knows not", x.know(1, 0, false), 1);
        due("bits", x.told(21), 0);
        due("the BELIEF does not come back", x.bears(0, 1), 0);
    }

    private static void knowUnknown() {
        int[][] wrong = {{-1, 0}, {6, 0}, {0, -1}, {0, 6}, {LEAST, 0}, {MOST, 0}, {0, LEAST}, {0, MOST}};
        for (int[] w : wrong) {
            refused("know", x -> x.know(w[0], w[1], true), UNKNOWN);
            refused("know not", x -> x.know(w[0], w[1], false), UNKNOWN);
        }
    }

    private static void fadeWas() {
        LieBridges x = made("BA", "AB0");
        due("of a new object", x.fade(9), 3);
        due("the greatest", x.fade(1), 9);
        due("the least", x.fade(1), 1);
        due("told", x.told(1), 1);
        due("a BELIEF as it was", x.bears(0, 1), 3);
    }

    private static void fadeOutside() {
        for (int v : new int[] {0, 10, -1, LEAST, MOST}) {
            refused("fade(" + v + ")", x -> x.fade(v), OUTSIDE);
        }
    }

    private static void texts() {
        test("Promise 6: A sign more: how many", BoundariesTest::signs);
        test("Promise 6: OUTSIDE", BoundariesTest::sayOutside);
        test("Promise 6: FULL", BoundariesTest::sayFull);
        test("Promise 7: Signs go: how many there were", BoundariesTest::wiped);
        test("Promise 8: THE FAULT; NONE", BoundariesTest::faults);
    }

    private static void signs() {
        LieBridges x = fresh();
        for (int many = 1; many <= 60; many++) {
            due("say", x.say('.'), many);
        }
        x.wipe();
        due("behind wipe()", x.say('!'), 1);
    }

    private static void sayOutside() {
        for (int sign : new int[] {32, 127, 0, -1, LEAST, MOST}) {
            refused("say(" + sign + ")", x -> x.say(sign), OUTSIDE);
        }
    }

    private static void sayFull() {
        String sixty = "AB0".repeat(20);
        refused("say", sixty, x -> x.say('.'), FULL);
        refused("say", sixty, x -> x.say(33), FULL);
        LieBridges x = full(sixty);
        x.say('.');
        due("the signs stay as they are", x.vain(-1), 20);
    }

    private static void wiped() {
        LieBridges x = full("");
        due("none", x.wipe(), 0);
        x.say('A');
        due("one", x.wipe(), 1);
        due("how many now", x.told(0), 0);
        due("again", x.wipe(), 0);
        due("sixty", Checks.written("~".repeat(60)).wipe(), 60);
        due("what is done is not undone", x.bears(0, -1), 2);
    }

    private static void faults() {
        due("none", Checks.written("AB0.?C-5").fault(), NONE);
        due("none, empty", fresh().fault(), NONE);
        due("none, sixty", Checks.written("AB-0".repeat(15)).fault(), NONE);
        due("at once", Checks.written("!").fault(), 0);
        due("the last of sixty", Checks.written(".".repeat(59) + "B").fault(), 60);
        due("in the last of sixty", Checks.written(".".repeat(59) + "!").fault(), 59);
    }

    // ---- 2 days

    private static void days() {
        test("Promise 9: how many (i = -1)", BoundariesTest::vainMany);
        test("Promise 9: the i-th; NONE (i below -1, too)", BoundariesTest::vainEach);
        test("Promise 9: NO: there is a FAULT", BoundariesTest::vainNo);
        test("Promise 9: STATE: there is some ?", BoundariesTest::vainState);
        test("Promise 10: PARTS", BoundariesTest::doneParts);
        test("Promise 10: it is empty then", BoundariesTest::doneEmpties);
        test("Promise 10: it stays when the call is refused", BoundariesTest::doneStays);
        test("Promise 10: NO: there is a FAULT", BoundariesTest::doneNo);
        test("Promise 10: STATE: there is some ?", BoundariesTest::doneState);
        test("Promise 11: What a PLANK BEARS (person = -1)", BoundariesTest::bearsAll);
        test("Promise 11: the BELIEF of a PERSON in it, now", BoundariesTest::bearsOne);
        test("Promise 11: UNKNOWN", BoundariesTest::bearsUnknown);
        test("Promise 12: BEHIND, likewise", BoundariesTest::behindLikewise);
        test("Promise 12: UNKNOWN", BoundariesTest::behindUnknown);
        test("Promise 12: NO, STATE, as of done()", BoundariesTest::behindRefused);
        test("Promise 13: the place (what = 0; NONE), the ISLAND (1)", BoundariesTest::fallsWhat);
        test("Promise 13: UNKNOWN: the ISLAND", BoundariesTest::fallsUnknown);
        test("Promise 13: OUTSIDE: n", BoundariesTest::fallsParty);
        test("Promise 13: OUTSIDE: what", BoundariesTest::fallsChoice);
        test("Promise 13: OUTSIDE: many (0 to 6)", BoundariesTest::fallsMany);
        test("Promise 13: OUTSIDE: planks (below 0", BoundariesTest::fallsBelow);
        test("Promise 13: OUTSIDE: or of more digits", BoundariesTest::fallsDigits);
        test("Promise 13: NO: some digit is no PLANK", BoundariesTest::fallsNoPlank);
        test("Promise 13: NO: or is not beside", BoundariesTest::fallsNotBeside);
    }

    private static void vainMany() {
        due("none of none", fresh().vain(-1), 0);
        due("none of one", full("AD0").vain(-1), 0);
        due("one of two", full("AD0AD0").vain(-1), 1);
        due("twenty", full("CA1".repeat(20)).vain(-1), 20);
    }

    private static void vainEach() {
        LieBridges x = full("CA1AD0AD0.AD-1");
        int[] places = {0, 2, 4};
        for (int i = 0; i < places.length; i++) {
            due("vain(" + i + ")", x.vain(i), places[i]);
        }
        for (int i : new int[] {3, 4, -2, -3, LEAST, MOST}) {
            due("vain(" + i + ")", x.vain(i), NONE);
        }
        due("of none", fresh().vain(0), NONE);
        due("of an empty text, below -1", fresh().vain(-2), NONE);
        due("all but one", full("AD0").vain(0), NONE);
        due("the text stays", x.told(0), 14);
        checks.same("BELIEFS", Checks.beliefs(x), Checks.beliefs(full("")));
    }

    private static void vainNo() {
        for (int i : new int[] {-1, 0, -2, 99}) {
            refused("vain(" + i + ")", FAULTY, x -> x.vain(i), NO);
            refused("vain(" + i + ")", "AB0A", x -> x.vain(i), NO);
        }
    }

    private static void vainState() {
        for (int i : new int[] {-1, 0, -2, 99}) {
            refused("vain(" + i + ")", "?B0", x -> x.vain(i), STATE);
            refused("vain(" + i + ")", "AB0?B-0", x -> x.vain(i), STATE);
        }
    }

    private static void doneParts() {
        due("none", full("").done(), 0);
        due("a day", full(".").done(), 1);
        due("in vain", full("CA1").done(), 1);
        due("of each kind", full("AD0.AD-0").done(), 3);
        due("sixty", full(".".repeat(60)).done(), 60);
    }

    private static void doneEmpties() {
        LieBridges x = full("AD0");
        x.done();
        due("signs", x.told(0), 0);
        due("fault", x.fault(), NONE);
        due("once more", x.done(), 0);
        due("done but once", x.bears(0, 3), 7);
    }

    private static void doneStays() {
        LieBridges x = full("AD0?");
        due("refused", x.done(), NO);
        due("signs", x.told(0), 4);
        Checks.say(x, "B-0");
        due("refused", x.done(), STATE);
        due("signs", x.told(0), 7);
        due("the text is the same", x.filled(-1), 1);
        due("one more", x.say('.'), 8);
        due("nothing is done", x.bears(0, 3), 0);
    }

    private static void doneNo() {
        refused("done", FAULTY, x -> x.done(), NO);
        refused("done", "A", x -> x.done(), NO);
        refused("done", "AD0!", x -> x.done(), NO);
    }

    private static void doneState() {
        refused("done", "?D0", x -> x.done(), STATE);
        refused("done", "AD0.?B-0", x -> x.done(), STATE);
    }

    private static void bearsAll() {
        due("two", full("AD0").bears(0, -1), 2);
        due("one", full("AD0").bears(1, -1), 1);
        due("none", full("FA5").bears(5, -1), 0);
    }

    private static void bearsOne() {
        int[] want = {0, 3, 2, 0, 0, 0};
        for (int person = 0; person < 6; person++) {
            due("of " + person, full("AD0.").bears(0, person), want[person]);
        }
    }

    private static void bearsUnknown() {
        int[][] wrong = {{-1, 0}, {6, 0}, {-1, -1}, {6, -1}, {0, -2}, {0, 6}, {LEAST, 0}, {MOST, 0}, {0, LEAST}, {0, MOST}};
        for (int[] w : wrong) {
            refused("bears", x -> x.bears(w[0], w[1]), UNKNOWN);
        }
    }

    private static void behindLikewise() {
        LieBridges x = full("AD0..");
        int[] want = {0, 1, 0, 5, 0, 0};
        for (int person = 0; person < 6; person++) {
            due("of " + person, x.behind(0, person), want[person]);
        }
        due("borne", x.behind(0, -1), 2);
        due("as now, empty", full("").behind(0, -1), 2);
        due("as now, empty", full("").behind(0, 2), 2);
        checks.same("BELIEFS now", Checks.beliefs(x), Checks.beliefs(full("")));
        due("the text stays", x.told(0), 5);
    }

    private static void behindUnknown() {
        int[][] wrong = {{-1, 0}, {6, 0}, {-1, -1}, {6, -1}, {0, -2}, {0, 6}, {LEAST, 0}, {MOST, 0}, {0, LEAST}, {0, MOST}};
        for (int[] w : wrong) {
            refused("behind", x -> x.behind(w[0], w[1]), UNKNOWN);
        }
    }

    private static void behindRefused() {
        for (int person = -1; person < 6; person++) {
            int one = person;
            refused("behind", "AB", x -> x.behind(0, one), NO);
            refused("behind", FAULTY, x -> x.behind(0, one), NO);
            refused("behind", "?D0", x -> x.behind(0, one), STATE);
        }
    }

    private static void fallsWhat() {
        LieBridges x = full("");
        due("none falls", x.falls(0, 1, 2, 1, 0), NONE);
        due("none falls, to", x.falls(0, 1, 2, 1, 1), 2);
        due("the first", x.falls(0, 1, 2, 3, 0), 0);
        due("the first, to", x.falls(0, 1, 2, 3, 1), 0);
        due("the last", x.falls(0, 1, 2, 2, 0), 1);
        due("the last, to", x.falls(0, 1, 2, 2, 1), 1);
        due("of none", x.falls(0, 0, 0, 1, 0), NONE);
        due("of none, to", x.falls(5, 0, 0, 6, 1), 5);
        due("the sixth", x.falls(0, 4, 6, 1, 0), 5);
        due("the sixth, to", x.falls(0, 4, 6, 1, 1), 1);
    }

    private static void fallsUnknown() {
        for (int island : new int[] {-1, 6, LEAST, MOST}) {
            refused("falls", x -> x.falls(island, 0, 0, 1, 0), UNKNOWN);
        }
    }

    private static void fallsParty() {
        for (int n : new int[] {0, 7, -1, LEAST, MOST}) {
            refused("falls of " + n, x -> x.falls(0, 0, 1, n, 0), OUTSIDE);
            refused("falls of " + n + ", no PLANKS", x -> x.falls(0, 0, 0, n, 1), OUTSIDE);
        }
    }

    private static void fallsChoice() {
        for (int what : new int[] {-1, 2, LEAST, MOST}) {
            refused("falls, what " + what, x -> x.falls(0, 0, 1, 1, what), OUTSIDE);
        }
    }

    private static void fallsMany() {
        due("0", full("").falls(0, 0, 0, 1, 0), NONE);
        due("6", full("").falls(0, 0, 6, 1, 0), NONE);
        for (int many : new int[] {-1, 7, 10, LEAST, MOST}) {
            refused("falls over " + many, x -> x.falls(0, 0, many, 1, 0), OUTSIDE);
        }
    }

    private static void fallsBelow() {
        due("0", full("").falls(0, 0, 1, 1, 0), NONE);
        for (int planks : new int[] {-1, -10, LEAST}) {
            refused("falls over " + planks, x -> x.falls(0, planks, 6, 1, 0), OUTSIDE);
            refused("falls over " + planks + ", many 0", x -> x.falls(0, planks, 0, 1, 0), OUTSIDE);
        }
    }

    private static void fallsDigits() {
        int[][] fitting = {{0, 1}, {0, 2}, {1, 2}, {1, 6}};
        for (int[] w : fitting) {
            due("falls over " + w[0] + " by " + w[1], full("").falls(0, w[0], w[1], 6, 0) >= 0 ? 1 : 0, 1);
        }
        due("the greatest of six digits", full("").falls(0, 999999, 6, 1, 0), NO);
        due("the greatest of one digit", full("").falls(0, 9, 1, 1, 0), NO);
        int[][] wrong = {{1, 0}, {10, 1}, {100, 2}, {1000, 3}, {10000, 4}, {100000, 5}, {1000000, 6}, {MOST, 6}, {MOST, 0}};
        for (int[] w : wrong) {
            refused("falls over " + w[0] + " by " + w[1], x -> x.falls(0, w[0], w[1], 1, 0), OUTSIDE);
        }
    }

    private static void fallsNoPlank() {
        int[][] wrong = {{6, 1}, {9, 1}, {6, 2}, {60, 2}, {6, 6}, {900000, 6}};
        for (int[] w : wrong) {
            refused("falls over " + w[0] + " by " + w[1], x -> x.falls(0, w[0], w[1], 1, 0), NO);
            refused("falls over " + w[0] + " by " + w[1], x -> x.falls(0, w[0], w[1], 6, 1), NO);
        }
    }

    private static void fallsNotBeside() {
        int[][] wrong = {{1, 1}, {3, 1}, {2, 2}, {5, 2}, {3, 6}, {12, 2}};
        for (int[] w : wrong) {
            refused("falls over " + w[0] + " by " + w[1], x -> x.falls(0, w[0], w[1], 1, 0), NO);
            refused("falls over " + w[0] + " by " + w[1], x -> x.falls(0, w[0], w[1], 6, 1), NO);
        }
    }

    // ---- 3 ways, words

    private static void ways() {
        test("Promise 14: how many (i = -1)", BoundariesTest::tellingsMany);
        test("Promise 14: the i-th PLANK of the way", BoundariesTest::tellingsEach);
        test("Promise 14: NONE: by none", BoundariesTest::tellingsNone);
        test("Promise 14: UNKNOWN", BoundariesTest::tellingsUnknown);
        test("Promise 14: OUTSIDE: n 1 to 6", BoundariesTest::tellingsOutside);
        test("Promise 15: STANDS; NONE", BoundariesTest::standsAnswers);
        test("Promise 15: UNKNOWN", BoundariesTest::standsUnknown);
        test("Promise 15: OUTSIDE", BoundariesTest::standsOutside);
    }

    private static void tellingsMany() {
        due("none", full("").tellings(0, 2, 1, -1), 0);
        due("one", full("").tellings(0, 1, 3, -1), 1);
        due("to itself", full("").tellings(1, 1, 6, -1), 0);
    }

    private static void tellingsEach() {
        LieBridges x = full("");
        due("0", x.tellings(0, 2, 1, 0), 0);
        due("1", x.tellings(0, 2, 1, 1), 1);
        for (int i : new int[] {2, 3, 6, -2, -3, LEAST, MOST}) {
            due("" + i, x.tellings(0, 2, 1, i), NONE);
        }
        due("to itself, 0", x.tellings(1, 1, 1, 0), NONE);
        due("to itself, -2", x.tellings(1, 1, 1, -2), NONE);
        checks.same("BELIEFS", Checks.beliefs(x), Checks.beliefs(full("")));
    }

    private static void tellingsNone() {
        for (int i : new int[] {-2, -1, 0, 1, LEAST, MOST}) {
            due("of six, " + i, full("").tellings(0, 1, 6, i), NONE);
            due("to 4, " + i, full("").tellings(0, 4, 1, i), NONE);
        }
    }

    private static void tellingsUnknown() {
        int[][] wrong = {{-1, 0}, {6, 0}, {0, -1}, {0, 6}, {6, 6}, {-1, -1}, {LEAST, 0}, {MOST, 0}, {0, LEAST}, {0, MOST}};
        for (int[] w : wrong) {
            refused("tellings", x -> x.tellings(w[0], w[1], 1, -1), UNKNOWN);
            refused("tellings, the way", x -> x.tellings(w[0], w[1], 1, 0), UNKNOWN);
        }
    }

    private static void tellingsOutside() {
        for (int n : new int[] {0, 7, -1, LEAST, MOST}) {
            refused("tellings of " + n, x -> x.tellings(0, 1, n, -1), OUTSIDE);
            refused("tellings of " + n + " to itself", x -> x.tellings(0, 0, n, 0), OUTSIDE);
        }
        due("of 1", full("").tellings(0, 1, 1, -1), 0);
        due("of 6", full("").tellings(0, 0, 6, -1), 0);
    }

    private static void standsAnswers() {
        due("two days", full("").stands(0, 1, 2), 2);
        due("three days", full("").stands(0, 1, 1), 3);
        due("none now", full("").stands(0, 1, 3), 0);
        due("none now of six", full("").stands(0, 1, 6), 0);
        due("both are one", full("").stands(1, 1, 1), NONE);
        due("both are one, of six", full("").stands(5, 5, 6), NONE);
    }

    private static void standsUnknown() {
        int[][] wrong = {{-1, 0}, {6, 0}, {0, -1}, {0, 6}, {6, 6}, {-1, -1}, {LEAST, 0}, {MOST, 0}, {0, LEAST}, {0, MOST}};
        for (int[] w : wrong) {
            refused("stands", x -> x.stands(w[0], w[1], 1), UNKNOWN);
        }
    }

    private static void standsOutside() {
        for (int n : new int[] {0, 7, -1, LEAST, MOST}) {
            refused("stands of " + n, x -> x.stands(0, 1, n), OUTSIDE);
            refused("stands of " + n + " on itself", x -> x.stands(0, 0, n), OUTSIDE);
        }
    }

    private static void words() {
        test("Promise 16: WORD (what = 0), how many BELIEFS (1)", BoundariesTest::wordWhat);
        test("Promise 16: OUTSIDE", BoundariesTest::wordOutside);
        test("Promise 17: RUMOUR; NONE", BoundariesTest::rumourAnswers);
        test("Promise 17: UNKNOWN", BoundariesTest::rumourUnknown);
        test("Promise 17: OUTSIDE: m 1 to 6", BoundariesTest::rumourOutside);
        test("Promise 18: the PERSON tells first (first = 0)", BoundariesTest::oddsFirst);
        test("Promise 18: the other one denies first (1)", BoundariesTest::oddsSecond);
        test("Promise 18: UNKNOWN: also both are one", BoundariesTest::oddsUnknown);
        test("Promise 18: OUTSIDE", BoundariesTest::oddsOutside);
    }

    private static void wordWhat() {
        LieBridges x = full("AD0");
        due("the word", x.word(0), 0);
        due("how many", x.word(1), 2);
        due("none", fresh().word(0), 0);
        due("none, how many", fresh().word(1), 0);
        checks.same("BELIEFS", Checks.beliefs(x), Checks.beliefs(full("")));
    }

    private static void wordOutside() {
        for (int what : new int[] {-1, 2, 10, LEAST, MOST}) {
            refused("word(" + what + ")", x -> x.word(what), OUTSIDE);
        }
    }

    private static void rumourAnswers() {
        LieBridges x = full("");
        due("now", x.rumour(0, 2), 0);
        due("the first day", x.rumour(0, 3), 1);
        due("never", x.rumour(0, 4), NONE);
        due("never six", x.rumour(0, 6), NONE);
        checks.same("BELIEFS", Checks.beliefs(x), Checks.beliefs(full("")));
    }

    private static void rumourUnknown() {
        for (int plank : new int[] {-1, 6, LEAST, MOST}) {
            refused("rumour", x -> x.rumour(plank, 1), UNKNOWN);
        }
    }

    private static void rumourOutside() {
        for (int m : new int[] {0, 7, -1, LEAST, MOST}) {
            refused("rumour of " + m, x -> x.rumour(0, m), OUTSIDE);
        }
    }

    private static void oddsFirst() {
        LieBridges x = made("BA CA BF", "");
        due("A tells, F denies", x.odds(0, 0, 5, 0), 1);
        checks.same("BELIEFS", Checks.beliefs(x), Checks.beliefs(fresh()));
        due("who has nothing to tell", made("BA CA BF", "AB0").odds(0, 3, 5, 0), 0);
    }

    private static void oddsSecond() {
        LieBridges x = made("BA CA BF", "");
        due("F denies, A tells", x.odds(0, 0, 5, 1), 2);
        checks.same("BELIEFS", Checks.beliefs(x), Checks.beliefs(fresh()));
        due("who has nothing to tell", made("BA CA BF", "AB0").odds(0, 3, 5, 1), 0);
    }

    private static void oddsUnknown() {
        for (int person = 0; person < 6; person++) {
            due("both " + person, fresh().odds(0, person, person, 0), UNKNOWN);
        }
        int[][] wrong = {{0, 3, 3}, {-1, 0, 1}, {6, 0, 1}, {0, -1, 1}, {0, 6, 1}, {0, 0, -1}, {0, 0, 6}, {LEAST, 0, 1},
            {MOST, 0, 1}, {0, LEAST, 1}, {0, MOST, 1}, {0, 1, LEAST}, {0, 1, MOST}};
        for (int[] w : wrong) {
            refused("odds", x -> x.odds(w[0], w[1], w[2], 0), UNKNOWN);
            refused("odds", x -> x.odds(w[0], w[1], w[2], 1), UNKNOWN);
        }
    }

    private static void oddsOutside() {
        for (int first : new int[] {-1, 2, LEAST, MOST}) {
            refused("odds, first " + first, x -> x.odds(0, 0, 1, first), OUTSIDE);
        }
    }

    // ---- 4 chances, what is not told, years

    private static void chances() {
        test("Promise 19: Tenths of a PLANK: which they were", BoundariesTest::tenthsWere);
        test("Promise 19: UNKNOWN", BoundariesTest::tenthsUnknown);
        test("Promise 19: OUTSIDE", BoundariesTest::tenthsOutside);
        test("Promise 20: the i-th PLANK of the way; NONE: or no i-th (i below 0, too)", BoundariesTest::safeEach);
        test("Promise 20: NONE: there is no way at all", BoundariesTest::safeNone);
        test("Promise 20: one with a chance of 0 is a way", BoundariesTest::safeOfZero);
        test("Promise 20: UNKNOWN", BoundariesTest::safeUnknown);
        test("Promise 21: the chance (0, if there is no way)", BoundariesTest::chanceNone);
        test("Promise 21: UNKNOWN", BoundariesTest::chanceUnknown);
        test("Promise 21: OUTSIDE", BoundariesTest::chanceOutside);
    }

    private static void tenthsWere() {
        LieBridges x = fresh();
        due("at first", x.tenths(5, 0), 5);
        due("0", x.tenths(5, 10), 0);
        due("10", x.tenths(5, 10), 10);
        due("told", x.told(45), 10);
        due("of another one", x.told(44), 5);
    }

    private static void tenthsUnknown() {
        for (int plank : new int[] {-1, 6, LEAST, MOST}) {
            refused("tenths", x -> x.tenths(plank, 1), UNKNOWN);
        }
    }

    private static void tenthsOutside() {
        for (int v : new int[] {-1, 11, LEAST, MOST}) {
            refused("tenths to " + v, x -> x.tenths(0, v), OUTSIDE);
        }
    }

    private static void safeEach() {
        LieBridges x = fresh();
        for (int i = 0; i < 3; i++) {
            due("safe " + i, x.safe(0, 3, i), i);
        }
        for (int i : new int[] {3, 4, 6, -1, -2, LEAST, MOST}) {
            due("safe " + i, x.safe(0, 3, i), NONE);
        }
        due("to itself", x.safe(3, 3, 0), NONE);
        due("to itself, below 0", x.safe(3, 3, -1), NONE);
    }

    /** No PLANK leads to or from ISLAND 0. */
    private static LieBridges cut() {
        LieBridges x = fresh();
        x.plank(0, 1, 2, 0);
        x.plank(5, 4, 5, 5);
        return x;
    }

    private static void safeNone() {
        for (int i : new int[] {-1, 0, 1}) {
            due("to it", cut().safe(3, 0, i), NONE);
            due("from it", cut().safe(0, 1, i), NONE);
        }
        due("elsewhere", cut().safe(1, 5, 3), 4);
    }

    private static void safeOfZero() {
        LieBridges x = fresh();
        for (int plank = 0; plank < 6; plank++) {
            x.tenths(plank, 0);
        }
        due("the first PLANK", x.safe(0, 2, 0), 0);
        due("the second one", x.safe(0, 2, 1), 1);
        due("no third", x.safe(0, 2, 2), NONE);
        due("its chance", x.chance(0, 2, 0), 0);
        due("its chance", x.chance(0, 2, 1), 1);
    }

    private static void safeUnknown() {
        int[][] wrong = {{-1, 0}, {6, 0}, {0, -1}, {0, 6}, {6, 6}, {-1, -1}, {LEAST, 0}, {MOST, 0}, {0, LEAST}, {0, MOST}};
        for (int[] w : wrong) {
            refused("safe", x -> x.safe(w[0], w[1], 0), UNKNOWN);
            refused("safe below 0", x -> x.safe(w[0], w[1], -1), UNKNOWN);
        }
    }

    private static void chanceNone() {
        due("upper", cut().chance(3, 0, 0), 0);
        due("lower", cut().chance(3, 0, 1), 1);
        due("to itself, upper", cut().chance(0, 0, 0), 1);
        due("to itself, lower", cut().chance(0, 0, 1), 1);
    }

    private static void chanceUnknown() {
        int[][] wrong = {{-1, 0}, {6, 0}, {0, -1}, {0, 6}, {6, 6}, {-1, -1}, {LEAST, 0}, {MOST, 0}, {0, LEAST}, {0, MOST}};
        for (int[] w : wrong) {
            refused("chance", x -> x.chance(w[0], w[1], 0), LOST - 1);
            refused("chance", x -> x.chance(w[0], w[1], 1), LOST - 1);
        }
    }

    private static void chanceOutside() {
        for (int part : new int[] {-1, 2, LEAST, MOST}) {
            refused("chance, part " + part, x -> x.chance(0, 1, part), LOST - 2);
        }
    }

    private static void fillings() {
        test("Promise 22: A SIGHT more: how many", BoundariesTest::sights);
        test("Promise 22: UNKNOWN", BoundariesTest::seenUnknown);
        test("Promise 22: OUTSIDE: v 0 to 6", BoundariesTest::seenOutside);
        test("Promise 22: FULL", BoundariesTest::seenFull);
        test("Promise 23: SIGHTS go: how many there were", BoundariesTest::forgotten);
        test("Promise 24: how many ways (i = -1)", BoundariesTest::filledMany);
        test("Promise 24: the PERSON of the i-th ? in the first; NONE", BoundariesTest::filledEach);
        test("Promise 24: NO: there is a FAULT", BoundariesTest::filledNo);
        test("Promise 25: how many were not in vain (plank = -1), what a PLANK BEARS", BoundariesTest::yearAnswers);
        test("Promise 25: UNKNOWN", BoundariesTest::yearUnknown);
        test("Promise 25: OUTSIDE", BoundariesTest::yearOutside);
    }

    private static void sights() {
        LieBridges x = fresh();
        for (int many = 1; many <= 6; many++) {
            due("seen", x.seen(6 - many, many), many);
            due("told", x.told(2), many);
        }
    }

    private static void seenUnknown() {
        for (int plank : new int[] {-1, 6, LEAST, MOST}) {
            refused("seen", x -> x.seen(plank, 0), UNKNOWN);
        }
    }

    private static void seenOutside() {
        due("0", fresh().seen(0, 0), 1);
        due("6", fresh().seen(0, 6), 1);
        for (int v : new int[] {-1, 7, LEAST, MOST}) {
            refused("seen " + v, x -> x.seen(0, v), OUTSIDE);
        }
    }

    private static LieBridges sixSeen() {
        LieBridges x = full(FILLABLE);
        x.forget();
        for (int sight = 0; sight < 6; sight++) {
            x.seen(0, 2);
        }
        return x;
    }

    private static void seenFull() {
        checks.refused("the seventh", BoundariesTest::sixSeen, x -> x.seen(0, 0), FULL);
        checks.refused("the seventh alike", BoundariesTest::sixSeen, x -> x.seen(0, 2), FULL);
    }

    private static void forgotten() {
        due("none", fresh().forget(), 0);
        due("two", full("").forget(), 2);
        LieBridges x = sixSeen();
        due("six", x.forget(), 6);
        due("told", x.told(2), 0);
        due("again", x.forget(), 0);
        due("room for one more", x.seen(0, 0), 1);
        x.forget();
        due("it binds no longer", filled(x, "", -1), 1);
    }

    private static int filled(LieBridges x, String text, int i) {
        Checks.write(x, text);
        return x.filled(i);
    }

    private static void filledMany() {
        due("an empty text", fresh().filled(-1), 1);
        due("one ?", filled(Checks.allTrust(), "AB0?B-0", -1), 5);
        due("none", filled(fresh(), "?B0", -1), 0);
        LieBridges x = Checks.allTrust();
        due("three ?", filled(x, "AB0AC0AD0?B-0?C-0?D-0", -1), 125);
        checks.same("BELIEFS", Checks.beliefs(x), Checks.beliefs(fresh()));
        due("the text stays", x.told(0), 21);
    }

    private static void filledEach() {
        LieBridges x = Checks.allTrust();
        int[] first = {1, 0, 0};
        for (int i = 0; i < 3; i++) {
            due("the " + i + "th", filled(x, "FA5AB0AC0?A-5?B-0?C-0", i), first[i]);
        }
        for (int i : new int[] {3, -2, -3, LEAST, MOST}) {
            due("" + i, x.filled(i), NONE);
        }
        due("no way", filled(fresh(), "?B0", 0), NONE);
        due("no ?", filled(x, "AB0", 0), NONE);
        due("no ?, no text", filled(x, "", 0), NONE);
        due("one ?, the second", filled(x, "?B0", 1), NONE);
    }

    private static void filledNo() {
        for (int i : new int[] {-1, 0, 3, -2, LEAST, MOST}) {
            refused("filled(" + i + ")", FAULTY, x -> x.filled(i), NO);
            refused("filled(" + i + ")", "?", x -> x.filled(i), NO);
            refused("filled(" + i + ")", "?A5?A5?A5?", x -> x.filled(i), NO);
        }
    }

    private static void yearAnswers() {
        LieBridges x = made("AC", "");
        due("not in vain", x.year(0, 1, -1), 1);
        due("PLANK 2", x.year(0, 1, 2), 1);
        due("PLANK 0", x.year(0, 1, 0), 0);
        due("all in vain", fresh().year(9999, 99, -1), 0);
        due("all in vain, PLANK 5", fresh().year(9999, 99, 5), 0);
        checks.same("BELIEFS", Checks.beliefs(x), Checks.beliefs(fresh()));
    }

    private static void yearUnknown() {
        for (int plank : new int[] {-2, 6, LEAST, MOST}) {
            refused("year of " + plank, x -> x.year(0, 1, plank), UNKNOWN);
        }
    }

    private static void yearOutside() {
        for (int seed : new int[] {-1, 10000, LEAST, MOST}) {
            refused("year by " + seed, x -> x.year(seed, 1, -1), OUTSIDE);
        }
        for (int m : new int[] {0, 100, -1, LEAST, MOST}) {
            refused("year of " + m, x -> x.year(0, m, 0), OUTSIDE);
        }
    }

    private static void images() {
        test("Promise 26: All but the PAD is kept in an IMAGE (0, 1): 1", BoundariesTest::kept);
        test("Promise 26: OUTSIDE", BoundariesTest::imageOutside);
        test("Promise 27: It is as it was when it was kept: 1", BoundariesTest::restored);
        test("Promise 27: all but the PAD", BoundariesTest::padStays);
        test("Promise 27: OUTSIDE", BoundariesTest::restoreOutside);
        test("Promise 27: STATE: it was not", BoundariesTest::restoreState);
        test("Promise 28: 0 signs, 1 FADE, 2 SIGHTS", BoundariesTest::toldAlone);
        test("Promise 28: 10 on whom a PERSON trusts (bits)", BoundariesTest::toldTrust);
        test("Promise 28: 20 on of which PLANKS a PERSON KNOWS better (bits)", BoundariesTest::toldKnowing);
        test("Promise 28: 30 on 100 times who laid a PLANK, 10 times the lesser and the greater", BoundariesTest::toldPlanks);
        test("Promise 28: 40 on tenths of PLANKS", BoundariesTest::toldTenths);
        test("Promise 28: OUTSIDE", BoundariesTest::toldOutside);
    }

    private static void change(LieBridges x) {
        x.plank(0, 2, 5, 3);
        x.trust(1, 0, false);
        x.trust(4, 5, true);
        x.know(5, 3, false);
        x.know(2, 1, true);
        x.fade(2);
        x.tenths(2, 1);
        x.forget();
        x.seen(3, 3);
        Checks.play(x, ".FE5");
    }

    private static void kept() {
        LieBridges x = fresh();
        due("image(0)", x.image(0), 1);
        due("image(1)", x.image(1), 1);
        due("image(1) anew", x.image(1), 1);
        LieBridges y = full(WHOLE);
        y.image(0);
        checks.same("what image() leaves", Checks.state(y), Checks.state(full(WHOLE)));
    }

    private static void imageOutside() {
        for (int n : new int[] {-1, 2, LEAST, MOST}) {
            refused("image(" + n + ")", x -> x.image(n), OUTSIDE);
        }
    }

    private static void restored() {
        for (int n = 0; n < 2; n++) {
            LieBridges x = full(FILLABLE);
            x.image(n);
            change(x);
            Checks.write(x, FILLABLE);
            due("restore(" + n + ")", x.restore(n), 1);
            checks.same("what is restored", Checks.state(x), Checks.state(full(FILLABLE)));
            change(x);
            Checks.write(x, FILLABLE);
            due("restore(" + n + ") again", x.restore(n), 1);
            checks.same("what is restored again", Checks.state(x), Checks.state(full(FILLABLE)));
        }
    }

    private static void padStays() {
        LieBridges x = Checks.written("AB0");
        x.image(0);
        Checks.say(x, ".C");
        due("restore(0)", x.restore(0), 1);
        due("signs", x.told(0), 5);
        due("fault", x.fault(), 5);
        x.wipe();
        x.restore(0);
        due("wiped", x.told(0), 0);
    }

    private static void restoreOutside() {
        for (int n : new int[] {-1, 2, LEAST, MOST}) {
            refused("restore(" + n + ")", x -> x.restore(n), OUTSIDE);
        }
    }

    private static LieBridges keptInOne() {
        LieBridges x = made("BA CA", "AB0.AC0");
        x.fade(5);
        x.image(1);
        x.fade(6);
        Checks.say(x, "AB-0");
        return x;
    }

    private static void restoreState() {
        due("neither", fresh().restore(0), STATE);
        due("neither", fresh().restore(1), STATE);
        checks.refused("the other one", BoundariesTest::keptInOne, x -> x.restore(0), STATE);
        LieBridges x = fresh();
        x.image(0);
        due("the other one", x.restore(1), STATE);
    }

    private static void toldAlone() {
        due("signs", full("").told(0), 0);
        due("signs", full("AB").told(0), 2);
        due("signs", full(".".repeat(60)).told(0), 60);
        due("FADE", full("").told(1), 7);
        due("SIGHTS", full("").told(2), 2);
        due("SIGHTS", sixSeen().told(2), 6);
    }

    private static void toldTrust() {
        int[] want = {32, 1, 3, 33, 0, 0};
        for (int person = 0; person < 6; person++) {
            due("of " + person, full("").told(10 + person), want[person]);
        }
        int[] all = {62, 61, 59, 55, 47, 31};
        for (int person = 0; person < 6; person++) {
            due("all others, of " + person, Checks.allTrust().told(10 + person), all[person]);
        }
    }

    private static void toldKnowing() {
        int[] want = {0, 0, 0, 0, 0, 8};
        for (int person = 0; person < 6; person++) {
            due("of " + person, full("").told(20 + person), want[person]);
        }
        LieBridges x = fresh();
        for (int plank = 0; plank < 6; plank++) {
            x.know(5, plank, true);
        }
        due("all PLANKS", x.told(25), 63);
        due("of another one", x.told(20), 0);
    }

    private static void toldPlanks() {
        int[] want = {1, 112, 223, 334, 513, 505};
        for (int plank = 0; plank < 6; plank++) {
            due("of " + plank, full("").told(30 + plank), want[plank]);
        }
    }

    private static void toldTenths() {
        int[] want = {3, 5, 9, 5, 5, 5};
        for (int plank = 0; plank < 6; plank++) {
            due("of " + plank, full("").told(40 + plank), want[plank]);
        }
    }

    private static void toldOutside() {
        for (int what : new int[] {-1, 3, 4, 5, 6, 9, 16, 19, 26, 29, 36, 39, 46, 49, 50, 55, 60, 99, 100, 110, -10, -11,
            LEAST, MOST}) {
            refused("told(" + what + ")", x -> x.told(what), OUTSIDE);
        }
    }
}
