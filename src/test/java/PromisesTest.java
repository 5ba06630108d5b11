/** The promises one by one: ordinary inputs, the edges that the document names, wrong inputs. */
public final class PromisesTest {
    private static final int NONE = -6, UNKNOWN = -1, OUTSIDE = -2, STATE = -3, FULL = -4, NO = -5;
    private static final int LEAST = Integer.MIN_VALUE, MOST = Integer.MAX_VALUE;
    private static final String NO_BELIEFS = "000000 000000 000000 000000 000000 000000";
    private static final Checks checks = new Checks();

    public static void main(String[] args) {
        promise1NewObject();
        promise2Plank();
        promise3Trust();
        promise4Know();
        promise5Fade();
        promise6Say();
        promise7Wipe();
        promise8Fault();
        promise9Vain();
        promise10Done();
        promise11Bears();
        promise12Behind();
        promise13Falls();
        promise14Tellings();
        promise15Stands();
        promise16Word();
        promise17Rumour();
        promise18Odds();
        promise19Tenths();
        promise20Safe();
        promise21Chance();
        promise22Seen();
        promise23Forget();
        promise24Filled();
        promise25Year();
        promise26Image();
        promise27Restore();
        promise28Told();
        checks.end("PromisesTest");
    }

    private static void due(String call, long got, long want) {
        checks.due(call, got, want);
    }

    private static void beliefs(String when, LieBridges x, String want) {
        checks.same("beliefs, " + when, Checks.beliefs(x), want);
    }

    /** B, C and D trust A; B believes plank 0 for 3 days, C for 2, and plank 1 bears C. */
    private static LieBridges some() {
        LieBridges x = new LieBridges();
        Checks.trust(x, "BA CA DA CB");
        Checks.play(x, "AC0.AB0BC1");
        return x;
    }

    private static void promise1NewObject() {
        LieBridges x = new LieBridges();
        due("signs of a new object", x.told(0), 0);
        due("FADE of a new object", x.told(1), 3);
        due("SIGHTS of a new object", x.told(2), 0);
        int[] ring = {1, 112, 223, 334, 445, 505};
        for (int k = 0; k < 6; k++) {
            due("trust of a new object", x.told(10 + k), 0);
            due("knowing of a new object", x.told(20 + k), 0);
            due("plank of a new object", x.told(30 + k), ring[k]);
            due("tenths of a new object", x.told(40 + k), 5);
        }
        beliefs("new object", x, NO_BELIEFS);
        due("no image yet", x.restore(0), STATE);
        due("no image yet", x.restore(1), STATE);
    }

    private static void promise2Plank() {
        LieBridges x = some();
        x.know(3, 0, true);
        x.know(3, 1, true);
        x.tenths(0, 8);
        due("plank(0, 5, 2, 1)", x.plank(0, 5, 2, 1), 1);
        due("told(30)", x.told(30), 125);
        beliefs("behind plank()", x, "000000 003000 000000 000000 000000 000000");
        due("knows better of the other plank alone", x.told(23), 2);
        due("tenths stay", x.told(40), 8);
        due("trust stays", x.told(12), 3);
        due("the new one may tell", x.tellings(2, 5, 1, -1), 1);
        due("plank(5, 0, 5, 0)", x.plank(5, 0, 5, 0), 1);
        x.know(0, 3, true);
        x.plank(3, 3, 4, 3);
        due("A knows no longer better of it", x.told(20), 0);
        due("told(35)", x.told(35), 5);
        int[][] wrong = {{-1, 0, 1, 0}, {6, 0, 1, 0}, {0, -1, 1, 0}, {0, 6, 1, 0}, {0, 0, -1, 0}, {0, 0, 6, 0},
            {0, 0, 1, -1}, {0, 0, 1, 6}, {0, 3, 3, 0}, {LEAST, 0, 1, 0}, {0, MOST, 1, 0}};
        for (int[] w : wrong) {
            due("plank " + w[0] + w[1] + w[2] + w[3], x.plank(w[0], w[1], w[2], w[3]), UNKNOWN);
        }
    }

    private static void promise3Trust() {
        LieBridges x = new LieBridges();
        due("trust(1, 0, true)", x.trust(1, 0, true), 1);
        due("trust(1, 5, true)", x.trust(1, 5, true), 1);
        due("trust(1, 5, true)", x.trust(1, 5, true), 1);
        due("told(11)", x.told(11), 33);
        due("told(10): not the other way round", x.told(10), 0);
        Checks.play(x, "AB0");
        due("trust(1, 0, false)", x.trust(1, 0, false), 1);
        due("trust(1, 0, false)", x.trust(1, 0, false), 1);
        due("told(11)", x.told(11), 32);
        due("a belief outlives the trust", x.bears(0, 1), 3);
        int[][] wrong = {{0, 0}, {5, 5}, {-1, 0}, {6, 0}, {0, -1}, {0, 6}, {MOST, 1}, {1, LEAST}};
        for (int[] w : wrong) {
            due("trust " + w[0] + w[1], x.trust(w[0], w[1], true), UNKNOWN);
        }
    }

    private static void promise4Know() {
        LieBridges x = some();
        due("know(1, 0, true)", x.know(1, 0, true), 1);
        beliefs("behind know()", x, "002000 003000 000000 000000 000000 000000");
        due("told(21)", x.told(21), 1);
        Checks.write(x, "AB0");
        due("a telling to one who knows", x.vain(-1), 1);
        due("know(1, 0, false)", x.know(1, 0, false), 1);
        due("told(21)", x.told(21), 0);
        due("no longer in vain", x.vain(-1), 0);
        beliefs("the belief does not come back", x, "002000 003000 000000 000000 000000 000000");
        due("know(2, 0, false)", x.know(2, 0, false), 1);
        due("not knowing leaves a belief", x.bears(0, 2), 2);
        due("know(0, 0, true): who laid it", x.know(0, 0, true), 1);
        due("and may tell it still", x.vain(-1), 0);
        int[][] wrong = {{-1, 0}, {6, 0}, {0, -1}, {0, 6}, {MOST, 1}, {1, LEAST}};
        for (int[] w : wrong) {
            due("know " + w[0] + w[1], x.know(w[0], w[1], true), UNKNOWN);
        }
    }

    private static void promise5Fade() {
        LieBridges x = some();
        due("fade(9)", x.fade(9), 3);
        due("fade(1)", x.fade(1), 9);
        due("fade(1)", x.fade(1), 1);
        beliefs("beliefs stay", x, "032000 003000 000000 000000 000000 000000");
        Checks.play(x, "AD0");
        due("a new belief", x.bears(0, 3), 1);
        for (int v : new int[] {0, 10, -1, LEAST, MOST}) {
            due("fade " + v, x.fade(v), OUTSIDE);
        }
        due("fade as it was", x.fade(3), 1);
    }

    private static void promise6Say() {
        LieBridges x = new LieBridges();
        for (int sign : new int[] {32, 127, -1, 0, LEAST, MOST}) {
            due("say " + sign, x.say(sign), OUTSIDE);
        }
        due("say(33)", x.say(33), 1);
        due("say(126)", x.say(126), 2);
        for (int many = 3; many <= 60; many++) {
            due("say, the " + many + "th", x.say('.'), many);
        }
        due("say, the 61st", x.say('.'), FULL);
        due("say, OUTSIDE ahead of FULL", x.say(32), OUTSIDE);
        due("told(0)", x.told(0), 60);
    }

    private static void promise7Wipe() {
        LieBridges x = some();
        due("wipe, empty", x.wipe(), 0);
        Checks.say(x, "AB!");
        due("wipe", x.wipe(), 3);
        due("told(0)", x.told(0), 0);
        due("wipe again", x.wipe(), 0);
        beliefs("behind wipe()", x, "032000 003000 000000 000000 000000 000000");
        for (int i = 0; i < 60; i++) {
            x.say('.');
        }
        due("wipe, full", x.wipe(), 60);
        due("say, behind wipe()", x.say('.'), 1);
    }

    private static void promise8Fault() {
        String[] sound = {"", ".", "AB0", "FA5", "?A0", "AB-0", "?F-5", "AB0.CD-1?E2..", "?B0?B0?B0", "..."};
        for (String text : sound) {
            due("fault of " + text, Checks.written(text).fault(), NONE);
        }
        String[] faulty = {"A", "AB", "AB-", "?", "?A", "?A-", "AB0C", "?B0?B0?B0?", "?B0?B0?B0AB-?", "AA", "FF0",
            "A?0", "??0", "AB6", "AB--", "AB.", "A.", "..G", "a", "aB0", "Ab0", "ABA", "-", "0", "AB-6", "ABC0",
            "AG0", "GA0", "@A0", "A@0", "AB/", "AB:", "AB0!", "AB0-1", "!", "~", ".A", "AB00"};
        int[] place = {1, 2, 3, 1, 2, 3, 4, 9, 12, 1, 1,
            1, 1, 2, 3, 2, 1, 2, 0, 0, 1, 2, 0, 0, 3, 2,
            1, 0, 0, 1, 2, 2, 3, 3, 0, 0, 2, 3};
        for (int i = 0; i < faulty.length; i++) {
            due("fault of " + faulty[i], Checks.written(faulty[i]).fault(), place[i]);
        }
        LieBridges x = new LieBridges();
        for (int i = 0; i < 59; i++) {
            x.say('.');
        }
        x.say('A');
        due("more must come than the pad holds", x.fault(), 60);
    }

    private static void promise9Vain() {
        LieBridges x = new LieBridges();
        Checks.trust(x, "BA CB");
        Checks.write(x, "");
        due("empty, how many", x.vain(-1), 0);
        due("empty, the first", x.vain(0), NONE);
        // B believes, hears it again in vain, C hears it of B, who laid it hears it in vain, D does not trust
        Checks.write(x, "BC0AB0AB0BC0.BA0AD0AB-0CB-0BC-0BC0");
        due("how many", x.vain(-1), 6);
        int[] places = {0, 2, 5, 6, 8, 10};
        for (int i = 0; i < places.length; i++) {
            due("vain(" + i + ")", x.vain(i), places[i]);
        }
        due("vain(6)", x.vain(6), NONE);
        due("vain(-2)", x.vain(-2), NONE);
        due("vain of the least", x.vain(LEAST), NONE);
        due("vain of the most", x.vain(MOST), NONE);
        beliefs("vain() changes nothing", x, NO_BELIEFS);
        x.know(1, 0, true);
        Checks.write(x, "AB0");
        due("who knows better", x.vain(0), 0);
        x.trust(0, 1, true);
        Checks.write(x, "BA0");
        due("who laid it, though trusting", x.vain(-1), 1);
        Checks.write(x, "AB");
        due("vain, a fault", x.vain(-1), NO);
        due("vain below -1, a fault", x.vain(-2), NO);
        Checks.write(x, "?B0");
        due("vain, a ?", x.vain(-1), STATE);
        due("vain below -1, a ?", x.vain(-2), STATE);
        Checks.write(x, "?B0A");
        due("vain, NO ahead of STATE", x.vain(-1), NO);
    }

    private static void promise10Done() {
        LieBridges x = new LieBridges();
        Checks.trust(x, "BA CA CB");
        due("done, empty", x.done(), 0);
        Checks.write(x, "AB0.AC0AD0");
        due("done", x.done(), 4);
        due("the pad is empty", x.told(0), 0);
        beliefs("behind done()", x, "023000 000000 000000 000000 000000 000000");
        Checks.write(x, "..");
        due("done, days", x.done(), 2);
        beliefs("behind two days", x, "001000 000000 000000 000000 000000 000000");
        x.plank(0, 0, 1, 5);
        x.trust(0, 5, true);
        Checks.play(x, "FA0.");
        due("a day for A, too", x.bears(0, 0), 2);
        x.plank(0, 0, 1, 0);
        Checks.play(x, "AC0..");
        Checks.write(x, "BC-0");
        due("done, a denial by one without belief", x.done(), 1);
        beliefs("behind a denial", x, NO_BELIEFS);
        Checks.write(x, "AB0A");
        due("done, a fault", x.done(), NO);
        due("the text stays", x.told(0), 4);
        Checks.write(x, "AB0?C0");
        due("done, a ?", x.done(), STATE);
        due("the text stays", x.told(0), 6);
        Checks.write(x, "?C0A");
        due("done, NO ahead of STATE", x.done(), NO);
    }

    private static void promise11Bears() {
        LieBridges x = some();
        due("bears(0, -1)", x.bears(0, -1), 2);
        due("bears(1, -1)", x.bears(1, -1), 1);
        due("bears(2, -1)", x.bears(2, -1), 0);
        due("bears(0, 0): who laid it", x.bears(0, 0), 0);
        due("bears(0, 1)", x.bears(0, 1), 3);
        due("bears(0, 2)", x.bears(0, 2), 2);
        due("bears(1, 2)", x.bears(1, 2), 3);
        Checks.say(x, "AD0");
        due("now, not behind the text", x.bears(0, -1), 2);
        int[][] wrong = {{-1, 0}, {6, 0}, {0, -2}, {0, 6}, {LEAST, -1}, {MOST, -1}, {0, LEAST}, {0, MOST}};
        for (int[] w : wrong) {
            due("bears " + w[0] + " " + w[1], x.bears(w[0], w[1]), UNKNOWN);
        }
    }

    private static void promise12Behind() {
        LieBridges x = some();
        Checks.say(x, "AD0..");
        due("behind(0, -1)", x.behind(0, -1), 2);
        int[] want = {0, 1, 0, 1, 0, 0};
        for (int person = 0; person < 6; person++) {
            due("behind(0, " + person + ")", x.behind(0, person), want[person]);
        }
        due("behind(1, 2)", x.behind(1, 2), 1);
        beliefs("behind() changes nothing", x, "032000 003000 000000 000000 000000 000000");
        due("the text stays", x.told(0), 5);
        x.wipe();
        due("behind an empty text", x.behind(0, -1), 2);
        int[][] wrong = {{-1, 0}, {6, 0}, {0, -2}, {0, 6}, {LEAST, -1}, {0, MOST}};
        Checks.say(x, "?B0A");
        for (int[] w : wrong) {
            due("behind " + w[0] + " " + w[1], x.behind(w[0], w[1]), UNKNOWN);
        }
        due("behind, NO ahead of STATE", x.behind(0, -1), NO);
        Checks.write(x, "?B0");
        due("behind, a ?", x.behind(0, -1), STATE);
    }

    private static void promise13Falls() {
        LieBridges x = some();
        due("two planks hold one", x.falls(0, 1, 2, 1, 0), NONE);
        due("and lead to", x.falls(0, 1, 2, 1, 1), 2);
        due("two fall from the second", x.falls(0, 1, 2, 2, 0), 1);
        due("having come to", x.falls(0, 1, 2, 2, 1), 1);
        due("three fall from the first", x.falls(0, 1, 2, 3, 0), 0);
        due("having stayed on", x.falls(0, 1, 2, 3, 1), 0);
        due("to and fro, six planks", x.falls(1, 11, 6, 1, 0), NONE);
        due("to and fro, six planks", x.falls(1, 11, 6, 1, 1), 1);
        due("the first that falls, not the last", x.falls(0, 123450, 6, 1, 0), NO);
        due("backwards round the ring", x.falls(0, 543210, 6, 1, 0), 0);
        due("round the ring", x.falls(0, 12345, 6, 1, 0), 2);
        due("round the ring", x.falls(0, 12345, 6, 1, 1), 2);
        due("no planks", x.falls(4, 0, 0, 6, 0), NONE);
        due("no planks, the island", x.falls(4, 0, 0, 6, 1), 4);
        for (int island : new int[] {-1, 6, LEAST, MOST}) {
            due("falls from " + island, x.falls(island, -1, 9, 9, 9), UNKNOWN);
        }
        int[][] outside = {{0, 1, 0, 0}, {0, 1, 7, 0}, {0, 1, 1, -1}, {0, 1, 1, 2}, {0, -1, 1, 0}, {0, 7, 1, 0},
            {-1, 1, 1, 0}, {10, 1, 1, 0}, {100, 2, 1, 0}, {1, 0, 1, 0}, {1000000, 6, 1, 0}, {MOST, 6, 1, 0},
            {LEAST, 6, 1, 0}, {0, LEAST, 1, 0}, {0, MOST, 1, 0}, {9, 1, 0, 0}, {9, 1, 1, 2}};
        for (int[] w : outside) {
            due("falls " + w[0] + " " + w[1] + " " + w[2] + " " + w[3],
                x.falls(0, w[0], w[1], w[2], w[3]), OUTSIDE);
        }
        int[][] no = {{6, 1}, {9, 1}, {2, 1}, {2, 2}, {16, 2}, {3, 2}, {999999, 6}, {15, 6}};
        for (int[] w : no) {
            due("falls " + w[0] + " " + w[1], x.falls(0, w[0], w[1], 6, 0), NO);
        }
    }

    private static void promise14Tellings() {
        LieBridges x = some();
        due("none needed", x.tellings(0, 1, 2, -1), 0);
        due("one needed: D hears it", x.tellings(0, 1, 3, -1), 1);
        due("no fourth can", x.tellings(0, 1, 4, -1), NONE);
        due("no fourth can, the way", x.tellings(0, 1, 4, 0), NONE);
        due("backwards, the way", x.tellings(2, 0, 1, 0), 1);
        due("backwards, the way", x.tellings(2, 0, 1, 1), 0);
        due("backwards, behind the way", x.tellings(2, 0, 1, 2), NONE);
        due("below -1", x.tellings(2, 0, 1, -2), NONE);
        due("the least", x.tellings(2, 0, 1, LEAST), NONE);
        due("the most", x.tellings(2, 0, 1, MOST), NONE);
        due("to itself", x.tellings(3, 3, 6, -1), 0);
        due("to itself, the way", x.tellings(3, 3, 6, 0), NONE);
        due("a party of six", x.tellings(0, 1, 6, -1), NONE);
        beliefs("tellings() changes nothing", x, "032000 003000 000000 000000 000000 000000");

        // fewest tellings ahead of fewest planks: one telling of plank 5, or none over 0 and 1
        x.trust(0, 5, true);
        x.plank(5, 0, 2, 5);
        due("none by two planks", x.tellings(0, 2, 1, -1), 0);
        due("none by two planks, the way", x.tellings(0, 2, 1, 0), 0);
        // as few by one plank and by two: the one plank
        Checks.play(x, "FA5");
        due("none by one plank", x.tellings(0, 2, 1, -1), 0);
        due("none by one plank, the way", x.tellings(0, 2, 1, 0), 5);
        due("none by one plank, the way", x.tellings(0, 2, 1, 1), NONE);
        // as few and as short: the first by planks, though the later plank already bears
        LieBridges y = new LieBridges();
        Checks.trust(y, "BA CA EA FA");
        y.plank(0, 0, 1, 0);
        y.plank(1, 1, 2, 0);
        y.plank(2, 0, 1, 0);
        y.plank(3, 1, 2, 0);
        Checks.play(y, "AB3AB2AB0");
        due("first by planks, how many", y.tellings(0, 2, 2, -1), 2);
        due("first by planks", y.tellings(0, 2, 2, 0), 0);
        due("first by planks", y.tellings(0, 2, 2, 1), 3);
        due("who knows better can not be told", y.know(2, 0, true) + y.know(4, 0, true) + y.know(5, 0, true), 3);
        due("another plank then", y.tellings(0, 2, 2, 0), 2);
        due("hearsay: B of A, C of B, D of C", hearsay().tellings(0, 1, 3, -1), 3);
        due("A did not lay plank 1", hearsay().tellings(1, 2, 3, -1), NONE);
        due("a way by chance ahead", x.chance(0, 1, 0), 1);
        due("does not change how many", x.tellings(0, 1, 3, -1), 1);

        int[][] unknown = {{-1, 0}, {6, 0}, {0, -1}, {0, 6}, {LEAST, 0}, {0, MOST}};
        for (int[] w : unknown) {
            due("tellings " + w[0] + w[1], x.tellings(w[0], w[1], 7, -1), UNKNOWN);
        }
        for (int n : new int[] {0, 7, -1, LEAST, MOST}) {
            due("tellings for " + n, x.tellings(0, 0, n, 0), OUTSIDE);
        }
    }

    private static LieBridges hearsay() {
        LieBridges x = new LieBridges();
        Checks.trust(x, "BA CB DC");
        return x;
    }

    private static void promise15Stands() {
        LieBridges x = some();
        due("two days for two", x.stands(0, 1, 2), 2);
        due("three days for one", x.stands(0, 1, 1), 3);
        due("there and on", x.stands(2, 0, 1), 3);
        due("none for three", x.stands(0, 1, 3), 0);
        due("none there", x.stands(0, 3, 1), 0);
        due("to itself", x.stands(2, 2, 6), NONE);
        LieBridges y = new LieBridges();
        Checks.trust(y, "BA");
        y.plank(1, 0, 1, 0);
        y.fade(9);
        Checks.play(y, "AB0");
        due("nine days", y.stands(0, 1, 1), 9);
        y.fade(2);
        Checks.play(y, "..AB1");
        due("the longer of two", y.stands(1, 0, 1), 7);
        y.fade(9);
        due("FADE no longer counts", y.stands(1, 0, 1), 7);
        int[][] unknown = {{-1, 0}, {6, 0}, {0, -1}, {0, 6}, {LEAST, LEAST}, {0, MOST}};
        for (int[] w : unknown) {
            due("stands " + w[0] + w[1], x.stands(w[0], w[1], 0), UNKNOWN);
        }
        for (int n : new int[] {0, 7, -1, LEAST, MOST}) {
            due("stands for " + n, x.stands(0, 0, n), OUTSIDE);
        }
    }

    private static void promise16Word() {
        LieBridges x = new LieBridges();
        due("none would end", x.word(0), 0);
        due("none would end", x.word(1), 0);
        Checks.trust(x, "BA CA DA CB DB EC");
        Checks.play(x, "AB0AC0AD0CE2");
        due("A denies plank 0", x.word(0), 0);
        due("and three end", x.word(1), 3);
        x.trust(1, 0, false);
        due("A as well as B: the first", x.word(0), 0);
        due("and two end", x.word(1), 2);
        x.trust(2, 0, false);
        due("B denies plank 0", x.word(0), 10);
        due("and two end", x.word(1), 2);
        Checks.play(x, "BC-0BD-0");
        due("C denies plank 2, having laid it", x.word(0), 22);
        due("and one ends", x.word(1), 1);
        due("word() changes nothing", x.bears(2, 4), 3);
        LieBridges y = trustingA();
        Checks.play(y, "FA5");
        due("A hears a denial, too", y.word(0), 45);
        due("and one ends", y.word(1), 1);
        for (int what : new int[] {-1, 2, LEAST, MOST}) {
            due("word " + what, x.word(what), OUTSIDE);
        }
    }

    private static void promise17Rumour() {
        LieBridges x = new LieBridges();
        Checks.trust(x, "BA CB DC ED FE");
        int[] days = {1, 2, 3, 4, 5, NONE};
        for (int m = 1; m <= 6; m++) {
            due("a chain, told anew each day: " + m, x.rumour(0, m), m == 6 ? NONE : days[m - 1]);
        }
        due("rumour() changes nothing", x.bears(0, -1), 0);
        Checks.play(x, "AB0BC0");
        due("they have now", x.rumour(0, 2), 0);
        due("the next day", x.rumour(0, 3), 1);
        due("nobody trusts who laid it", x.rumour(5, 1), NONE);
        // told at a day's beginning only: C does not tell on the day on which it hears
        LieBridges y = new LieBridges();
        Checks.trust(y, "CA BC");
        due("C of A", y.rumour(0, 1), 1);
        due("B of C, a day later", y.rumour(0, 2), 2);
        // with a FADE of 1 what came by day has gone by the next one
        y.fade(1);
        due("fade 1: C of A", y.rumour(0, 1), 1);
        due("fade 1: B never beside C", y.rumour(0, 2), NONE);
        // counted behind the tellings, ahead of the fading
        Checks.play(y, "AC0");
        due("fade 1: C of A, B of C", y.rumour(0, 2), 1);
        due("A hears it, too", trustingA().rumour(5, 1), 1);
        LieBridges z = new LieBridges();
        Checks.trust(z, "BA");
        due("A has neither laid plank 4 nor heard of it", z.rumour(4, 1), NONE);
        due("rumour, UNKNOWN first", x.rumour(6, 0), UNKNOWN);
        for (int plank : new int[] {-1, 6, LEAST, MOST}) {
            due("rumour of " + plank, x.rumour(plank, 1), UNKNOWN);
        }
        for (int m : new int[] {0, 7, -1, LEAST, MOST}) {
            due("rumour for " + m, x.rumour(0, m), OUTSIDE);
        }
    }

    private static void promise18Odds() {
        LieBridges x = new LieBridges();
        Checks.trust(x, "BA CA DA CF DF EF");
        due("A tells, F denies", x.odds(0, 0, 5, 0), 1);
        due("F denies, A tells", x.odds(0, 0, 5, 1), 3);
        due("F tells in vain", x.odds(0, 5, 0, 0), 0);
        due("F laid plank 5, A denies it", x.odds(5, 5, 0, 0), 1);
        due("A denies plank 5, F tells it", x.odds(5, 5, 0, 1), 3);
        due("odds() changes nothing", x.bears(0, -1) + x.bears(5, -1), 0);
        due("A hears E, and F then", trustingA().odds(4, 4, 5, 0), 0);
        due("A hears F, and E then", trustingA().odds(4, 4, 5, 1), 1);
        // who denies first ends the belief that the other one would have told from
        x.trust(5, 0, true);
        Checks.play(x, "AF0");
        due("F tells, then A denies", x.odds(0, 5, 0, 0), 1);
        due("A denies, then F can not tell", x.odds(0, 5, 0, 1), 0);
        int[][] unknown = {{-1, 0, 1}, {6, 0, 1}, {0, -1, 1}, {0, 6, 1}, {0, 0, -1}, {0, 0, 6}, {0, 2, 2},
            {LEAST, 0, 1}, {0, MOST, 1}};
        for (int[] w : unknown) {
            due("odds " + w[0] + w[1] + w[2], x.odds(w[0], w[1], w[2], 2), UNKNOWN);
        }
        for (int first : new int[] {-1, 2, LEAST, MOST}) {
            due("odds, first " + first, x.odds(0, 0, 1, first), OUTSIDE);
        }
    }

    private static void promise19Tenths() {
        LieBridges x = new LieBridges();
        due("tenths(2, 10)", x.tenths(2, 10), 5);
        due("tenths(2, 0)", x.tenths(2, 0), 10);
        due("tenths(2, 7)", x.tenths(2, 7), 0);
        due("told(42)", x.told(42), 7);
        due("told(41)", x.told(41), 5);
        due("tenths, UNKNOWN first", x.tenths(6, 11), UNKNOWN);
        for (int plank : new int[] {-1, 6, LEAST, MOST}) {
            due("tenths of " + plank, x.tenths(plank, 1), UNKNOWN);
        }
        for (int v : new int[] {-1, 11, LEAST, MOST}) {
            due("tenths to " + v, x.tenths(2, v), OUTSIDE);
        }
    }

    private static LieBridges trustingA() {
        LieBridges x = new LieBridges();
        Checks.trust(x, "AF AE");
        return x;
    }

    private static void way(String when, LieBridges x, int from, int to, int... planks) {
        for (int i = 0; i < planks.length; i++) {
            due(when + ": safe " + i, x.safe(from, to, i), planks[i]);
        }
        due(when + ": behind the way", x.safe(from, to, planks.length), NONE);
        due(when + ": below 0", x.safe(from, to, -1), NONE);
    }

    private static void promise20Safe() {
        LieBridges x = new LieBridges();
        way("as good and as short", x, 0, 3, 0, 1, 2);
        way("backwards", x, 3, 0, 2, 1, 0);
        way("the short one", x, 0, 5, 5);
        way("to itself", x, 3, 3);
        x.tenths(3, 6);
        way("the better one", x, 0, 3, 5, 4, 3);
        for (int plank = 0; plank < 6; plank++) {
            x.tenths(plank, 10);
        }
        way("as good, the shorter one", x, 0, 2, 0, 1);
        way("as good and as short", x, 3, 0, 2, 1, 0);
        x.tenths(0, 9);
        way("five sure ones", x, 0, 1, 5, 4, 3, 2, 1);
        x.tenths(0, 0);
        x.tenths(2, 0);
        way("a chance of 0 is a way, the shorter one", x, 0, 1, 0);
        x.plank(0, 1, 2, 0);
        x.plank(5, 3, 4, 0);
        way("no way", x, 0, 4);
        due("least", x.safe(1, 2, LEAST), NONE);
        due("most", x.safe(1, 2, MOST), NONE);
        way("of two between the same, the better one", x, 2, 1, 1);
        int[][] unknown = {{-1, 0}, {6, 0}, {0, -1}, {0, 6}, {LEAST, LEAST}, {0, MOST}};
        for (int[] w : unknown) {
            due("safe " + w[0] + w[1], x.safe(w[0], w[1], 0), UNKNOWN);
        }
    }

    private static void fraction(String when, LieBridges x, int from, int to, long upper, long lower) {
        due(when + ", upper", x.chance(from, to, 0), upper);
        due(when + ", lower", x.chance(from, to, 1), lower);
    }

    private static void promise21Chance() {
        LieBridges x = new LieBridges();
        fraction("one plank", x, 0, 1, 1, 2);
        fraction("three planks", x, 3, 0, 1, 8);
        fraction("to itself", x, 4, 4, 1, 1);
        for (int plank = 1; plank < 6; plank++) {
            x.tenths(plank, 9);
        }
        x.tenths(0, 0);
        fraction("five planks", x, 0, 1, 59049, 100000);
        x.tenths(5, 10);
        x.tenths(4, 7);
        fraction("two planks", x, 0, 4, 7, 10);
        x.tenths(3, 0);
        fraction("a way of chance 0", x, 1, 5, 0, 1);
        x.plank(0, 1, 2, 0);
        x.plank(5, 3, 4, 0);
        fraction("no way", x, 0, 4, 0, 1);
        int[][] unknown = {{-1, 0}, {6, 0}, {0, -1}, {0, 6}, {LEAST, LEAST}, {0, MOST}};
        for (int[] w : unknown) {
            due("chance " + w[0] + w[1], x.chance(w[0], w[1], 2), LieBridges.LOST - 1);
        }
        for (int part : new int[] {-1, 2, LEAST, MOST}) {
            due("chance, part " + part, x.chance(0, 0, part), LieBridges.LOST - 2);
        }
    }

    private static void promise22Seen() {
        LieBridges x = some();
        due("seen(0, 2)", x.seen(0, 2), 1);
        due("told(2)", x.told(2), 1);
        due("the sight holds", x.filled(-1), 1);
        due("seen(0, 2), again", x.seen(0, 2), 2);
        due("seen(1, 0)", x.seen(1, 0), 3);
        due("a sight does not hold", x.filled(-1), 0);
        due("seen(5, 6)", x.seen(5, 6), 4);
        due("seen, UNKNOWN first", x.seen(6, 7), UNKNOWN);
        for (int plank : new int[] {-1, 6, LEAST, MOST}) {
            due("seen of " + plank, x.seen(plank, 0), UNKNOWN);
        }
        for (int v : new int[] {-1, 7, LEAST, MOST}) {
            due("seen of so many: " + v, x.seen(0, v), OUTSIDE);
        }
        due("the fifth", x.seen(0, 0), 5);
        due("the sixth", x.seen(0, 0), 6);
        due("the seventh", x.seen(0, 0), FULL);
        due("the seventh, OUTSIDE ahead of FULL", x.seen(0, 7), OUTSIDE);
        due("the seventh, UNKNOWN ahead of FULL", x.seen(-1, 0), UNKNOWN);
    }

    private static void promise23Forget() {
        LieBridges x = some();
        due("forget, none", x.forget(), 0);
        x.seen(0, 5);
        x.seen(0, 4);
        due("ahead of forget()", x.filled(-1), 0);
        due("forget, two", x.forget(), 2);
        due("told(2)", x.told(2), 0);
        due("behind forget()", x.filled(-1), 1);
        for (int many = 1; many <= 6; many++) {
            due("seen again", x.seen(0, 2), many);
        }
        due("forget, six", x.forget(), 6);
    }

    private static void promise24Filled() {
        LieBridges x = new LieBridges();
        due("an empty text", x.filled(-1), 1);
        due("an empty text, the first", x.filled(0), NONE);
        Checks.trust(x, "BA BC CA CB DC DB");
        Checks.write(x, "AB0");
        due("no ?, not in vain", x.filled(-1), 1);
        Checks.write(x, "BA0");
        due("no ?, in vain", x.filled(-1), 0);
        Checks.write(x, "?B0");
        due("only A can tell", x.filled(-1), 1);
        due("only A can tell", x.filled(0), 0);
        due("one ? only", x.filled(1), NONE);
        due("below -1", x.filled(-2), NONE);
        due("least", x.filled(LEAST), NONE);
        due("most", x.filled(MOST), NONE);
        // B of A; C of A or B; D of B or C
        Checks.write(x, "?B0?C0?D0");
        due("four ways", x.filled(-1), 4);
        due("the first, B of", x.filled(0), 0);
        due("the first, C of", x.filled(1), 0);
        due("the first, D of", x.filled(2), 1);
        x.trust(2, 0, false);
        due("two ways", x.filled(-1), 2);
        due("the first, C of", x.filled(1), 1);
        // who denies need not believe
        Checks.write(x, "AB0?B-0");
        due("B trusts A and C", x.filled(-1), 2);
        due("A first", x.filled(0), 0);
        // a part without ? that is in vain spoils every way
        Checks.write(x, "?B0AB0");
        due("told again in vain", x.filled(-1), 0);
        due("no way, no first", x.filled(0), NONE);
        Checks.write(x, "?B0...AB0");
        due("told again when it has faded", x.filled(-1), 1);
        // sights: what is borne behind the text
        Checks.write(x, "AB0BC0?B-0");
        x.seen(0, 1);
        due("one believes", x.filled(-1), 2);
        x.seen(1, 0);
        due("two sights", x.filled(-1), 2);
        x.seen(1, 1);
        due("sights at odds", x.filled(-1), 0);
        x.forget();
        x.seen(0, 2);
        due("two believe: no way", x.filled(0), NONE);
        beliefs("filled() changes nothing", x, NO_BELIEFS);
        Checks.write(x, "?B0?");
        due("filled, a fault", x.filled(-1), NO);
        due("filled, a fault", x.filled(-2), NO);
    }

    private static void promise25Year() {
        LieBridges x = new LieBridges();
        due("nobody trusts", x.year(77, 99, -1), 0);
        Checks.trust(x, "AC");
        // 74: C tells A of plank 2
        due("year(0, 1, -1)", x.year(0, 1, -1), 1);
        due("year(0, 1, 2)", x.year(0, 1, 2), 1);
        due("year(0, 1, 0)", x.year(0, 1, 0), 0);
        due("year() changes nothing", x.bears(2, -1), 0);
        x.fade(1);
        due("nine tellings", x.year(0, 9, 2), 1);
        due("a day behind the tenth", x.year(0, 10, 2), 0);
        Checks.play(x, "CA2");
        due("from beliefs as they are", x.year(0, 1, -1), 0);
        due("from beliefs as they are", x.year(0, 1, 2), 1);
        LieBridges y = new LieBridges();
        y.fade(9);
        for (int person = 0; person < 6; person++) {
            for (int other = 0; other < 6; other++) {
                y.trust(person, other, true);
            }
        }
        int x99 = 9999;
        int oneself = 0;
        for (int telling = 1; telling <= 99; telling++) {
            x99 = (75 * x99 + 74) % 65537;
            oneself += x99 % 6 == x99 / 6 % 6 ? 1 : 0;
        }
        due("some tell themselves", oneself > 0 ? 1 : 0, 1);
        due("to oneself is in vain", y.year(9999, 99, -1) <= 99 - oneself ? 1 : 0, 1);
        for (int plank : new int[] {-2, 6, LEAST, MOST}) {
            due("year of " + plank, x.year(-1, 0, plank), UNKNOWN);
        }
        int[][] outside = {{-1, 1}, {10000, 1}, {0, 0}, {0, 100}, {0, -1}, {LEAST, 1}, {MOST, 1}, {0, LEAST}, {0, MOST}};
        for (int[] w : outside) {
            due("year " + w[0] + " " + w[1], x.year(w[0], w[1], -1), OUTSIDE);
        }
    }

    private static LieBridges full() {
        LieBridges x = some();
        x.plank(4, 1, 3, 5);
        x.know(5, 3, true);
        x.fade(7);
        x.tenths(2, 9);
        x.seen(0, 2);
        return x;
    }

    private static void change(LieBridges x) {
        x.plank(0, 2, 5, 3);
        x.trust(1, 0, false);
        x.know(5, 3, false);
        x.know(1, 1, true);
        x.fade(1);
        x.tenths(2, 1);
        x.seen(3, 3);
        Checks.trust(x, "EF");
        Checks.play(x, ".FE4");
    }

    private static void promise26Image() {
        LieBridges x = full();
        Checks.say(x, "AB");
        String before = Checks.state(x);
        due("image(0)", x.image(0), 1);
        due("image() changes nothing", Checks.state(x).equals(before) ? 1 : 0, 1);
        due("only one is kept", x.restore(1), STATE);
        change(x);
        due("image(1)", x.image(1), 1);
        due("image(0) anew", x.image(0), 1);
        x.fade(5);
        due("restore(0)", x.restore(0), 1);
        due("the later image", x.told(1), 1);
        for (int n : new int[] {-1, 2, LEAST, MOST}) {
            due("image " + n, x.image(n), OUTSIDE);
        }
    }

    private static void promise27Restore() {
        LieBridges x = full();
        String before = Checks.state(x);
        due("nothing kept", x.restore(0), STATE);
        x.image(1);
        due("nothing kept in the other one", x.restore(0), STATE);
        change(x);
        String changed = Checks.state(x);
        due("it has changed", changed.equals(before) ? 1 : 0, 0);
        x.image(0);
        due("restore(1)", x.restore(1), 1);
        due("as it was", Checks.state(x).equals(before) ? 1 : 0, 1);
        due("restore(0)", x.restore(0), 1);
        due("as it was changed", Checks.state(x).equals(changed) ? 1 : 0, 1);
        x.restore(1);
        change(x);
        due("restore(1), again", x.restore(1), 1);
        due("the image has stayed", Checks.state(x).equals(before) ? 1 : 0, 1);
        Checks.write(x, "AB0CD1");
        x.restore(0);
        due("the pad stays", x.told(0), 6);
        due("the sights are back", x.told(2), 2);
        x.wipe();
        x.restore(1);
        due("the sight holds", x.filled(-1), 1);
        x.forget();
        x.seen(5, 2);
        due("another one does not", x.filled(-1), 0);
        x.restore(1);
        due("the sight's plank is back", x.filled(-1), 1);
        x.forget();
        x.seen(0, 3);
        x.restore(1);
        due("the sight's number is back", x.filled(-1), 1);
        for (int n : new int[] {-1, 2, LEAST, MOST}) {
            due("restore " + n, x.restore(n), OUTSIDE);
        }
    }

    private static void promise28Told() {
        LieBridges x = new LieBridges();
        Checks.say(x, "AB0");
        due("told(0)", x.told(0), 3);
        x.fade(8);
        due("told(1)", x.told(1), 8);
        x.seen(1, 1);
        due("told(2)", x.told(2), 1);
        Checks.trust(x, "FA FE AF");
        due("told(15)", x.told(15), 17);
        due("told(10)", x.told(10), 32);
        due("told(14)", x.told(14), 0);
        x.know(5, 0, true);
        x.know(5, 5, true);
        x.know(0, 2, true);
        due("told(25)", x.told(25), 33);
        due("told(20)", x.told(20), 4);
        x.plank(3, 5, 1, 4);
        x.plank(2, 0, 4, 0);
        due("told(33)", x.told(33), 415);
        due("told(32)", x.told(32), 4);
        x.tenths(5, 10);
        x.tenths(0, 0);
        due("told(45)", x.told(45), 10);
        due("told(40)", x.told(40), 0);
        int[] outside = {-1, 3, 5, 6, 9, 16, 19, 26, 29, 36, 39, 46, 49, 50, 55, 60, 110, -10, -11, LEAST, MOST};
        for (int what : outside) {
            due("told " + what, x.told(what), OUTSIDE);
        }
    }
}
