import java.util.function.Supplier;
import java.util.function.ToLongFunction;

/** Counts the answers that are not the ones that are due. */
final class Checks {
    private int asked;
    private int wrong;
    private String sentence = "";

    /** A test of its own for one sentence of the document. */
    void test(String sentence, Runnable test) {
        this.sentence = sentence + ": ";
        int before = asked;
        test.run();
        if (asked == before) {
            due("how much was asked", 0, 1);
        }
    }

    void due(String call, long got, long want) {
        asked++;
        if (got != want) {
            wrong++;
            System.out.println(sentence + call + " answered " + got + ", due is " + want);
        }
    }

    void same(String what, String got, String want) {
        asked++;
        if (!got.equals(want)) {
            wrong++;
            System.out.println(sentence + what + " is " + got + ", due is " + want);
        }
    }

    /** On an object made so the call answers the refusal, and leaves all that can be seen as it was. */
    void refused(String call, Supplier<LieBridges> made, ToLongFunction<LieBridges> asks, long want) {
        LieBridges x = made.get();
        due(call, asks.applyAsLong(x), want);
        same("what " + call + " leaves", stateAndImages(x), stateAndImages(made.get()));
    }

    /** Ends the run with exit code 1 if some answer was wrong, or none was asked for. */
    void end(String name) {
        System.out.println(name + ": " + asked + " answers, " + wrong + " wrong");
        if (wrong != 0 || asked == 0) {
            System.exit(1);
        }
    }

    static void say(LieBridges x, String text) {
        for (int i = 0; i < text.length(); i++) {
            x.say(text.charAt(i));
        }
    }

    static void write(LieBridges x, String text) {
        x.wipe();
        say(x, text);
    }

    static void play(LieBridges x, String text) {
        write(x, text);
        x.done();
    }

    /** Who trusts whom, as pairs of letters: "BA CA": B and C trust A. */
    static void trust(LieBridges x, String pairs) {
        for (String pair : pairs.split(" ")) {
            x.trust(pair.charAt(0) - 'A', pair.charAt(1) - 'A', true);
        }
    }

    /** A new object with such trust, behind such a text. */
    static LieBridges made(String pairs, String text) {
        LieBridges x = new LieBridges();
        trust(x, pairs);
        play(x, text);
        return x;
    }

    /** A new object with such a text on its pad. */
    static LieBridges written(String text) {
        LieBridges x = new LieBridges();
        say(x, text);
        return x;
    }

    /** A new object in which all trust all others. */
    static LieBridges allTrust() {
        LieBridges x = new LieBridges();
        for (int person = 0; person < 6; person++) {
            for (int other = 0; other < 6; other++) {
                x.trust(person, other, true);
            }
        }
        return x;
    }

    static String beliefs(LieBridges x) {
        StringBuilder all = new StringBuilder();
        for (int plank = 0; plank < 6; plank++) {
            for (int person = 0; person < 6; person++) {
                all.append(x.bears(plank, person));
            }
            all.append(plank < 5 ? " " : "");
        }
        return all.toString();
    }

    static String state(LieBridges x) {
        StringBuilder all = new StringBuilder(beliefs(x));
        for (int tens = 0; tens <= 40; tens += 10) {
            for (int which = 0; which < 6; which++) {
                all.append(' ').append(x.told(tens + which));
            }
        }
        all.append(" text ").append(x.fault()).append(' ').append(x.vain(-1)).append(' ').append(x.vain(0));
        for (int plank = 0; plank < 6; plank++) {
            all.append(' ').append(x.behind(plank, -1));
        }
        for (int i = -1; i < 3; i++) {
            all.append(' ').append(x.filled(i));
        }
        return all.toString();
    }

    /** The state, and what it becomes by either image: some 240 calls, with which an object has been used enough. */
    static String stateAndImages(LieBridges x) {
        StringBuilder all = new StringBuilder(state(x));
        for (int n = 0; n < 2; n++) {
            all.append(" image ").append(x.restore(n)).append(' ').append(state(x));
        }
        return all.toString();
    }
}
