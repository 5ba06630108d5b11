import java.util.function.LongSupplier;

/** Counts the answers that are not the ones that are due. */
final class Checks {
    private int asked;
    private int wrong;

    void due(String call, long got, long want) {
        asked++;
        if (got != want) {
            wrong++;
            System.out.println(call + " answered " + got + ", due is " + want);
        }
    }

    /** The call answers the refusal and changes nothing that can be seen. */
    void refused(LieBridges x, String call, LongSupplier made, long want) {
        String before = state(x);
        due(call, made.getAsLong(), want);
        String behind = state(x);
        asked++;
        if (!before.equals(behind)) {
            wrong++;
            System.out.println(call + " was refused, but changed " + before + " to " + behind);
        }
    }

    /** Ends the run with exit code 1 if some answer was wrong, or none was asked for. */
    void end(String name) {
        System.out.println(name + ": " + asked + " answers, " + wrong + " wrong");
        if (wrong != 0 || asked == 0) {
            System.exit(1);
        }
    }

    static void say(LieBridges x, String text) {
        for (int i = 0; i < text.length(); i++) {
            x.say(text.charAt(i));
        }
    }

    static void write(LieBridges x, String text) {
        x.wipe();
        say(x, text);
    }

    static void play(LieBridges x, String text) {
        write(x, text);
        x.done();
    }

    /** Who trusts whom, as pairs of letters: "BA CA": B and C trust A. */
    static void trust(LieBridges x, String pairs) {
        for (String pair : pairs.split(" ")) {
            x.trust(pair.charAt(0) - 'A', pair.charAt(1) - 'A', true);
        }
    }

    static String beliefs(LieBridges x) {
        StringBuilder all = new StringBuilder();
        for (int plank = 0; plank < 6; plank++) {
            for (int person = 0; person < 6; person++) {
                all.append(x.bears(plank, person));
            }
            all.append(plank < 5 ? " " : "");
        }
        return all.toString();
    }

    static String state(LieBridges x) {
        StringBuilder all = new StringBuilder(beliefs(x));
        for (int tens = 0; tens <= 40; tens += 10) {
            for (int which = 0; which < 6; which++) {
                all.append(' ').append(x.told(tens + which));
            }
        }
        all.append(" text ").append(x.fault()).append(' ').append(x.vain(-1)).append(' ').append(x.vain(0));
        for (int plank = 0; plank < 6; plank++) {
            all.append(' ').append(x.behind(plank, -1));
        }
        for (int i = -1; i < 3; i++) {
            all.append(' ').append(x.filled(i));
        }
        return all.toString();
    }
}
