import java.util.function.IntToLongFunction;

/** Each sentence of "Terms" (and of the face) that names a boundary case, in a test of its own. */
public final class TermsTest {
    private static final int NONE = -6, UNKNOWN = -1, OUTSIDE = -2, STATE = -3, FULL = -4, NO = -5;
    private static final long LOST = -1000000000000000000L;
    private static final int LEAST = Integer.MIN_VALUE, MOST = Integer.MAX_VALUE;
    private static final int[] NOBODY = {-1, 6, LEAST, MOST};
    private static final Checks checks = new Checks();

    public static void main(String[] args) {
        refusals();
        numbers();
        beliefs();
        texts();
        days();
        ways();
        words();
        chances();
        fillings();
        years();
        checks.end("TermsTest");
    }

    private static void test(String sentence, Runnable test) {
        checks.test(sentence, test);
    }

    private static void due(String call, long got, long want) {
        checks.due(call, got, want);
    }

    private static LieBridges fresh() {
        return new LieBridges();
    }

    private static LieBridges made(String pairs, String text) {
        return Checks.made(pairs, text);
    }

    // ---- refusals

    private static void refusals() {
        test("the constants of the face", TermsTest::constants);
        test("for at most 512 calls", TermsTest::lastCall);
        test("UNKNOWN ahead of OUTSIDE", TermsTest::unknownAheadOfOutside);
        test("UNKNOWN ahead of NO", TermsTest::unknownAheadOfNo);
        test("UNKNOWN ahead of STATE", TermsTest::unknownAheadOfState);
        test("UNKNOWN ahead of FULL", TermsTest::unknownAheadOfFull);
        test("OUTSIDE ahead of NO", TermsTest::outsideAheadOfNo);
        test("OUTSIDE ahead of STATE", TermsTest::outsideAheadOfState);
        test("OUTSIDE ahead of FULL", TermsTest::outsideAheadOfFull);
        test("NO ahead of STATE", TermsTest::noAheadOfState);
        test("Fractions are told in lowest terms", TermsTest::lowestTerms);
        test("by part: 0 the upper, 1 the lower number", TermsTest::partOfFraction);
        test("refused with LOST and the refusal", TermsTest::lost);
    }

    private static void constants() {
        due("NONE", LieBridges.NONE, -6);
        due("UNKNOWN", LieBridges.UNKNOWN, -1);
        due("OUTSIDE", LieBridges.OUTSIDE, -2);
        due("STATE", LieBridges.STATE, -3);
        due("FULL", LieBridges.FULL, -4);
        due("NO", LieBridges.NO, -5);
        due("LOST", LieBridges.LOST, LOST);
    }

    private static void lastCall() {
        LieBridges x = fresh();
        x.trust(1, 0, true);
        for (int call = 2; call < 512; call++) {
            x.say('.');
        }
        due("the 512th call", x.told(0), 60);
    }

    private static void unknownAheadOfOutside() {
        due("falls", fresh().falls(6, -1, 7, 0, 2), UNKNOWN);
        due("tellings", fresh().tellings(0, 6, 0, -1), UNKNOWN);
        due("stands", fresh().stands(-1, 0, 7), UNKNOWN);
        due("rumour", fresh().rumour(6, 0), UNKNOWN);
        due("odds", fresh().odds(0, 1, 1, 2), UNKNOWN);
        due("tenths", fresh().tenths(-1, 11), UNKNOWN);
        due("chance", fresh().chance(0, 6, 2), LOST + UNKNOWN);
        due("seen", fresh().seen(6, 7), UNKNOWN);
        due("year", fresh().year(10000, 100, 6), UNKNOWN);
    }

    private static void unknownAheadOfNo() {
        due("falls", fresh().falls(6, 9, 1, 1, 0), UNKNOWN);
        due("behind", Checks.written("A").behind(6, -1), UNKNOWN);
        due("behind", Checks.written("A").behind(0, 6), UNKNOWN);
    }

    private static void unknownAheadOfState() {
        due("behind", Checks.written("?B0").behind(6, -1), UNKNOWN);
        due("behind", Checks.written("?B0").behind(0, -2), UNKNOWN);
    }

    private static LieBridges sixSeen() {
        LieBridges x = fresh();
        for (int sight = 0; sight < 6; sight++) {
            x.seen(sight, 0);
        }
        return x;
    }

    private static void unknownAheadOfFull() {
        due("seen", sixSeen().seen(6, 0), UNKNOWN);
    }

    private static void outsideAheadOfNo() {
        due("falls, n", fresh().falls(0, 9, 1, 7, 0), OUTSIDE);
        due("falls, what", fresh().falls(0, 9, 1, 1, 2), OUTSIDE);
        due("falls, planks", fresh().falls(0, 99, 1, 1, 0), OUTSIDE);
        due("falls, many", fresh().falls(0, 9, 7, 1, 0), OUTSIDE);
    }

    private static void outsideAheadOfState() {
        due("restore", fresh().restore(2), OUTSIDE);
        due("restore", fresh().restore(-1), OUTSIDE);
    }

    private static LieBridges sixtySigns() {
        return Checks.written(".".repeat(60));
    }

    private static void outsideAheadOfFull() {
        due("say", sixtySigns().say(127), OUTSIDE);
        due("seen", sixSeen().seen(0, 7), OUTSIDE);
    }

    private static void noAheadOfState() {
        due("vain", Checks.written("?B0A").vain(-1), NO);
        due("done", Checks.written("?B0A").done(), NO);
        due("behind", Checks.written("?B0A").behind(0, -1), NO);
    }

    private static void fraction(String when, LieBridges x, int from, int to, long upper, long lower) {
        due(when + ", upper", x.chance(from, to, 0), upper);
        due(when + ", lower", x.chance(from, to, 1), lower);
    }

    private static LieBridges tenths(int... each) {
        LieBridges x = fresh();
        for (int plank = 0; plank < each.length; plank++) {
            x.tenths(plank, each[plank]);
        }
        return x;
    }

    private static void lowestTerms() {
        fraction("4 tenths", tenths(4, 0), 0, 1, 2, 5);
        fraction("7 tenths", tenths(7, 0), 0, 1, 7, 10);
        fraction("8 by 5 tenths", tenths(8, 5, 0), 0, 2, 2, 5);
        fraction("10 tenths", tenths(10), 0, 1, 1, 1);
        fraction("nothing", tenths(0, 0), 0, 1, 0, 1);
        fraction("five of 9 tenths", tenths(9, 9, 9, 9, 9, 0), 0, 5, 59049, 100000);
    }

    private static void partOfFraction() {
        due("part 0", tenths(3, 0).chance(0, 1, 0), 3);
        due("part 1", tenths(3, 0).chance(0, 1, 1), 10);
    }

    private static void lost() {
        due("UNKNOWN", fresh().chance(6, 0, 0), -1000000000000000001L);
        due("OUTSIDE", fresh().chance(0, 1, 2), -1000000000000000002L);
    }

    // ---- how many there are of each

    private static void numbers() {
        test("PEOPLE 0 to 5", TermsTest::people);
        test("ISLANDS 0 to 5", TermsTest::islands);
        test("PLANKS 0 to 5", TermsTest::planks);
        test("at first PLANK k by PERSON k", TermsTest::firstLayers);
        test("between ISLANDS k and k and 1", TermsTest::firstEnds);
        test("PLANK 5 between 5 and 0", TermsTest::lastPlank);
        test("TRUST: nobody does, at first", TermsTest::noTrust);
        test("KNOWS: nobody does, at first", TermsTest::noKnowing);
        test("FADE (1 to 9 days", TermsTest::fadeBounds);
        test("FADE .. 3 at first", TermsTest::firstFade);
    }

    /** The call takes 0 and 5, and refuses as UNKNOWN what lies beyond. */
    private static void noneBeyond(String call, IntToLongFunction asks, int below, long refusal) {
        for (int taken : new int[] {0, 5}) {
            due(call + " refuses " + taken, asks.applyAsLong(taken) == refusal ? 1 : 0, 0);
        }
        for (int refused : new int[] {below, 6, LEAST, MOST}) {
            due(call + " of " + refused, asks.applyAsLong(refused), refusal);
        }
    }

    private static void noneBeyond(String call, IntToLongFunction asks) {
        noneBeyond(call, asks, -1, UNKNOWN);
    }

    private static void people() {
        noneBeyond("plank", person -> fresh().plank(0, 0, 1, person));
        noneBeyond("trust, who", person -> fresh().trust(person, 3, true));
        noneBeyond("trust, whom", person -> fresh().trust(3, person, true));
        noneBeyond("know", person -> fresh().know(person, 0, true));
        noneBeyond("bears", person -> fresh().bears(0, person), -2, UNKNOWN);
        noneBeyond("behind", person -> fresh().behind(0, person), -2, UNKNOWN);
        noneBeyond("odds, who tells", person -> fresh().odds(0, person, 3, 0));
        noneBeyond("odds, who denies", person -> fresh().odds(0, 3, person, 0));
    }

    private static void islands() {
        noneBeyond("plank, one", island -> fresh().plank(0, island, 3, 0));
        noneBeyond("plank, the other", island -> fresh().plank(0, 3, island, 0));
        noneBeyond("falls", island -> fresh().falls(island, 5, 1, 1, 0));
        noneBeyond("tellings, from", island -> fresh().tellings(island, 0, 1, -1));
        noneBeyond("tellings, to", island -> fresh().tellings(0, island, 1, -1));
        noneBeyond("stands, from", island -> fresh().stands(island, 0, 1));
        noneBeyond("stands, to", island -> fresh().stands(0, island, 1));
        noneBeyond("safe, from", island -> fresh().safe(island, 0, 0));
        noneBeyond("safe, to", island -> fresh().safe(0, island, 0));
        noneBeyond("chance, from", island -> fresh().chance(island, 0, 0), -1, LOST + UNKNOWN);
        noneBeyond("chance, to", island -> fresh().chance(0, island, 0), -1, LOST + UNKNOWN);
    }

    private static void planks() {
        noneBeyond("plank", plank -> fresh().plank(plank, 0, 1, 0));
        noneBeyond("know", plank -> fresh().know(0, plank, true));
        noneBeyond("bears", plank -> fresh().bears(plank, -1));
        noneBeyond("behind", plank -> fresh().behind(plank, -1));
        noneBeyond("rumour", plank -> fresh().rumour(plank, 1));
        noneBeyond("odds", plank -> fresh().odds(plank, 0, 1, 0));
        noneBeyond("tenths", plank -> fresh().tenths(plank, 5));
        noneBeyond("seen", plank -> fresh().seen(plank, 0));
        noneBeyond("year", plank -> fresh().year(0, 1, plank), -2, UNKNOWN);
    }

    private static void firstLayers() {
        for (int plank = 0; plank < 6; plank++) {
            due("who laid PLANK " + plank, fresh().told(30 + plank) / 100, plank);
            LieBridges x = Checks.allTrust();
            Checks.write(x, "" + (char) ('A' + plank) + (char) ('A' + (plank + 1) % 6) + plank);
            due("who laid PLANK " + plank + " may tell it", x.vain(-1), 0);
        }
    }

    private static void firstEnds() {
        for (int plank = 0; plank < 5; plank++) {
            due("ISLANDS of PLANK " + plank, fresh().told(30 + plank) % 100, 10 * plank + plank + 1);
            due("beside the lesser one", fresh().falls(plank, plank, 1, 1, 0), 0);
            due("beside the greater one", fresh().falls(plank + 1, plank, 1, 1, 0), 0);
            due("not beside the next one", fresh().falls((plank + 2) % 6, plank, 1, 1, 0), NO);
        }
    }

    private static void lastPlank() {
        due("told(35)", fresh().told(35), 505);
        due("beside 5", fresh().falls(5, 5, 1, 1, 0), 0);
        due("beside 0", fresh().falls(0, 5, 1, 1, 0), 0);
        due("not beside 4", fresh().falls(4, 5, 1, 1, 0), NO);
        due("a way from 5 to 0", fresh().safe(5, 0, 0), 5);
    }

    private static void noTrust() {
        for (int person = 0; person < 6; person++) {
            due("whom " + person + " trusts", fresh().told(10 + person), 0);
        }
        due("a telling is in vain", Checks.written("AB0").vain(-1), 1);
    }

    private static void noKnowing() {
        for (int person = 0; person < 6; person++) {
            due("of which " + person + " KNOWS better", fresh().told(20 + person), 0);
        }
    }

    private static void fadeBounds() {
        due("fade(1)", fresh().fade(1), 3);
        due("fade(9)", fresh().fade(9), 3);
        due("fade(0)", fresh().fade(0), OUTSIDE);
        due("fade(10)", fresh().fade(10), OUTSIDE);
        due("the least", fresh().fade(LEAST), OUTSIDE);
        due("the most", fresh().fade(MOST), OUTSIDE);
    }

    private static void firstFade() {
        due("told(1)", fresh().told(1), 3);
        due("a BELIEF", made("BA", "AB0").bears(0, 1), 3);
    }

    // ---- belief, tellings, denials, days

    private static void beliefs() {
        test("BELIEF: so many days still (0: none)", TermsTest::noBelief);
        test("Who laid it has none", TermsTest::layerHasNone);
        test("but may tell it always", TermsTest::layerTells);
        test("A TELLING: if the teller laid it or has BELIEF in it", TermsTest::tellerBelieves);
        test("A TELLING: the hearer trusts the teller", TermsTest::hearerTrusts);
        test("A TELLING: the hearer did not lay it", TermsTest::hearerDidNotLay);
        test("A TELLING: the hearer does not KNOW better", TermsTest::hearerKnows);
        test("A TELLING: the hearer has no BELIEF in it", TermsTest::hearerBelieves);
        test("the hearer has a BELIEF of FADE days then", TermsTest::newBelief);
        test("A DENIAL: if the hearer trusts who denies", TermsTest::denierTrusted);
        test("A DENIAL: and has BELIEF in it", TermsTest::nothingToDeny);
        test("A DENIAL: it is 0 then", TermsTest::denied);
        test("A DENIAL, by one: whoever it is", TermsTest::anyoneDenies);
        test("A day: each BELIEF becomes a day less", TermsTest::dayLess);
        test("A day: no BELIEF stays none", TermsTest::noneStaysNone);
        test("A PLANK BEARS as many as have BELIEF in it", TermsTest::bearing);
    }

    private static void noBelief() {
        due("nobody told", fresh().bears(0, 1), 0);
        due("a last day", made("BA", "AB0..").bears(0, 1), 1);
        due("borne on the last day", made("BA", "AB0..").bears(0, -1), 1);
        due("faded", made("BA", "AB0...").bears(0, 1), 0);
        due("no longer borne", made("BA", "AB0...").bears(0, -1), 0);
    }

    private static void layerHasNone() {
        LieBridges x = made("BA AB", "AB0BA0");
        due("who laid it", x.bears(0, 0), 0);
        due("who heard it", x.bears(0, 1), 3);
        due("borne", x.bears(0, -1), 1);
    }

    private static void layerTells() {
        due("without any BELIEF", made("BA", "AB0").bears(0, -1), 1);
        due("behind many days", made("BA", ".".repeat(50) + "AB0").bears(0, -1), 1);
        LieBridges knowing = made("BA", "");
        knowing.know(0, 0, true);
        Checks.play(knowing, "AB0");
        due("who KNOWS better of the own one", knowing.bears(0, -1), 1);
        due("once denied to", made("BA AB", "BA-0AB0").bears(0, -1), 1);
        LieBridges laid = made("FE", "");
        laid.plank(0, 2, 3, 4);
        Checks.play(laid, "EF0");
        due("who laid it since", laid.bears(0, 5), 3);
    }

    private static void tellerBelieves() {
        due("neither", made("CB", "BC0").bears(0, 2), 0);
        due("a BELIEF of a day", made("BA CB", "AB0..BC0").bears(0, 2), 3);
        due("a BELIEF that has faded", made("BA CB", "AB0...BC0").bears(0, 2), 0);
        due("a BELIEF that was denied", made("BA CB", "AB0AB-0BC0").bears(0, 2), 0);
        due("a BELIEF in another PLANK", made("BA CB", "AB0BC1BC2").bears(2, 2), 0);
    }

    private static void hearerTrusts() {
        due("trusting", made("BA", "AB0").bears(0, 1), 3);
        due("the teller trusts, not the hearer", made("AB", "AB0").bears(0, 1), 0);
        due("trusting another one", made("BC", "AB0").bears(0, 1), 0);
        LieBridges x = made("BA", "");
        x.trust(1, 0, false);
        due("trusting no longer", Checks.written("AB0").vain(-1), 1);
        Checks.play(x, "AB0");
        due("trusting no longer", x.bears(0, 1), 0);
    }

    private static void hearerDidNotLay() {
        LieBridges x = made("BA AB", "AB0");
        Checks.write(x, "BA0");
        due("in vain", x.vain(-1), 1);
        due("BELIEF", x.behind(0, 0), 0);
    }

    private static void hearerKnows() {
        LieBridges x = made("BA", "");
        x.know(1, 0, true);
        Checks.write(x, "AB0");
        due("in vain", x.vain(-1), 1);
        due("BELIEF", x.behind(0, 1), 0);
        x.know(1, 0, false);
        due("no longer", x.vain(-1), 0);
        x.know(1, 1, true);
        due("of another PLANK", x.vain(-1), 0);
    }

    private static void hearerBelieves() {
        LieBridges x = made("BA", "AB0..");
        Checks.write(x, "AB0");
        due("in vain on the last day", x.vain(-1), 1);
        due("the BELIEF stays as it is", x.behind(0, 1), 1);
        Checks.write(x, ".AB0");
        due("not in vain once it has faded", x.vain(-1), 0);
        due("the BELIEF is a new one", x.behind(0, 1), 3);
    }

    private static void newBelief() {
        for (int fade : new int[] {1, 3, 9}) {
            LieBridges x = made("BA", "");
            x.fade(fade);
            Checks.play(x, "AB0");
            due("FADE " + fade, x.bears(0, 1), fade);
        }
    }

    private static void denierTrusted() {
        due("trusted", made("BA BC", "AB0CB-0").bears(0, 1), 0);
        due("not trusted", made("BA", "AB0CB-0").bears(0, 1), 3);
        due("the other way round", made("BA CB", "AB0CB-0").bears(0, 1), 3);
    }

    private static void nothingToDeny() {
        LieBridges x = made("BA BC", "");
        Checks.write(x, "CB-0");
        due("in vain", x.vain(-1), 1);
        Checks.write(x, "AB0CB-0CB-0");
        due("the second one in vain", x.vain(0), 2);
        Checks.write(x, "AB0...CB-0");
        due("faded: in vain", x.vain(-1), 1);
        Checks.write(x, "AB0CB-1");
        due("of another PLANK: in vain", x.vain(-1), 1);
    }

    private static void denied() {
        LieBridges x = made("BA BC", "");
        x.fade(9);
        Checks.play(x, "AB0CB-0");
        due("of nine days", x.bears(0, 1), 0);
        Checks.play(x, "AB0........CB-0");
        due("of one day", x.bears(0, 1), 0);
    }

    private static void anyoneDenies() {
        due("who has no BELIEF", made("BA BC", "AB0CB-0").bears(0, -1), 0);
        due("who laid it", made("BA", "AB0AB-0").bears(0, -1), 0);
        due("who has BELIEF", made("BA CA BC", "AB0AC0CB-0").bears(0, -1), 1);
        LieBridges x = made("BA BC", "AB0");
        x.know(2, 0, true);
        Checks.play(x, "CB-0");
        due("who KNOWS better", x.bears(0, -1), 0);
    }

    private static void dayLess() {
        LieBridges x = made("BA CB AF", "AB0.BC1FA5");
        due("ahead of the day", x.bears(0, 1), 2);
        Checks.play(x, ".");
        due("of PLANK 0", x.bears(0, 1), 1);
        due("of PLANK 1", x.bears(1, 2), 2);
        due("of PLANK 5", x.bears(5, 0), 2);
        x.fade(9);
        Checks.play(x, ".AB0.");
        due("of nine days", x.bears(0, 1), 8);
        LieBridges ends = made("AB FE", "");
        ends.plank(0, 0, 1, 1);
        ends.plank(5, 5, 0, 4);
        Checks.play(ends, "BA0EF5.");
        due("of A in PLANK 0", ends.bears(0, 0), 2);
        due("of F in PLANK 5", ends.bears(5, 5), 2);
    }

    private static void noneStaysNone() {
        LieBridges x = made("BA", "AB0" + ".".repeat(57));
        due("behind 57 days", x.bears(0, 1), 0);
        due("nobody told", x.bears(5, 5), 0);
        Checks.write(x, "AB0");
        due("can be told again", x.behind(0, 1), 3);
    }

    private static void bearing() {
        LieBridges x = made("BA CA DA EA FA", "");
        due("none", x.bears(0, -1), 0);
        String hearers = "BCDEF";
        for (int many = 1; many <= 5; many++) {
            Checks.play(x, "A" + hearers.charAt(many - 1) + "0");
            due("so many", x.bears(0, -1), many);
        }
        due("another PLANK", x.bears(1, -1), 0);
        LieBridges y = made("AF FA", "FA5");
        due("the PLANK of which A has heard", y.bears(5, -1), 1);
        due("the one ahead of it", y.bears(4, -1), 0);
        y.plank(3, 3, 4, 0);
        Checks.play(y, "AF3");
        due("the PLANK of which F has heard", y.bears(3, -1), 1);
        due("the one behind it", y.bears(4, -1), 0);
    }

    // ---- texts

    private static void texts() {
        test("60 SIGNS at most", TermsTest::padBounds);
        test("codes 33 to 126", TermsTest::codes);
        test("PARTS: A to F (the teller)", TermsTest::tellers);
        test("or ? (the teller is not told)", TermsTest::asked);
        test("? .. 3 at most", TermsTest::threeAsked);
        test("A to F (the hearer", TermsTest::hearers);
        test("the hearer, another one", TermsTest::anotherOne);
        test("0 to 5 (a TELLING)", TermsTest::toldPlanks);
        test("but with - ahead of the digit (a DENIAL)", TermsTest::deniedPlanks);
        test(". (a day)", TermsTest::dayPart);
        test("THE FAULT: the place (from 0 on)", TermsTest::faultPlaces);
        test("the number of signs, if more must come", TermsTest::moreMustCome);
        test("an empty PAD has none", TermsTest::emptyPad);
    }

    private static void fault(String text, int want) {
        due("fault of " + text, Checks.written(text).fault(), want);
    }

    private static void padBounds() {
        LieBridges x = Checks.written(".".repeat(59));
        due("the 60th", x.say('.'), 60);
        due("the 61st", x.say('.'), FULL);
        due("how many", x.told(0), 60);
        due("all 60 are read", x.fault(), NONE);
        due("all 60 are done", x.done(), 60);
    }

    private static void codes() {
        due("33", fresh().say(33), 1);
        due("126", fresh().say(126), 1);
        for (int sign : new int[] {32, 127, 0, -1, 256 + 'A', 65536 + 'A', LEAST, MOST}) {
            due("say(" + sign + ")", fresh().say(sign), OUTSIDE);
        }
    }

    private static void tellers() {
        fault("AB0", NONE);
        fault("FB0", NONE);
        for (String sign : new String[] {"@", "G", "a", "f", "0", "-", "!", "~", "/", ">"}) {
            fault(sign + "B0", 0);
        }
    }

    private static void asked() {
        fault("?A0", NONE);
        fault("?F-5", NONE);
        fault("?", 1);
        fault("??", 1);
    }

    private static void threeAsked() {
        fault("?A0?A0?A0", NONE);
        fault("?A-0.?A0?A-0AB0", NONE);
        fault("?A0?A0?A0?A0", 9);
        fault("?A0?A0?A0?", 9);
        fault("?A0?A-0?A0AB0.?A0", 14);
    }

    private static void hearers() {
        fault("BA0", NONE);
        fault("AF0", NONE);
        for (String sign : new String[] {"@", "G", "a", "?", "0", "-", ".", "!", "~"}) {
            fault("A" + sign + "0", 1);
        }
    }

    private static void anotherOne() {
        for (char person = 'A'; person <= 'F'; person++) {
            fault("" + person + person + "0", 1);
        }
        // who speaks at a ? is not told: it may be another one than any hearer
        fault("?A0?B0?C0", NONE);
    }

    private static void toldPlanks() {
        fault("AB0", NONE);
        fault("AB5", NONE);
        for (String sign : new String[] {"/", "6", "9", ":", "A", ".", "?", "!", "~"}) {
            fault("AB" + sign, 2);
        }
    }

    private static void deniedPlanks() {
        fault("AB-0", NONE);
        fault("AB-5", NONE);
        for (String sign : new String[] {"-", "/", "6", "A", ".", "?"}) {
            fault("AB-" + sign, 3);
        }
        fault("A-0", 1);
        fault("AB0-", 3);
        fault("-0", 0);
    }

    private static void dayPart() {
        fault(".", NONE);
        fault("..AB0..", NONE);
        fault("A.B0", 1);
        fault("AB.0", 2);
        fault("AB-.0", 3);
    }

    private static void faultPlaces() {
        fault("!", 0);
        fault(".!", 1);
        fault("AB0!", 3);
        fault("AG6!", 1);
        fault(".".repeat(59) + "!", 59);
        fault(".".repeat(57) + "AA0", 58);
    }

    private static void moreMustCome() {
        fault("A", 1);
        fault("AB", 2);
        fault("AB-", 3);
        fault("AB0?", 4);
        fault(".".repeat(59) + "A", 60);
        fault(".".repeat(58) + "AB", 60);
        fault(".".repeat(57) + "AB-", 60);
    }

    private static void emptyPad() {
        due("a new object", fresh().fault(), NONE);
        LieBridges x = Checks.written("A");
        x.wipe();
        due("behind wipe()", x.fault(), NONE);
        x = Checks.written(".");
        x.done();
        due("behind done()", x.fault(), NONE);
    }

    // ---- days

    private static void days() {
        test("VAIN: PARTS (from 0 on)", TermsTest::vainPlaces);
        test("VAIN: how many", TermsTest::vainMany);
        test("BEHIND: as they would be behind the TEXT", TermsTest::behindText);
        test("FALLS: a party of n (1 to 6)", TermsTest::fallingParty);
        test("told by digits of a number, the first highest", TermsTest::digits);
        test("PLANKS one behind another: 6 at most", TermsTest::sixPlanks);
        test("each beside the one ahead, from an ISLAND on", TermsTest::besideTheOneAhead);
        test("the first that BEARS fewer than n", TermsTest::bearsFewer);
        test("the ISLAND to which it comes: the last one ahead of that PLANK", TermsTest::lastAhead);
        test("if all hold, the one behind the last", TermsTest::behindLast);
    }

    private static void vainPlaces() {
        LieBridges x = made("BA", "");
        Checks.write(x, "BA0.AB0AB0.AC0");
        due("the first PART", x.vain(0), 0);
        due("a day is a PART, too", x.vain(1), 3);
        due("the last PART", x.vain(2), 5);
        due("no more", x.vain(3), NONE);
    }

    private static void vainMany() {
        due("of none", fresh().vain(-1), 0);
        due("a day never is", Checks.written("...").vain(-1), 0);
        due("all", Checks.written("AB0AB-0".repeat(8)).vain(-1), 16);
        due("all, the last", Checks.written("AB0".repeat(20)).vain(19), 19);
        due("all, no more", Checks.written("AB0".repeat(20)).vain(20), NONE);
    }

    private static void behindText() {
        LieBridges x = made("BA CA", "AB0");
        Checks.write(x, ".AC0");
        due("borne", x.behind(0, -1), 2);
        due("a day less", x.behind(0, 1), 2);
        due("a new one", x.behind(0, 2), 3);
        due("borne now", x.bears(0, -1), 1);
        due("again", x.behind(0, -1), 2);
        x.wipe();
        due("an empty TEXT", x.behind(0, 1), 3);
    }

    private static void fallingParty() {
        due("of 1", fresh().falls(0, 0, 1, 1, 0), 0);
        due("of 6", fresh().falls(0, 0, 1, 6, 0), 0);
        for (int n : new int[] {0, 7, -1, LEAST, MOST}) {
            due("of " + n, fresh().falls(0, 0, 1, n, 0), OUTSIDE);
        }
    }

    /** Each PLANK bears one. */
    private static LieBridges oneEach() {
        return made("BA CB DC ED FE AF", "AB0BC1CD2DE3EF4FA5");
    }

    private static void digits() {
        due("0, then 1", oneEach().falls(0, 1, 2, 1, 1), 2);
        due("1, then 0", oneEach().falls(2, 10, 2, 1, 1), 0);
        due("0, 0, then 5", oneEach().falls(0, 5, 3, 1, 1), 5);
        due("5, 0, then 0", oneEach().falls(5, 500, 3, 1, 1), 0);
        due("5, 4, 3", oneEach().falls(0, 543, 3, 1, 1), 3);
    }

    private static void sixPlanks() {
        due("round", oneEach().falls(0, 12345, 6, 1, 0), NONE);
        due("round, to", oneEach().falls(0, 12345, 6, 1, 1), 0);
        due("the other way round", oneEach().falls(0, 543210, 6, 1, 1), 0);
        due("of no PLANKS", oneEach().falls(3, 0, 0, 1, 1), 3);
        due("seven", oneEach().falls(0, 0, 7, 1, 0), OUTSIDE);
    }

    private static void besideTheOneAhead() {
        due("the first one not beside the ISLAND", oneEach().falls(0, 1, 1, 1, 0), NO);
        due("the second one not beside", oneEach().falls(0, 2, 2, 1, 0), NO);
        due("the last one beside", oneEach().falls(0, 12344, 6, 1, 0), NONE);
        due("the last one not beside", oneEach().falls(0, 12343, 6, 1, 0), NO);
        due("beside the ISLAND, not where it comes", oneEach().falls(0, 5, 2, 1, 0), NO);
        due("also behind one that falls", fresh().falls(0, 2, 2, 1, 0), NO);
        due("also behind one that falls, the ISLAND", fresh().falls(0, 2, 2, 1, 1), NO);
    }

    private static void bearsFewer() {
        LieBridges x = made("BA CA CB DB", "AB0AC0BC1BD1");
        due("both bear 2", x.falls(0, 1, 2, 2, 0), NONE);
        due("3 fall from the first", x.falls(0, 1, 2, 3, 0), 0);
        Checks.play(x, "BD-1");
        due("2 fall from the second", x.falls(0, 1, 2, 2, 0), 1);
        due("1 does not", x.falls(0, 1, 2, 1, 0), NONE);
        due("of two that fall the first", x.falls(0, 11, 3, 2, 0), 1);
        due("a BELIEF of a day counts", made("BA", "AB0..").falls(0, 0, 1, 1, 0), NONE);
        due("one that has faded does not", made("BA", "AB0...").falls(0, 0, 1, 1, 0), 0);
    }

    private static void lastAhead() {
        due("the first PLANK", fresh().falls(0, 0, 1, 1, 1), 0);
        due("the first PLANK, backwards", fresh().falls(1, 0, 1, 1, 1), 1);
        LieBridges x = made("BA", "AB0");
        due("the second PLANK", x.falls(0, 12, 3, 1, 1), 1);
        due("the second PLANK, backwards", x.falls(1, 54, 3, 1, 1), 0);
        due("though the next one would hold", x.falls(2, 10, 2, 1, 1), 2);
    }

    private static void behindLast() {
        LieBridges x = made("BA CB", "AB0BC1");
        due("one PLANK", x.falls(0, 0, 1, 1, 1), 1);
        due("two PLANKS", x.falls(0, 1, 2, 1, 1), 2);
        due("to and fro", x.falls(1, 11, 4, 1, 1), 1);
        due("no PLANK", x.falls(4, 0, 0, 6, 1), 4);
    }

    // ---- ways

    private static void ways() {
        test("TELLINGS: to itself 0", TermsTest::tellingsToItself);
        test("over PLANKS that BEAR n then", TermsTest::tellingsToBear);
        test("no day going by", TermsTest::noDayGoesBy);
        test("each TELLING not in vain", TermsTest::noTellingInVain);
        test("TELLINGS: the fewest", TermsTest::fewestTellings);
        test("of all of as few the one with fewest PLANKS", TermsTest::fewestPlanks);
        test("then the first by PLANKS", TermsTest::firstByPlanks);
        test("TELLINGS, STANDS, SAFE: none is of matter to the next", TermsTest::waysApart);
        test("STANDS: how many days must go by till there is no way at all", TermsTest::lastWay);
        test("STANDS: nobody telling", TermsTest::nobodyTelling);
        test("STANDS: 0: there is none now", TermsTest::noWayNow);
        test("STANDS: NONE: both ISLANDS are one", TermsTest::standsOnItself);
    }

    private static void tellingsToItself() {
        for (int island = 0; island < 6; island++) {
            due("how many", fresh().tellings(island, island, 6, -1), 0);
            due("the way", fresh().tellings(island, island, 6, 0), NONE);
        }
    }

    private static void tellingsToBear() {
        due("as many as n", made("BA CA", "AB0AC0").tellings(0, 1, 2, -1), 0);
        due("one fewer", made("BA CA", "AB0").tellings(0, 1, 2, -1), 1);
        due("more than n", made("BA CA", "AB0AC0").tellings(0, 1, 1, -1), 0);
        due("five of none", Checks.allTrust().tellings(0, 1, 5, -1), 5);
        due("six can not be", Checks.allTrust().tellings(0, 1, 6, -1), NONE);
        due("each PLANK of the way", made("BA CB", "").tellings(0, 2, 1, -1), 2);
    }

    private static void noDayGoesBy() {
        LieBridges x = made("BA CB DC", "AB0..");
        due("who believes for a day still is borne by", x.tellings(0, 1, 1, -1), 0);
        due("and may tell", x.tellings(0, 1, 3, -1), 2);
        Checks.play(x, ".");
        due("no longer", x.tellings(0, 1, 3, -1), 3);
        due("of FADE 1, five one behind another", fading(1, "BA CB DC ED FE", "").tellings(0, 1, 5, -1), 5);
    }

    private static void noTellingInVain() {
        LieBridges x = made("BA CB AC", "");
        due("B of A, C of B", x.tellings(0, 1, 2, -1), 2);
        due("not A, who laid it", x.tellings(0, 1, 3, -1), NONE);
        x.know(2, 0, true);
        due("not C, who KNOWS better", x.tellings(0, 1, 2, -1), NONE);
        due("B alone", x.tellings(0, 1, 1, -1), 1);
        x.know(1, 0, true);
        due("nor B", x.tellings(0, 1, 1, -1), NONE);
    }

    /** PLANKS 0 and 1 lie from 0 by 1 to 2, PLANK 5 straight from 0 to 2. */
    private static LieBridges twoWays(String text) {
        LieBridges x = made("BA CB AF", "");
        x.plank(5, 0, 2, 5);
        Checks.play(x, text);
        return x;
    }

    private static void way(String when, LieBridges x, int from, int to, int n, int... planks) {
        for (int i = 0; i < planks.length; i++) {
            due(when + ": PLANK " + i, x.tellings(from, to, n, i), planks[i]);
        }
        due(when + ": no more", x.tellings(from, to, n, planks.length), NONE);
    }

    private static void fewestTellings() {
        LieBridges x = twoWays("AB0BC1");
        due("none, by two PLANKS", x.tellings(0, 2, 1, -1), 0);
        way("none, by two PLANKS", x, 0, 2, 1, 0, 1);
        way("and back", x, 2, 0, 1, 1, 0);
    }

    private static void fewestPlanks() {
        LieBridges none = twoWays("AB0BC1FA5");
        due("none by both", none.tellings(0, 2, 1, -1), 0);
        way("none by both", none, 0, 2, 1, 5);
        LieBridges one = twoWays("AB0");
        due("one by both", one.tellings(0, 2, 1, -1), 1);
        way("one by both", one, 0, 2, 1, 5);
    }

    /** Two ways from 0 to 2: PLANKS 0 and 5, or 1 and 2. */
    private static void layTwoOfTwo(LieBridges x) {
        x.plank(0, 0, 1, 0);
        x.plank(5, 1, 2, 0);
        x.plank(1, 0, 3, 0);
        x.plank(2, 3, 2, 0);
    }

    private static void firstByPlanks() {
        LieBridges x = made("BA", "");
        layTwoOfTwo(x);
        way("0, 5 ahead of 1, 2", x, 0, 2, 1, 0, 5);
        way("2, 1 ahead of 5, 0", x, 2, 0, 1, 2, 1);
        x.plank(3, 0, 1, 0);
        way("0 ahead of 3", x, 0, 1, 1, 0);
        x.plank(4, 1, 2, 0);
        way("4 ahead of 5", x, 1, 2, 1, 4);
    }

    private static void waysApart() {
        LieBridges x = twoWays("AB0BC1");
        x.tenths(5, 0);
        for (int turn = 0; turn < 2; turn++) {
            due("a chance", x.chance(2, 0, 1), 4);
            due("tellings", x.tellings(0, 2, 2, -1), 2);
            due("a chance", x.chance(0, 2, 0), 1);
            due("tellings", x.tellings(2, 0, 1, -1), 0);
            due("tellings, the first PLANK", x.tellings(2, 0, 1, 0), 1);
            due("safe", x.safe(0, 2, 1), 1);
            due("stands", x.stands(0, 2, 1), 3);
            due("a chance", x.chance(4, 4, 0), 1);
            due("stands", x.stands(0, 3, 1), 0);
        }
    }

    private static void lastWay() {
        LieBridges x = made("BA", "");
        x.plank(1, 0, 1, 0);
        Checks.play(x, "AB0..AB1");
        due("the longer of two ways", x.stands(0, 1, 1), 3);
        due("the shorter PLANK of a way", made("BA CB", "AB0.BC1").stands(0, 2, 1), 2);
        due("two of three days", made("BA CA", "AB0.AC0").stands(0, 1, 2), 2);
        due("one of three days", made("BA CA", "AB0.AC0").stands(1, 0, 1), 3);
        due("the last day", made("BA", "AB0..").stands(0, 1, 1), 1);
        LieBridges nine = made("BA", "");
        nine.fade(9);
        Checks.play(nine, "AB0");
        due("nine days", nine.stands(0, 1, 1), 9);
    }

    private static void nobodyTelling() {
        LieBridges x = made("BA CA DC", "AB0");
        x.fade(9);
        due("FADE is of no matter", x.stands(0, 1, 1), 3);
        due("nor who could tell", x.stands(0, 1, 2), 0);
        Checks.say(x, "AC0");
        due("nor the TEXT", x.stands(0, 1, 2), 0);
    }

    private static void noWayNow() {
        due("nobody believes", fresh().stands(0, 1, 1), 0);
        due("too few", made("BA", "AB0").stands(0, 1, 2), 0);
        due("faded", made("BA", "AB0...").stands(0, 1, 1), 0);
        LieBridges x = fresh();
        x.plank(0, 1, 2, 0);
        x.plank(5, 1, 2, 0);
        due("no PLANK at all", x.stands(0, 1, 1), 0);
    }

    private static void standsOnItself() {
        due("of 1", fresh().stands(0, 0, 1), NONE);
        due("of 6", fresh().stands(5, 5, 6), NONE);
        due("borne", made("BA", "AB0").stands(0, 0, 1), NONE);
    }

    // ---- words

    private static void words() {
        test("WORD: so that most BELIEFS end", TermsTest::mostEnd);
        test("WORD: to all others", TermsTest::wordToAll);
        test("WORD: the first", TermsTest::firstWord);
        test("WORD: 0, if none would end", TermsTest::noWord);
        test("RUMOUR: all who laid it or have BELIEF in it", TermsTest::rumourTellers);
        test("RUMOUR: at the day's beginning", TermsTest::dayBeginning);
        test("RUMOUR: ahead of its end .. behind whose tellings", TermsTest::behindTellings);
        test("RUMOUR: then BELIEFS fade (those that came this day, too)", TermsTest::newOnesFade);
        test("RUMOUR: m or more have BELIEF in it", TermsTest::rumourMany);
        test("RUMOUR: 0: they have now", TermsTest::rumourNow);
        test("RUMOUR: 1 on", TermsTest::firstDay);
        test("RUMOUR: 30 at most; NONE", TermsTest::lastDay);
        test("ODDS: one behind the other", TermsTest::oneBehindTheOther);
        test("ODDS: to all others", TermsTest::oddsToAll);
    }

    private static void mostEnd() {
        LieBridges x = made("CF DF EB", "FC5FD5BE1");
        due("the word", x.word(0), 55);
        due("how many", x.word(1), 2);
        LieBridges all = Checks.allTrust();
        Checks.play(all, "AB0AC0AD0AE0AF0");
        due("five end", all.word(1), 5);
        due("by the one who laid it", all.word(0), 0);
    }

    private static void wordToAll() {
        LieBridges x = made("AF BF CF DF EF", "FA5FB5FC5FD5FE5");
        due("from A to E", x.word(1), 5);
        LieBridges own = made("BA AB", "AB0");
        due("not to oneself", own.word(1), 1);
        own.trust(1, 0, false);
        own.trust(2, 1, true);
        due("not to oneself", own.word(1), 0);
    }

    private static void firstWord() {
        due("of two PEOPLE", made("CA CB", "AC0").word(0), 0);
        due("of two PLANKS", made("CB", "BC1").word(0), 11);
        LieBridges x = fresh();
        x.plank(5, 5, 0, 0);
        x.plank(0, 0, 1, 1);
        Checks.trust(x, "CA DB");
        Checks.play(x, "AC5BD0");
        due("A of PLANK 5 ahead of B of PLANK 0", x.word(0), 5);
        due("how many", x.word(1), 1);
        LieBridges y = made("CB", "BC1");
        y.plank(4, 4, 5, 1);
        Checks.play(y, "BC4");
        due("B of PLANK 1 ahead of PLANK 4", y.word(0), 11);
    }

    private static void noWord() {
        due("nobody believes", fresh().word(0), 0);
        due("how many", fresh().word(1), 0);
        LieBridges x = made("BA", "AB0");
        x.trust(1, 0, false);
        due("nobody trusts", x.word(0), 0);
        due("how many", x.word(1), 0);
        due("nobody believes in what F could deny", made("BF", "").word(0), 0);
    }

    private static void rumourTellers() {
        due("who laid it", made("BA", "").rumour(0, 1), 1);
        due("who believes", made("BA CB", "AB0").rumour(0, 2), 1);
        due("who laid another one", made("BA", "").rumour(1, 1), NONE);
        due("who has heard of another one", made("BA CB", "AB0").rumour(2, 1), NONE);
    }

    private static void dayBeginning() {
        // A tells ahead of B, B would tell ahead of C: not on the day on which it hears
        due("B of A", made("BA CB DC", "").rumour(0, 1), 1);
        due("C of B", made("BA CB DC", "").rumour(0, 2), 2);
        due("D of C", made("BA CB DC", "").rumour(0, 3), 3);
        due("with the letters turned", made("EF DE CD", "").rumour(5, 3), 3);
    }

    private static LieBridges fading(int fade, String pairs, String text) {
        LieBridges x = fresh();
        x.fade(fade);
        Checks.trust(x, pairs);
        Checks.play(x, text);
        return x;
    }

    private static void behindTellings() {
        due("of FADE 1", fading(1, "BA", "").rumour(0, 1), 1);
        due("of FADE 1, five at once", fading(1, "BA CA DA EA FA", "").rumour(0, 5), 1);
        due("who believes for a day still counts", fading(1, "BA CA", "AB0").rumour(0, 2), 1);
    }

    private static void newOnesFade() {
        due("of FADE 1: gone by the next day", fading(1, "BA CB", "").rumour(0, 2), NONE);
        due("of FADE 2: one day still", fading(2, "BA CB", "").rumour(0, 2), 2);
        due("of FADE 2: not two", fading(2, "BA CB DC", "").rumour(0, 3), 3);
        due("of FADE 2: who heard first has forgotten", fading(2, "CB DC", "").rumour(1, 2), 2);
        due("not those alone that came this day", fading(9, "BA", "AB0........").rumour(0, 2), NONE);
    }

    private static void rumourMany() {
        due("more than m at once", made("BA CA DA", "").rumour(0, 2), 1);
        due("just m", made("BA CA DA", "").rumour(0, 3), 1);
        due("fewer", made("BA CA DA", "").rumour(0, 4), NONE);
        due("five of all", Checks.allTrust().rumour(0, 5), 1);
        due("six never: who laid it has none", Checks.allTrust().rumour(0, 6), NONE);
    }

    private static void rumourNow() {
        due("just m", made("BA CA", "AB0AC0").rumour(0, 2), 0);
        due("more", made("BA CA", "AB0AC0").rumour(0, 1), 0);
        due("on the last day", made("BA", "AB0..").rumour(0, 1), 0);
        due("fewer", made("BA CA", "AB0").rumour(0, 2), 1);
        due("faded", made("BA", "AB0...").rumour(0, 1), 1);
    }

    private static void firstDay() {
        for (int plank = 0; plank < 6; plank++) {
            due("PLANK " + plank, Checks.allTrust().rumour(plank, 1), 1);
        }
    }

    /** The latest day that a search over all trust of FADE 1 to 3 and draws beyond that has found. */
    private static LieBridges lateRumour() {
        LieBridges x = fresh();
        Checks.trust(x, "DA EA FA");
        x.fade(4);
        Checks.play(x, "AD0");
        x.fade(1);
        Checks.play(x, "AE0");
        x.fade(2);
        Checks.play(x, "AF0");
        for (int person = 3; person < 6; person++) {
            x.trust(person, 0, false);
        }
        Checks.trust(x, "BC CE CF DF EB FD FE");
        return x;
    }

    private static void lastDay() {
        // NOTES.md: no state reaches a later day than the 12th, so the last of the 30 changes no answer
        due("the 12th day", lateRumour().rumour(0, 5), 12);
        due("never", fresh().rumour(0, 1), NONE);
        due("never two at once, day by day", fading(1, "BA CB", "").rumour(0, 2), NONE);
        due("never, though told on each day", made("BA", "AB0").rumour(0, 2), NONE);
    }

    private static void oneBehindTheOther() {
        due("told, then denied", made("BA CA BF", "").odds(0, 0, 5, 0), 1);
        due("denied, then told", made("BA CA BF", "").odds(0, 0, 5, 1), 2);
        due("denied, then told anew", made("BA BF", "AB0").odds(0, 0, 5, 1), 1);
        due("told in vain, then denied", made("BA BF", "AB0").odds(0, 0, 5, 0), 0);
        due("no day going by", made("BA", "AB0..").odds(0, 0, 5, 0), 1);
        due("nor for what is told", fading(1, "BA", "").odds(0, 0, 5, 0), 1);
    }

    private static void oddsToAll() {
        due("who denies hears the telling", made("FA", "").odds(0, 0, 5, 0), 1);
        due("who denies hears it, too, behind", made("FA", "").odds(0, 0, 5, 1), 1);
        due("who tells hears the denial, behind", made("BA BC DB", "AB0").odds(0, 1, 2, 0), 1);
        due("who tells hears the denial, ahead", made("BA BC DB", "AB0").odds(0, 1, 2, 1), 0);
        due("all five", Checks.allTrust().odds(0, 0, 5, 1), 5);
        due("all but the one who denies", Checks.allTrust().odds(0, 0, 5, 0), 1);
    }

    // ---- chances

    private static void chances() {
        test("s tenths (0 to 10", TermsTest::tenthsBounds);
        test("tenths .. 5 each at first", TermsTest::firstTenths);
        test("to itself one of no PLANKS, chance 1", TermsTest::safeOnItself);
        test("that holds with the greatest chance", TermsTest::greatestChance);
        test("SAFE: of several the fewest PLANKS", TermsTest::safeFewest);
        test("SAFE: then the first by PLANKS", TermsTest::safeFirst);
    }

    private static void tenthsBounds() {
        due("0", fresh().tenths(0, 0), 5);
        due("10", fresh().tenths(0, 10), 5);
        for (int v : new int[] {-1, 11, LEAST, MOST}) {
            due("to " + v, fresh().tenths(0, v), OUTSIDE);
        }
        fraction("of 0 tenths", tenths(0, 0), 0, 1, 0, 1);
        fraction("of 10 tenths", tenths(10), 0, 1, 1, 1);
    }

    private static void firstTenths() {
        for (int plank = 0; plank < 6; plank++) {
            due("told", fresh().told(40 + plank), 5);
            due("which they were", fresh().tenths(plank, 1), 5);
            fraction("a half", fresh(), plank, (plank + 1) % 6, 1, 2);
        }
    }

    private static void safeWay(String when, LieBridges x, int from, int to, int... planks) {
        for (int i = 0; i < planks.length; i++) {
            due(when + ": PLANK " + i, x.safe(from, to, i), planks[i]);
        }
        due(when + ": no more", x.safe(from, to, planks.length), NONE);
    }

    private static void safeOnItself() {
        for (int island = 0; island < 6; island++) {
            safeWay("to itself", fresh(), island, island);
            fraction("to itself", tenths(0, 0, 0, 0, 0, 0), island, island, 1, 1);
        }
    }

    private static void greatestChance() {
        safeWay("five sure ones", tenths(9, 10, 10, 10, 10, 10), 0, 1, 5, 4, 3, 2, 1);
        fraction("five sure ones", tenths(9, 10, 10, 10, 10, 10), 0, 1, 1, 1);
        safeWay("59 of 100 by five", tenths(6, 9, 9, 9, 9, 9), 0, 1, 0);
        safeWay("as few, the better one", tenths(5, 5, 5, 5, 5, 6), 0, 3, 5, 4, 3);
        safeWay("30 tenths of tenths ahead of 25", tenths(5, 5, 6, 10, 10, 5), 0, 2, 5, 4, 3, 2);
    }

    private static void safeFewest() {
        safeWay("as sure", tenths(10, 10, 10, 10, 10, 10), 0, 5, 5);
        safeWay("as sure, and back", tenths(10, 10, 10, 10, 10, 10), 5, 0, 5);
        safeWay("a chance of 0", tenths(0, 0, 5, 5, 5, 5), 0, 1, 0);
        safeWay("a chance of 0, two of six", tenths(5, 0, 5, 0, 5, 5), 0, 2, 0, 1);
        safeWay("20 of 100 by both", tenths(2, 10, 10, 10, 5, 4), 0, 1, 0);
    }

    private static void safeFirst() {
        safeWay("0, 1, 2 ahead of 5, 4, 3", fresh(), 0, 3, 0, 1, 2);
        safeWay("2, 1, 0 ahead of 3, 4, 5", fresh(), 3, 0, 2, 1, 0);
        LieBridges x = tenths(4, 10, 2, 5, 5, 5);
        layTwoOfTwo(x);
        safeWay("0, 5 ahead of 1, 2", x, 0, 2, 0, 5);
        safeWay("2, 1 ahead of 5, 0", x, 2, 0, 2, 1);
        x.plank(3, 0, 3, 0);
        x.tenths(3, 10);
        safeWay("1 ahead of 3", x, 0, 3, 1);
    }

    // ---- what is not told

    private static void fillings() {
        test("a PERSON (not the hearer) for each ?", TermsTest::notTheHearer);
        test("by which no PART is in vain", TermsTest::noPartInVain);
        test("and all SIGHTS hold (behind the TEXT a PLANK BEARS v)", TermsTest::sightsHold);
        test("SIGHTS (6 at most", TermsTest::sixSights);
        test("FILLED: how many; the first by letters", TermsTest::firstByLetters);
    }

    private static int filled(LieBridges x, String text, int i) {
        Checks.write(x, text);
        return x.filled(i);
    }

    private static void notTheHearer() {
        due("five may deny", filled(Checks.allTrust(), "AB0?B-0", -1), 5);
        due("the first is not A", filled(Checks.allTrust(), "BA1?A-1", 0), 1);
        due("five by five", filled(Checks.allTrust(), "AB0AC0?B-0?C-0", -1), 25);
        due("five by five by five", filled(Checks.allTrust(), "AB0AC0AD0?B-0?C-0?D-0", -1), 125);
    }

    private static void noPartInVain() {
        due("A alone may tell", filled(Checks.allTrust(), "?B0", -1), 1);
        due("A alone may tell", filled(Checks.allTrust(), "?B0", 0), 0);
        due("nobody is trusted", filled(fresh(), "?B0", -1), 0);
        due("a PART without ? in vain", filled(made("BA", ""), "?B0CD1", -1), 0);
        due("a PART ahead in vain", filled(made("BA", ""), "CD1?B0", -1), 0);
        due("a text without ? in vain", filled(fresh(), "AB0", -1), 0);
        due("a text without ?", filled(made("BA", ""), "AB0", -1), 1);
        due("an empty text", filled(fresh(), "", -1), 1);
        due("days alone", filled(fresh(), "..", -1), 1);
        due("by one who believes for a day still", filled(made("BA CB", "AB0.."), "?C0", 0), 1);
        due("by one who has believed", filled(made("BA CB", "AB0..."), "?C0", -1), 0);
    }

    private static int seenFilled(int plank, int v, String text) {
        LieBridges x = Checks.allTrust();
        x.seen(plank, v);
        return filled(x, text, -1);
    }

    private static void sightsHold() {
        due("just so many", seenFilled(0, 1, "?B0"), 1);
        due("fewer", seenFilled(0, 0, "?B0"), 0);
        due("more", seenFilled(0, 2, "?B0"), 0);
        due("another PLANK bears none", seenFilled(5, 0, "?B0"), 1);
        due("behind the TEXT, days too", seenFilled(0, 0, "?B0..."), 1);
        due("a day ahead", seenFilled(0, 1, "?B0.."), 1);
        due("five", seenFilled(0, 5, "AB0AC0AD0AE0AF0"), 1);
        due("six never", seenFilled(0, 6, "AB0AC0AD0AE0AF0"), 0);
        due("an empty text", seenFilled(0, 0, ""), 1);
        due("an empty text, borne by none", seenFilled(0, 1, ""), 0);
        LieBridges two = Checks.allTrust();
        two.seen(0, 1);
        two.seen(0, 1);
        due("the same one again", filled(two, "?B0", -1), 1);
        two.seen(0, 2);
        due("the last of several", filled(two, "?B0", -1), 0);
    }

    private static void sixSights() {
        LieBridges x = fresh();
        for (int many = 1; many <= 6; many++) {
            due("seen", x.seen(0, 0), many);
        }
        due("the seventh", x.seen(0, 0), FULL);
        due("all six hold", x.filled(-1), 1);
        x.forget();
        for (int many = 1; many <= 5; many++) {
            x.seen(0, 0);
        }
        x.seen(0, 1);
        due("the sixth does not hold", x.filled(-1), 0);
    }

    private static void firstByLetters() {
        LieBridges x = made("BF BE CD CE DB DC", "");
        x.plank(0, 0, 1, 5);
        Checks.trust(x, "EF");
        Checks.play(x, "FE0");
        // B of E or F, C of E, D of B or C
        due("how many", filled(x, "?B0?C0?D0", -1), 4);
        int[] first = {4, 4, 1};
        for (int i = 0; i < 3; i++) {
            due("the " + i + "th ?", filled(x, "?B0?C0?D0", i), first[i]);
        }
        due("no more ?", filled(x, "?B0?C0?D0", 3), NONE);
        due("by the order of the text", filled(x, "?C0?B0?D0", 2), 1);
        due("F is the last letter", filled(made("BF", "FB5"), "?B-5", 0), 5);
    }

    // ---- years

    private static void years() {
        test("A YEAR by a seed (0 to 9999)", TermsTest::seeds);
        test("of m TELLINGS (1 to 99)", TermsTest::tellingsOfAYear);
        test("x becomes (75 x and 74) left over by 65537", TermsTest::draws);
        test("PERSON x left over by 6 tells ..", TermsTest::asTold);
        test("in vain, if both are one", TermsTest::toOneself);
        test("behind every tenth TELLING a day goes by", TermsTest::tenthTelling);
        test("from BELIEFS as they are", TermsTest::beliefsAsTheyAre);
    }

    private static void seeds() {
        due("0", Checks.allTrust().year(0, 1, -1), 1);
        due("9999", Checks.allTrust().year(9999, 1, -1), 1);
        for (int seed : new int[] {-1, 10000, LEAST, MOST}) {
            due("seed " + seed, Checks.allTrust().year(seed, 1, -1), OUTSIDE);
        }
    }

    private static void tellingsOfAYear() {
        due("1", Checks.allTrust().year(0, 1, -1), 1);
        due("99", Checks.allTrust().year(0, 99, -1) > 1 ? 1 : 0, 1);
        for (int m : new int[] {0, 100, -1, LEAST, MOST}) {
            due("of " + m, Checks.allTrust().year(0, m, -1), OUTSIDE);
        }
    }

    private static void draws() {
        // 74: C tells A of PLANK 2
        due("of seed 0", made("AC", "").year(0, 1, 2), 1);
        // 75 by 9999 and 74 are 749999, 29092 left over: E tells A of PLANK 4
        due("of seed 9999", made("AE", "").year(9999, 1, 4), 1);
        due("of seed 9999, nobody else", made("AB AC AD AF", "").year(9999, 1, -1), 0);
        // 75 by 873 and 74 are 65549, 12 left over: A tells C of PLANK 0
        due("of seed 873", made("CA", "").year(873, 1, 0), 1);
        // 75 by 74 and 74 are 5624: C tells B of PLANK 0
        due("the second of seed 0", made("AC BC CA", "AC0").year(0, 2, -1), 2);
        due("the second of seed 0", made("AC BC CA", "AC0").year(0, 2, 0), 2);
    }

    /** The first so many TELLINGS of a year as a text, days and all; what is to oneself is left out. */
    private static int playYear(LieBridges x, int seed, int m) {
        int draw = seed;
        int heard = 0;
        for (int telling = 1; telling <= m; telling++) {
            draw = (75 * draw + 74) % 65537;
            int teller = draw % 6;
            int hearer = draw / 6 % 6;
            if (teller != hearer) {
                Checks.say(x, "" + (char) ('A' + teller) + (char) ('A' + hearer) + draw / 36 % 6);
            }
            if (telling % 10 == 0) {
                Checks.say(x, ".");
            }
            if (telling % 10 == 0 || telling == m) {
                int vain = x.vain(-1);
                heard += x.done() - vain - (telling % 10 == 0 ? 1 : 0);
            }
        }
        return heard;
    }

    private static void asTold() {
        for (int seed : new int[] {0, 1, 4711, 9998, 9999}) {
            for (int m : new int[] {1, 2, 9, 10, 11, 20, 98, 99}) {
                LieBridges played = Checks.allTrust();
                int heard = playYear(played, seed, m);
                due("year(" + seed + ", " + m + ")", Checks.allTrust().year(seed, m, -1), heard);
                for (int plank = 0; plank < 6; plank++) {
                    due("year(" + seed + ", " + m + "), PLANK " + plank, Checks.allTrust().year(seed, m, plank),
                        played.bears(plank, -1));
                }
            }
        }
    }

    private static void toOneself() {
        int asked = 0;
        for (int seed = 0; seed < 10000 && asked < 40; seed++) {
            int draw = (75 * seed + 74) % 65537;
            if (draw % 6 == draw / 6 % 6) {
                asked++;
                due("year of seed " + seed, Checks.allTrust().year(seed, 1, -1), 0);
                due("PLANK that it tells of", Checks.allTrust().year(seed, 1, draw / 36 % 6), 0);
            }
        }
        due("so many seeds", asked, 40);
    }

    /** B believes in PLANK 0 for so many days, and nobody trusts anybody. */
    private static LieBridges alone(int days) {
        LieBridges x = fading(days, "BA", "AB0");
        x.trust(1, 0, false);
        return x;
    }

    private static void tenthTelling() {
        due("nine", alone(1).year(0, 9, 0), 1);
        due("ten", alone(1).year(0, 10, 0), 0);
        due("nineteen", alone(2).year(0, 19, 0), 1);
        due("twenty", alone(2).year(0, 20, 0), 0);
        due("89", alone(9).year(0, 89, 0), 1);
        due("90", alone(9).year(0, 90, 0), 0);
        due("99", alone(9).year(0, 99, 0), 0);
        due("of which none counts", alone(9).year(0, 99, -1), 0);
    }

    private static void beliefsAsTheyAre() {
        LieBridges x = made("AC", "CA2");
        due("told already", x.year(0, 1, -1), 0);
        due("borne already", x.year(0, 1, 2), 1);
        x.year(0, 99, -1);
        due("they stay so", x.bears(2, 0), 3);
        due("the next one from the same", x.year(0, 1, 2), 1);
        LieBridges y = made("AC", "");
        y.year(0, 99, -1);
        due("nobody has heard", y.bears(2, -1), 0);
        Checks.say(y, "CA2");
        due("nor is the TEXT ahead of it", y.year(0, 1, -1), 1);
        due("nor empty", y.told(0), 3);
    }
}
