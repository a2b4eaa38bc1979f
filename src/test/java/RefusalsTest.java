/** The edges ahead of part 1 of the Terms: REFUSALS, NONE, FRACTIONS; a sentence, a test. */
public final class RefusalsTest {
    private static final int UNKNOWN = AgingStamps.UNKNOWN, OUTSIDE = AgingStamps.OUTSIDE;
    private static final int STATE = AgingStamps.STATE, FULL = AgingStamps.FULL;
    private static final int MIN = Integer.MIN_VALUE, MAX = Integer.MAX_VALUE;
    private static final Due due = new Due();

    private interface Call {
        long on(AgingStamps x);
    }

    private interface Past {
        AgingStamps make();
    }

    public static void main(String[] args) {
        constants();
        firstThatACallNames();
        refusedInAFullPost();
        refusedActsInAFullPost();
        refusedAsksInAFullPost();
        refusedWithAFaultyText();
        refusedInANewObject();
        askedChangesNothing();
        fractionsInLeastTerms();
        refusalsOfFractions();
        due.end();
    }

    /** "UNKNOWN = -1, OUTSIDE = -2, STATE = -3, FULL = -4, NONE = -9", "NONE is -9". */
    private static void constants() {
        due.is("UNKNOWN", AgingStamps.UNKNOWN, -1);
        due.is("OUTSIDE", AgingStamps.OUTSIDE, -2);
        due.is("STATE", AgingStamps.STATE, -3);
        due.is("FULL", AgingStamps.FULL, -4);
        due.is("NONE", AgingStamps.NONE, -9);
    }

    /**
     * 48 letters of THE TEXT, 5 STAMPS, 4 LETTERS, 14 ACTS of 16, 6 SEEN, slot 0 kept, slot 1 not.
     * STAMP 0 is on LETTER 0 (come), 1 and 3 are free (2 was joined to 1), 2 is on LETTER 1, 4 is dead.
     */
    private static AgingStamps fullPost() {
        AgingStamps x = Due.album("AS390S082S001S003S600J01J12J23J34J40L13L16L91L29");
        x.damp();
        x.week();
        x.damp();
        Due.weeks(x, 8);
        x.keep(0);
        x.stick(0, 0);
        x.send(0);
        x.stick(2, 1);
        x.part(1, 2);
        x.week();
        for (int n = 1; n <= 6; n++) {
            x.see(n % 3, 10 * n, n % 2);
        }
        x.seed(77);
        return x;
    }

    private static AgingStamps faultyText() {
        AgingStamps x = Due.album("AS390S600J01L13L99");
        x.week();
        x.stick(0, 0);
        x.keep(1);
        x.see(0, 5, 1);
        x.seed(-9);
        Due.text(x, "AS391L24S60");
        return x;
    }

    /** "of several the first that a call names": wherever two can stand against each other. */
    private static void firstThatACallNames() {
        AgingStamps x = fullPost();
        due.is("write: OUTSIDE, FULL", x.write(256), OUTSIDE);
        due.is("write: OUTSIDE, FULL", x.write(-1), OUTSIDE);
        due.is("stamp: UNKNOWN, OUTSIDE", x.stamp(5, 8), UNKNOWN);
        due.is("stamp: UNKNOWN, OUTSIDE", x.stamp(-1, -1), UNKNOWN);
        due.is("letter: UNKNOWN, OUTSIDE", x.letter(4, 5), UNKNOWN);
        due.is("letter: UNKNOWN, OUTSIDE", x.letter(-1, -1), UNKNOWN);
        due.is("stick: unknown stamp, sent letter", x.stick(5, 0), UNKNOWN);
        due.is("stick: dead stamp, unknown letter", x.stick(4, 4), UNKNOWN);
        due.is("stick: stuck stamp, unknown letter", x.stick(0, -1), UNKNOWN);
        due.is("part: not joined, and unknown", x.part(5, 0), UNKNOWN);
        due.is("part: an unknown one from itself", x.part(5, 5), UNKNOWN);
        due.is("comes: UNKNOWN, OUTSIDE", x.comes(4, 32), UNKNOWN);
        due.is("comes: UNKNOWN, STATE", x.comes(-1, 16), UNKNOWN);
        due.is("comes: OUTSIDE, sent", x.comes(0, 32), OUTSIDE);
        due.is("comes: OUTSIDE, and a dead one", x.comes(1, 32 + 16), OUTSIDE);
        due.is("comes: OUTSIDE, and one on a letter", x.comes(1, -1), OUTSIDE);
        due.is("see: UNKNOWN, OUTSIDE, FULL", x.see(5, 100, 2), UNKNOWN);
        due.is("see: UNKNOWN, FULL", x.see(-1, 0, 0), UNKNOWN);
        due.is("see: n OUTSIDE, FULL", x.see(0, 100, 0), OUTSIDE);
        due.is("see: alive OUTSIDE, FULL", x.see(0, 0, 2), OUTSIDE);
        due.is("rests: one UNKNOWN, what OUTSIDE", x.rests(4, 1, 0, 2), UNKNOWN);
        due.is("rests: both UNKNOWN, and one", x.rests(4, 4, 0, 0), UNKNOWN);
        due.is("rests: stamp UNKNOWN, both are one", x.rests(1, 1, 5, 0), UNKNOWN);
        due.is("rests: other UNKNOWN, one sent", x.rests(0, -1, 0, 0), UNKNOWN);
        due.is("rests: stamp UNKNOWN, one sent", x.rests(0, 1, -1, 0), UNKNOWN);
        due.is("rests: both are one, and sent", x.rests(0, 0, 0, 0), OUTSIDE);
        due.is("rests: what OUTSIDE, other sent", x.rests(1, 0, 0, 2), OUTSIDE);
        due.is("again: UNKNOWN, none kept", x.again(2), UNKNOWN);
    }

    /** "What is refused changes nothing": one that has heard the call is as one that has not. */
    private static void changesNothing(String name, Past past, Call call, long want) {
        AgingStamps heard = past.make();
        due.is(name, call.on(heard), want);
        due.same(name + " changes nothing", Everything.of(heard), Everything.of(past.make()));
    }

    private static void refused(String name, Call call, long want) {
        changesNothing(name, RefusalsTest::fullPost, call, want);
    }

    private static void refusedInAFullPost() {
        refused("write(-1)", x -> x.write(-1), OUTSIDE);
        refused("write(256)", x -> x.write(256), OUTSIDE);
        refused("write(48)", x -> x.write(48), FULL);
        refused("stamp(5, 0)", x -> x.stamp(5, 0), UNKNOWN);
        refused("stamp(0, 8)", x -> x.stamp(0, 8), OUTSIDE);
        refused("letter(4, 0)", x -> x.letter(4, 0), UNKNOWN);
        refused("letter(0, 5)", x -> x.letter(0, 5), OUTSIDE);
        refused("see(5, 0, 0)", x -> x.see(5, 0, 0), UNKNOWN);
        refused("see(0, 100, 0)", x -> x.see(0, 100, 0), OUTSIDE);
        refused("see(0, 0, 2)", x -> x.see(0, 0, 2), OUTSIDE);
        refused("see(0, 0, 1)", x -> x.see(0, 0, 1), FULL);
        refused("years(0)", x -> x.years(0), OUTSIDE);
        refused("years(31)", x -> x.years(31), OUTSIDE);
        refused("years(min)", x -> x.years(MIN), OUTSIDE);
        refused("keep(-1)", x -> x.keep(-1), UNKNOWN);
        refused("keep(2)", x -> x.keep(2), UNKNOWN);
        refused("again(-1)", x -> x.again(-1), UNKNOWN);
        refused("again(2)", x -> x.again(2), UNKNOWN);
        refused("again(1)", x -> x.again(1), STATE);
        refused("count(-1)", x -> x.count(-1), OUTSIDE);
        refused("count(11)", x -> x.count(11), OUTSIDE);
    }

    /** The row is full: a refused act that went into it would push the first one out. */
    private static void refusedActsInAFullPost() {
        refused("stick(-1, 2)", x -> x.stick(-1, 2), UNKNOWN);
        refused("stick(5, 2)", x -> x.stick(5, 2), UNKNOWN);
        refused("stick(1, -1)", x -> x.stick(1, -1), UNKNOWN);
        refused("stick(1, 4)", x -> x.stick(1, 4), UNKNOWN);
        refused("stick(4, 2): dead", x -> x.stick(4, 2), STATE);
        refused("stick(2, 3): stuck", x -> x.stick(2, 3), STATE);
        refused("stick(1, 0): sent", x -> x.stick(1, 0), STATE);
        refused("send(-1)", x -> x.send(-1), UNKNOWN);
        refused("send(4)", x -> x.send(4), UNKNOWN);
        refused("send(0): sent", x -> x.send(0), STATE);
        refused("send(1): not good for it", x -> x.send(1), STATE);
        refused("send(2): nothing on it", x -> x.send(2), STATE);
        refused("part(0, 5)", x -> x.part(0, 5), UNKNOWN);
        refused("part(-1, 0)", x -> x.part(-1, 0), UNKNOWN);
        refused("part(1, 2): parted", x -> x.part(1, 2), STATE);
        refused("part(0, 2): never joined", x -> x.part(0, 2), STATE);
        refused("part(0, 0)", x -> x.part(0, 0), STATE);
    }

    private static void refusedAsksInAFullPost() {
        refused("lives(5)", x -> x.lives(5), UNKNOWN);
        refused("comes(4, 0)", x -> x.comes(4, 0), UNKNOWN);
        refused("comes(1, 32)", x -> x.comes(1, 32), OUTSIDE);
        refused("comes(1, -1)", x -> x.comes(1, -1), OUTSIDE);
        refused("comes(0, 0): sent", x -> x.comes(0, 0), STATE);
        refused("comes(1, 16): dead", x -> x.comes(1, 16), STATE);
        refused("comes(2, 1): stuck", x -> x.comes(2, 1), STATE);
        refused("fewest(4)", x -> x.fewest(4), UNKNOWN);
        refused("fewest(0): sent", x -> x.fewest(0), STATE);
        refused("block(5)", x -> x.block(5), UNKNOWN);
        refused("judge(0, 0)", x -> x.judge(0, 0), OUTSIDE);
        refused("judge(5, 0)", x -> x.judge(5, 0), OUTSIDE);
        refused("judge(2, -1)", x -> x.judge(2, -1), OUTSIDE);
        refused("judge(2, 1000000)", x -> x.judge(2, 1000000), OUTSIDE);
        refused("bought(5)", x -> x.bought(5), UNKNOWN);
        refused("share(5, true)", x -> x.share(5, true), UNKNOWN);
        refused("rests(4, 1, 0, 0)", x -> x.rests(4, 1, 0, 0), UNKNOWN);
        refused("rests(1, 1, 0, 0)", x -> x.rests(1, 1, 0, 0), OUTSIDE);
        refused("rests(0, 1, 0, 0)", x -> x.rests(0, 1, 0, 0), STATE);
        refused("born(10, 0, true)", x -> x.born(10, 0, true), OUTSIDE);
        refused("born(0, 11, true)", x -> x.born(0, 11, true), OUTSIDE);
    }

    /** "STATE: a FAULT": neither THE ALBUM, nor THE ROW of ACTS, nor what was kept is gone. */
    private static void refusedWithAFaultyText() {
        changesNothing("album()", RefusalsTest::faultyText, x -> x.album(), STATE);
        changesNothing("fault()", RefusalsTest::faultyText, x -> x.fault(), 11);
        changesNothing("fault(), album()", RefusalsTest::faultyText, x -> x.fault() + x.album(), 11 + STATE);
    }

    private static void refusedInANewObject() {
        changesNothing("album()", AgingStamps::new, x -> x.album(), STATE);
        changesNothing("undo()", AgingStamps::new, x -> x.undo(), STATE);
        changesNothing("again(0)", AgingStamps::new, x -> x.again(0), STATE);
        changesNothing("again(1)", AgingStamps::new, x -> x.again(1), STATE);
        changesNothing("stick(0, 0)", AgingStamps::new, x -> x.stick(0, 0), UNKNOWN);
        changesNothing("send(0)", AgingStamps::new, x -> x.send(0), UNKNOWN);
        changesNothing("part(0, 0)", AgingStamps::new, x -> x.part(0, 0), UNKNOWN);
        changesNothing("see(0, 0, 0)", AgingStamps::new, x -> x.see(0, 0, 0), UNKNOWN);
        changesNothing("write(max)", AgingStamps::new, x -> x.write(MAX), OUTSIDE);
    }

    /** "In what follows nothing is changed": what is only asked; YEARS changes THE SEED alone. */
    private static void askedChangesNothing() {
        refused("fault()", x -> x.fault(), AgingStamps.NONE);
        // 61 of 84 and a widow; 12 of 99, and a widow when that one is dead, after 8 weeks.
        refused("lives(0)", x -> x.lives(0), 8);
        refused("lives(1)", x -> x.lives(1), 35);
        refused("lives(3)", x -> x.lives(3), AgingStamps.NONE);
        refused("comes(1, 10)", x -> x.comes(1, 10), AgingStamps.NONE);
        refused("comes(2, 8): a forged one", x -> x.comes(2, 8), AgingStamps.NONE);
        refused("comes(2, 2)", x -> x.comes(2, 2), 1);
        refused("fewest(2)", x -> x.fewest(2), 2);
        refused("fewest(3)", x -> x.fewest(3), AgingStamps.NONE);
        refused("block(0)", x -> x.block(0), 31);
        refused("judge(4, ..)", x -> x.judge(4, 112202301000L), AgingStamps.NONE);
        refused("judge(3, ..)", x -> x.judge(3, 301112130L), 2);
        // Span 99, alive 10 and not alive 40 weeks after: 60, 70, 80.
        refused("bought(1)", x -> x.bought(1), 64 + 128 + 256);
        // Good for 5, 3, 1: 1 of 3, 1 of 6 and 1 of 3.
        refused("share(1, true)", x -> x.share(1, true), 5);
        refused("rests(1, 2, 1, 0)", x -> x.rests(1, 2, 1, 0), 2);
        refused("born(1, 5, false)", x -> x.born(1, 5, false), 2);
        refused("seed(77)", x -> x.seed(77), 77);
        refused("years(30), seed(77)", x -> x.years(30) * 0 + x.seed(77) * 0, 0);
    }

    private static void fraction(String name, int above, int below, int wantAbove, int wantBelow) {
        due.is(name + ", above", above, wantAbove);
        due.is(name + ", below", below, wantBelow);
    }

    private static void share(AgingStamps x, int stamp, int above, int below) {
        fraction("share(" + stamp + ")", x.share(stamp, true), x.share(stamp, false), above, below);
    }

    private static void born(AgingStamps x, int m, int tenths, int above, int below) {
        fraction("born(" + m + ", " + tenths + ")", x.born(m, tenths, true), x.born(m, tenths, false), above, below);
    }

    /** "FRACTIONS are told above (upper = true), below (1 and more), in least terms". */
    private static void fractionsInLeastTerms() {
        // Nothing is 0 over 1, not over how many orders or ways there are.
        share(Due.album("AS003S000S000S000S000L11"), 0, 0, 1);
        born(Due.album("AS000S000S000J01J12"), 3, 5, 0, 1);
        // Whole numbers are over 1.
        share(Due.album("AS000L12"), 0, 1, 1);
        share(Due.album("AS000L11L12L12L12"), 0, 4, 1);
        born(Due.album("AS000S000J01"), 1, 10, 1, 1);
        // 60 of 120 orders, 24 of 120; 25 of 100, 50 of 100 ways; and some with nothing to cut.
        share(Due.album("AS000S000S003S003S003L12"), 0, 1, 2);
        share(Due.album("AS000S000S000S000S000L19"), 4, 1, 5);
        born(Due.album("AS000S000S000J01J12"), 2, 5, 1, 4);
        born(Due.album("AS000S000S000J01J12"), 1, 5, 1, 2);
        born(Due.album("AS000S000S000J01J12"), 2, 3, 9, 100);
        // More than 1: each of two letters by the half.
        share(Due.album("AS000S000L11L12L11"), 1, 3, 2);
    }

    /** "refusals of them are told likewise": above and below alike. */
    private static void refusalsOfFractions() {
        AgingStamps x = fullPost();
        int[] noStamps = {-1, 5, MIN, MAX};
        for (int stamp : noStamps) {
            fraction("share(" + stamp + ")", x.share(stamp, true), x.share(stamp, false), UNKNOWN, UNKNOWN);
        }
        int[] noChildren = {-1, 10, MIN, MAX};
        for (int m : noChildren) {
            born(x, m, 0, OUTSIDE, OUTSIDE);
            born(x, m, 11, OUTSIDE, OUTSIDE);
        }
        int[] noTenths = {-1, 11, MIN, MAX};
        for (int tenths : noTenths) {
            born(x, 0, tenths, OUTSIDE, OUTSIDE);
            born(x, 9, tenths, OUTSIDE, OUTSIDE);
        }
    }
}
