/** The edges of SEEN and BOUGHT in part 3, and of promises 19 to 21; a sentence, a test. */
public final class SeenEdgesTest {
    private static final int UNKNOWN = AgingStamps.UNKNOWN, OUTSIDE = AgingStamps.OUTSIDE, FULL = AgingStamps.FULL;
    private static final int MIN = Integer.MIN_VALUE, MAX = Integer.MAX_VALUE;
    private static final int ALL = 1023;
    private static final Due due = new Due();

    public static void main(String[] args) {
        noneAtFirst();
        weeksFromNoneTo99();
        aliveOrNot();
        sixAtMost();
        unknownStamps();
        unseen();
        boughtByOneSight();
        boughtByHand();
        boughtByAllThatIsSeen();
        boughtForged();
        asOneHasNow();
        notAnyMore();
        seenStays();
        due.end();
    }

    /** "none at first": and then each age may have been. */
    private static void noneAtFirst() {
        AgingStamps x = Due.album("AS000S901S002S603");
        due.is("none", x.count(10), 0);
        due.is("unsee nothing", x.unsee(), 0);
        for (int s = 0; s < 4; s++) {
            due.is("bought(" + s + ")", x.bought(s), ALL);
        }
    }

    /** "n WEEKS (0 to 99)". */
    private static void weeksFromNoneTo99() {
        AgingStamps x = Due.album("AS000");
        int[] outside = {-1, 100, 101, -99, MIN, MAX};
        for (int n : outside) {
            due.is("see(0, " + n + ", 0)", x.see(0, n, 0), OUTSIDE);
            due.is("see(0, " + n + ", 1)", x.see(0, n, 1), OUTSIDE);
        }
        due.is("none so far", x.count(10), 0);
        int[] inside = {0, 1, 98, 99};
        for (int i = 0; i < inside.length; i++) {
            due.is("see(0, " + inside[i] + ", 0)", x.see(0, inside[i], 0), i + 1);
        }
    }

    /** "alive (0, 1)". */
    private static void aliveOrNot() {
        AgingStamps x = Due.album("AS000");
        int[] outside = {-1, 2, 3, MIN, MAX};
        for (int alive : outside) {
            due.is("see(0, 0, " + alive + ")", x.see(0, 0, alive), OUTSIDE);
            due.is("see(0, 99, " + alive + ")", x.see(0, 99, alive), OUTSIDE);
        }
        due.is("none so far", x.count(10), 0);
        due.is("not alive", x.see(0, 0, 0), 1);
        due.is("alive", x.see(0, 0, 1), 2);
    }

    /** "6 such at most"; "FULL: 6": of all STAMPS together, like ones too. */
    private static void sixAtMost() {
        AgingStamps x = Due.album("AS000S000");
        for (int i = 1; i <= 6; i++) {
            due.is("see, " + i, x.see(i % 2, 50, 1), i);
            due.is("count, " + i, x.count(10), i);
        }
        due.is("a seventh", x.see(0, 50, 1), FULL);
        due.is("a seventh", x.see(1, 0, 0), FULL);
        due.is("six", x.count(10), 6);
        due.is("what the six tell", x.bought(0), 1);
        due.is("what the six tell", x.bought(1), 1);
    }

    private static void unknownStamps() {
        AgingStamps x = Due.album("AS000S000S000S000S000");
        int[] unknown = {-1, 5, MIN, MAX};
        for (int stamp : unknown) {
            due.is("see(" + stamp + ", 0, 0)", x.see(stamp, 0, 0), UNKNOWN);
            due.is("bought(" + stamp + ")", x.bought(stamp), UNKNOWN);
        }
        due.is("the last one", x.see(4, 50, 1), 1);
        due.is("the last one", x.bought(4), 1);
        due.is("of one there is no second", Due.album("AS000").see(1, 0, 0), UNKNOWN);
    }

    /** "Nothing is SEEN: how much there was": 0, 1, 6. */
    private static void unseen() {
        AgingStamps x = Due.album("AS000");
        due.is("nothing", x.unsee(), 0);
        x.see(0, 50, 1);
        due.is("one", x.unsee(), 1);
        due.is("each age again", x.bought(0), ALL);
        for (int i = 0; i < 6; i++) {
            x.see(0, 50, 1);
        }
        due.is("six", x.unsee(), 6);
        due.is("none", x.count(10), 0);
        due.is("each age again", x.bought(0), ALL);
        due.is("room again", x.see(0, 50, 0), 1);
        due.is("only the new one counts", x.bought(0), ALL - 1);
    }

    /** "tens of WEEKS (bits 0 to 9) .. a WEEK older each WEEK": each n, alive and not, each kind. */
    private static void boughtByOneSight() {
        int[] more = {0, 10, 15};
        for (int kind = 0; kind <= 2; kind++) {
            for (int health = 0; health <= 9; health += 3) {
                int span = 60 + 3 * health + more[kind];
                AgingStamps x = Due.album("AS0" + health + kind);
                for (int n = 0; n <= 99; n++) {
                    int alive = 0;
                    for (int tens = 0; tens <= 9; tens++) {
                        alive |= 10 * tens + n < span ? 1 << tens : 0;
                    }
                    boughtOf(x, n, 1, alive);
                    if (n % 10 == span % 10 || n == 99 || n == 0) {
                        boughtOf(x, n, 0, ALL - alive);
                    }
                }
            }
        }
    }

    private static void boughtOf(AgingStamps x, int n, int alive, int want) {
        x.unsee();
        x.see(0, n, alive);
        due.is("span " + x.stamp(0, 3) + ", " + n + " weeks, alive " + alive, x.bought(0), want);
    }

    /** Span 60: a WEEK ahead of an edge, at it, behind it; the first and the last bit. */
    private static void boughtByHand() {
        AgingStamps x = Due.album("AS000");
        boughtOf(x, 0, 1, 63);
        boughtOf(x, 0, 0, ALL - 63);
        boughtOf(x, 9, 1, 63);
        boughtOf(x, 10, 1, 31);
        boughtOf(x, 11, 1, 31);
        boughtOf(x, 49, 1, 3);
        boughtOf(x, 50, 1, 1);
        boughtOf(x, 59, 1, 1);
        boughtOf(x, 60, 1, 0);
        boughtOf(x, 59, 0, ALL - 1);
        boughtOf(x, 60, 0, ALL);
        boughtOf(x, 99, 1, 0);
        boughtOf(x, 99, 0, ALL);
        // The longest span there is, 102: bought at 90 it is alive 11 weeks after, not 12.
        AgingStamps old = Due.album("AS092");
        boughtOf(old, 11, 1, ALL);
        boughtOf(old, 12, 1, 511);
        boughtOf(old, 12, 0, 512);
        boughtOf(old, 11, 0, 0);
        boughtOf(old, 99, 1, 1);
        boughtOf(old, 99, 0, ALL - 1);
    }

    /** "so that all that is SEEN of it is so": several, of it alone, and what can not be at once. */
    private static void boughtByAllThatIsSeen() {
        AgingStamps x = Due.album("AS000S000");
        x.see(0, 20, 1);
        x.see(0, 30, 0);
        due.is("alive at 20, not at 30", x.bought(0), 8);
        due.is("of the other nothing is seen", x.bought(1), ALL);
        x.see(1, 20, 0);
        due.is("not at 20", x.bought(1), ALL - 15);
        due.is("that is not of it", x.bought(0), 8);
        x.see(0, 20, 0);
        due.is("alive and not at once", x.bought(0), 0);
        x.see(1, 21, 1);
        due.is("not at 20, but at 21", x.bought(1), 0);
        x.see(1, 0, 1);
        due.is("the sixth changes nothing of that", x.bought(1), 0);
    }

    /** "FORGED: never older". */
    private static void boughtForged() {
        AgingStamps x = Due.album("AS003S093S903");
        boughtOf(x, 0, 1, 63);
        boughtOf(x, 99, 1, 63);
        boughtOf(x, 99, 0, ALL - 63);
        x.see(0, 99, 1);
        due.is("alive and not at once", x.bought(0), 0);
        x.see(1, 99, 1);
        due.is("span 87", x.bought(1), 511);
        x.see(2, 99, 1);
        due.is("its age now is not looked at", x.bought(2), 63);
    }

    /** "a STAMP of HEALTH and KIND as one has now". */
    private static void asOneHasNow() {
        AgingStamps x = Due.album("AS010S000L11");
        x.see(0, 0, 1);
        due.is("span 63", x.bought(0), 127);
        x.stick(0, 0);
        due.is("span 60", x.bought(0), 63);
        x.undo();
        due.is("span 63", x.bought(0), 127);
        Due.weeks(x, 60);
        due.is("of 60 weeks", x.bought(0), 127);
        Due.text(x, "AS001S000");
        x.album();
        due.is("a child: span 70", x.bought(0), 127);
        Due.text(x, "AS042");
        x.album();
        due.is("an old one of 4: span 87", x.bought(0), 511);
        Due.text(x, "AS993");
        x.album();
        due.is("a forged one of 9: span 87", x.bought(0), 511);
    }

    /** "(of STAMPS that there are not any more nothing is looked at)". */
    private static void notAnyMore() {
        AgingStamps x = Due.album("AS000S000S000");
        x.see(2, 50, 1);
        x.see(1, 50, 0);
        x.see(0, 59, 1);
        Due.text(x, "AS000S000");
        x.album();
        due.is("seen is three still", x.count(10), 3);
        due.is("of 0", x.bought(0), 1);
        due.is("of 1", x.bought(1), ALL - 1);
        due.is("there is no 2", x.bought(2), UNKNOWN);
        due.is("nothing more of it", x.see(2, 50, 1), UNKNOWN);
        Due.text(x, "A");
        x.album();
        due.is("there is none", x.bought(0), UNKNOWN);
        due.is("seen is three still", x.count(10), 3);
        Due.text(x, "AS000S000S000");
        x.album();
        due.is("there is a 2 again", x.bought(2), 1);
        due.is("unsee", x.unsee(), 3);
    }

    /** SEEN is neither an ACT nor kept: undo and again leave it. */
    private static void seenStays() {
        AgingStamps x = Due.album("AS000");
        x.keep(0);
        x.week();
        x.see(0, 50, 1);
        due.is("one act", x.count(9), 1);
        x.undo();
        due.is("not undone", x.count(10), 1);
        x.again(0);
        due.is("not gone", x.count(10), 1);
        due.is("as it was seen", x.bought(0), 1);
        x.unsee();
        x.again(0);
        due.is("not back", x.count(10), 0);
    }
}
