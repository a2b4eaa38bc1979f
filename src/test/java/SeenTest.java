/** Promises 19 to 21: see, unsee, bought. */
public final class SeenTest {
    private static final Due due = new Due();

    public static void main(String[] args) {
        seeing();
        buying();
        stampsThatAreGone();
        due.end();
    }

    private static void seeing() {
        AgingStamps x = Due.album("AS000S000");
        due.is("unknown", x.see(2, -1, 5), AgingStamps.UNKNOWN);
        due.is("unknown", x.see(-1, 0, 0), AgingStamps.UNKNOWN);
        due.is("n", x.see(0, -1, 0), AgingStamps.OUTSIDE);
        due.is("n", x.see(0, 100, 0), AgingStamps.OUTSIDE);
        due.is("alive", x.see(0, 0, 2), AgingStamps.OUTSIDE);
        due.is("alive", x.see(0, 0, -1), AgingStamps.OUTSIDE);
        for (int i = 1; i <= 6; i++) {
            due.is("see " + i, x.see(i % 2, i == 1 ? 99 : 0, 1), i);
        }
        due.is("full", x.see(0, 0, 0), AgingStamps.FULL);
        due.is("outside ahead of full", x.see(0, 100, 0), AgingStamps.OUTSIDE);
        due.is("count", x.count(10), 6);
        due.is("no acts", x.count(9), 0);
        due.is("unsee", x.unsee(), 6);
        due.is("unsee again", x.unsee(), 0);
        due.is("see anew", x.see(0, 0, 1), 1);
    }

    private static void buying() {
        // Spans: 60, 70, 75, 60 (forged).
        AgingStamps x = Due.album("AS000S901S002S903L11");
        due.is("nothing seen", x.bought(0), 1023);
        due.is("unknown", x.bought(4), AgingStamps.UNKNOWN);
        due.is("unknown", x.bought(-1), AgingStamps.UNKNOWN);
        x.see(0, 10, 1);
        due.is("alive at 10: below 50", x.bought(0), 31);
        due.is("of another nothing is seen", x.bought(1), 1023);
        x.see(1, 10, 0);
        due.is("not at 10: 60 or more", x.bought(1), 1023 - 63);
        x.see(2, 5, 0);
        due.is("old, not at 5: 70 or more", x.bought(2), 1023 - 127);
        x.see(3, 50, 0);
        due.is("forged, never older", x.bought(3), 1023 - 63);
        x.see(0, 9, 1);
        due.is("alive at 9 tells no more", x.bought(0), 31);
        x.see(0, 21, 0);
        due.is("not at 21: 40", x.bought(0), 16);
        AgingStamps y = Due.album("AS010L11");
        y.see(0, 0, 1);
        due.is("span 63", y.bought(0), 127);
        y.stick(0, 0);
        due.is("span 60, as it is now", y.bought(0), 63);
        y.undo();
        due.is("undone: span 63", y.bought(0), 127);
        Due.weeks(y, 9);
        due.is("its age now is not looked at", y.bought(0), 127);
    }

    private static void stampsThatAreGone() {
        AgingStamps x = Due.album("AS000S000");
        x.see(1, 10, 1);
        Due.text(x, "AS000");
        x.album();
        due.is("still counted", x.count(10), 1);
        due.is("not looked at", x.bought(0), 1023);
        due.is("gone", x.bought(1), AgingStamps.UNKNOWN);
        Due.text(x, "AS000S091");
        x.album();
        due.is("of the stamp that there is now: span 97", x.bought(1), 511);
    }
}
