/** Promises 22 to 26: share, rests, born, seed, years. */
public final class ChancesTest {
    private static final Due due = new Due();

    public static void main(String[] args) {
        shares();
        rests();
        births();
        seeds();
        years();
        yearsOneAfterAnother();
        yearsChangeNothing();
        due.end();
    }

    private static void share(AgingStamps x, int stamp, int above, int below) {
        due.is("share above of " + stamp, x.share(stamp, true), above);
        due.is("share below of " + stamp, x.share(stamp, false), below);
    }

    private static void shares() {
        // Good for 3, 3, 1, and a dead and a forged one for nothing.
        AgingStamps x = Due.album("AS390S390S001S600S003L13L16L91");
        // Letter of 3: 1/2 each of the first two, of 6 the same;
        // letter of 1: whichever of the three is first.
        share(x, 0, 4, 3);
        share(x, 1, 4, 3);
        share(x, 2, 1, 3);
        share(x, 3, 0, 1);
        share(x, 4, 0, 1);
        x.stick(0, 1);
        x.stick(1, 1);
        share(x, 0, 4, 3);
        x.send(1);
        share(x, 0, 5, 6);
        share(x, 2, 1, 3);
        due.is("unknown", x.share(5, true), AgingStamps.UNKNOWN);
        due.is("unknown", x.share(-1, false), AgingStamps.UNKNOWN);
        AgingStamps alone = Due.album("AS390L13L13L14");
        share(alone, 0, 2, 1);
        AgingStamps none = Due.album("AS390");
        share(none, 0, 0, 1);
    }

    private static void rest(AgingStamps x, int[] who, int many, int first) {
        due.is("rests", x.rests(who[0], who[1], who[2], 0), many);
        due.is("first rest", x.rests(who[0], who[1], who[2], 1), first);
    }

    private static void rests() {
        // RATE 5, 2, 0, 1, 9; on the way 9 (by 3: 3), 2 (0), 6 (2), 5 (1).
        AgingStamps x = Due.album("AS690S090S003S001S992L99L21L61L51");
        rest(x, new int[] {0, 1, 4}, 1, 11);
        // 5 - 3 = 2 and 5 - 0 = 5: alone 2, 5; both -1, 2.
        rest(x, new int[] {0, 1, 0}, 1, 1);
        rest(x, new int[] {1, 0, 0}, 1, 10);
        // 5 - 2 = 3 and 5: both 0, 2: the one has as much either way.
        rest(x, new int[] {2, 1, 0}, 2, 1);
        // 2 - 3 = -1 and 2 - 2 = 0.
        rest(x, new int[] {0, 2, 1}, 2, 0);
        // -3 and -2: neither takes it.
        rest(x, new int[] {0, 2, 2}, 1, 0);
        // 0 and -1: the one has as much either way.
        rest(x, new int[] {1, 3, 2}, 2, 0);
        // 1 and 0, both -2 and -3.
        rest(x, new int[] {1, 3, 3}, 2, 1);
        due.is("unknown one", x.rests(4, 0, 0, 0), AgingStamps.UNKNOWN);
        due.is("unknown other", x.rests(0, 4, 0, 0), AgingStamps.UNKNOWN);
        due.is("unknown stamp", x.rests(0, 0, 5, 9), AgingStamps.UNKNOWN);
        due.is("both are one", x.rests(1, 1, 0, 0), AgingStamps.OUTSIDE);
        due.is("what", x.rests(0, 1, 0, 2), AgingStamps.OUTSIDE);
        due.is("what", x.rests(0, 1, 0, -1), AgingStamps.OUTSIDE);
        x.stick(0, 1);
        x.send(1);
        due.is("one is sent", x.rests(0, 1, 0, 0), AgingStamps.STATE);
        due.is("one is sent", x.rests(1, 0, 0, 1), AgingStamps.STATE);
        due.is("outside first", x.rests(1, 0, 0, 2), AgingStamps.OUTSIDE);
    }

    private static void born(AgingStamps x, int m, int tenths, int above, int below) {
        due.is("born above " + m + ", " + tenths, x.born(m, tenths, true), above);
        due.is("born below " + m + ", " + tenths, x.born(m, tenths, false), below);
    }

    private static void births() {
        AgingStamps x = Due.album("AS000S000S003S600J01J12J20J03");
        born(x, 0, 0, 1, 1);
        born(x, 1, 0, 0, 1);
        born(x, 3, 10, 1, 1);
        born(x, 2, 10, 0, 1);
        born(x, 0, 1, 729, 1000);
        born(x, 1, 1, 243, 1000);
        born(x, 2, 1, 27, 1000);
        born(x, 3, 1, 1, 1000);
        born(x, 4, 1, 0, 1);
        born(x, 9, 10, 0, 1);
        born(x, 1, 5, 3, 8);
        due.is("m", x.born(-1, 0, true), AgingStamps.OUTSIDE);
        due.is("m", x.born(10, 0, false), AgingStamps.OUTSIDE);
        due.is("x", x.born(0, -1, true), AgingStamps.OUTSIDE);
        due.is("x", x.born(0, 11, false), AgingStamps.OUTSIDE);
        AgingStamps many = Due.album("AS000S000S000S000S000J01J02J03J04J12J13J14J23J24");
        born(many, 9, 1, 1, 1000000000);
        // 126 times 81 times 16807 of 1000000000.
        born(many, 4, 3, 85766121, 500000000);
        born(many, 9, 10, 1, 1);
        born(new AgingStamps(), 0, 7, 1, 1);
    }

    private static void seeds() {
        AgingStamps x = new AgingStamps();
        due.is("seed at first", x.seed(Long.MIN_VALUE), 0);
        due.is("seed", x.seed(-1), Long.MIN_VALUE);
        due.is("seed", x.seed(Long.MAX_VALUE), -1);
        due.is("seed", x.seed(0), Long.MAX_VALUE);
    }

    private static int alive(AgingStamps x, int figure) {
        x.seed(Due.seedFor(figure));
        return x.years(1);
    }

    private static void years() {
        AgingStamps x = Due.album("AS500S500S500S003S600");
        Due.weeks(x, 6);
        // Ages 56: dead after 4 weeks; a forged one is always alive.
        due.is("0 weeks", alive(x, 0), 4);
        due.is("2 weeks", alive(x, 2), 4);
        due.is("3 weeks, the last one damp: 60", alive(x, 3), 1);
        due.is("4 weeks", alive(x, 4), 1);
        x.undo();
        due.is("3 weeks, the last one damp: 59", alive(x, 3), 4);
        due.is("4 weeks: 59", alive(x, 4), 4);
        x.undo();
        x.undo();
        x.damp();
        // Age 53 in a damp time.
        due.is("2 damp weeks: 57", alive(x, 2), 4);
        due.is("3 damp weeks: 59", alive(x, 3), 4);
        due.is("4 damp weeks: 61", alive(x, 4), 1);
        due.is("m", x.years(0), AgingStamps.OUTSIDE);
        due.is("m", x.years(31), AgingStamps.OUTSIDE);
        due.is("m", x.years(-5), AgingStamps.OUTSIDE);
        due.is("no stamps", new AgingStamps().years(30), 0);
    }

    /** What years answers of an album by the seed 0: 7, 4, 7, 6, 5, 1, 4, 5, 4, 9, 3 weeks and so on. */
    private static void yearsOf(String album, int m, int want) {
        due.is("years " + m + " of " + album, Due.album(album).years(m), want);
    }

    private static void yearsOneAfterAnother() {
        yearsOf("AS500", 1, 1);
        // 58, then 62: alive the first time only.
        yearsOf("AS500", 2, 1);
        // The second time is dry again: 62 is less than 63, and the third time 70 is not.
        yearsOf("AS510", 2, 2);
        yearsOf("AS510", 3, 2);
        // 8, 12, 20, 26, 32, 34, 38, 44, 48, 58, 62.
        yearsOf("AS000", 10, 10);
        yearsOf("AS000", 30, 10);
        yearsOf("AS003", 30, 30);
        yearsOf("AS003S600", 30, 30);
        // The first is 60 in the second week of the second time; the other one, a widow
        // since then, is 8, 18, 40, 58 and dies in the fifth time.
        yearsOf("AS500S000J01", 4, 5);
        yearsOf("AS500S000J01", 30, 5);
        AgingStamps x = Due.album("AS000");
        x.damp();
        // 14, 22, 36, 48, 58, 60.
        due.is("damp years", x.years(30), 5);
        due.is("it is damp still", x.count(4), 1);
    }

    private static void yearsChangeNothing() {
        AgingStamps x = Due.album("AS500S000S003J01L91");
        x.stick(1, 0);
        x.send(0);
        x.week();
        x.keep(0);
        // 51, 59, 63 and 1, 9, then a widow.
        due.is("years", x.years(2), 5);
        due.is("seed after 2", x.seed(0), 1442695040888963407L * 6364136223846793005L + 1442695040888963407L);
        due.is("years by the same seed", x.years(2), 5);
        due.is("damp stays", x.count(4), 0);
        due.is("week stays", x.count(3), 1);
        due.is("age stays", x.stamp(0, 0), 51);
        due.is("age stays", x.stamp(1, 0), 1);
        due.is("all are alive still", x.count(5), 7);
        due.is("nobody is a widow", x.count(6), 0);
        due.is("letter stays", x.letter(0, 0), 8);
        due.is("letter is on its way", x.letter(0, 4), 1);
        due.is("acts stay", x.count(9), 3);
        due.is("what is kept stays", x.again(0), 1);
        due.is("age kept", x.stamp(0, 0), 51);
        // By a call of its own each time begins from now: 7 and then 4 weeks from 51.
        x.seed(0);
        due.is("years, a first call", x.years(1), 3);
        due.is("years, a call of its own", x.years(1), 3);
        long next = 3;
        x.seed(next);
        x.years(30);
        for (int i = 0; i < 30; i++) {
            next = next * 6364136223846793005L + 1442695040888963407L;
        }
        due.is("seed after 30", x.seed(0), next);
        x.years(31);
        due.is("seed after a refusal", x.seed(0), 0);
    }
}
