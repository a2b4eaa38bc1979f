import java.math.BigInteger;

/** The edges of SHARE, RESTS, BORN and YEARS in part 3, and of promises 22 to 26; a sentence, a test. */
public final class ChancesEdgesTest {
    private static final int UNKNOWN = AgingStamps.UNKNOWN, OUTSIDE = AgingStamps.OUTSIDE, STATE = AgingStamps.STATE;
    private static final int MIN = Integer.MIN_VALUE, MAX = Integer.MAX_VALUE;
    private static final String FIVE = "AS000S000S000S000S000";
    private static final BigInteger FACTOR = new BigInteger("6364136223846793005");
    private static final BigInteger MORE = new BigInteger("1442695040888963407");
    private static final Due due = new Due();

    public static void main(String[] args) {
        shareAtWhatItCosts();
        shareOfOneAndOfFive();
        shareOfThoseAlive();
        shareOfLettersNotSent();
        shareRefused();
        restsByThreeCut();
        restsForOneNotAlive();
        restsOfAllRates();
        restsRefused();
        bornFromNoneToNine();
        bornOfThoseAlive();
        bornRefused();
        seedOfAllLongs();
        seedWraps();
        yearsFromOneToThirty();
        yearsOfNoneToNineWeeks();
        yearsByUpperBits();
        yearsWhenDamp();
        yearsChangeTheSeedAlone();
        due.end();
    }

    private static void share(AgingStamps x, int stamp, int above, int below) {
        due.is("share above of " + stamp, x.share(stamp, true), above);
        due.is("share below of " + stamp, x.share(stamp, false), below);
    }

    /** "cost no more than what those that have come .. are good for together": 1 less, just that, 1 more. */
    private static void shareAtWhatItCosts() {
        // Alone, good for 5: of 4 and 5, not of 6.
        share(Due.album("AS690L14"), 0, 1, 1);
        share(Due.album("AS690L15"), 0, 1, 1);
        share(Due.album("AS690L16"), 0, 0, 1);
        share(Due.album("AS690L14L15L16"), 0, 2, 1);
        // Good for 3 and 2.
        share(Due.album("AS390S000L12"), 0, 1, 2);
        share(Due.album("AS390S000L13"), 0, 1, 1);
        share(Due.album("AS390S000L13"), 1, 0, 1);
        share(Due.album("AS390S000L14"), 1, 1, 2);
        share(Due.album("AS390S000L15"), 0, 1, 2);
        share(Due.album("AS390S000L16"), 0, 0, 1);
        // Good for 9 and 9: a letter of 9 by whichever comes first.
        share(Due.album("AS792S792L19"), 1, 1, 2);
    }

    /** "in each order as likely": of one, and of five with 120 orders. */
    private static void shareOfOneAndOfFive() {
        share(Due.album("AS000"), 0, 0, 1);
        share(Due.album("AS000L11L11L11L11"), 0, 4, 1);
        AgingStamps x = Due.album(FIVE + "L11L13L18L19");
        for (int s = 0; s < 5; s++) {
            share(x, s, 4, 5);
        }
        // Good for 9, 1, 1, 1, 1, it costs 9: 1 is never the one that makes it.
        AgingStamps y = Due.album("AS792S001S001S001S001L19");
        share(y, 0, 1, 1);
        share(y, 1, 0, 1);
        // It costs 4: the old one makes it, but if it is last of all, which it is in 1 of 5 orders;
        // then whichever child is the fourth.
        AgingStamps z = Due.album("AS792S001S001S001S001L14");
        share(z, 0, 4, 5);
        share(z, 4, 1, 20);
    }

    /** "and are alive": at the last WEEK and a WEEK later; stuck or not. */
    private static void shareOfThoseAlive() {
        AgingStamps x = Due.album("AS500S001L14L11");
        Due.weeks(x, 9);
        share(x, 0, 3, 2);
        share(x, 1, 1, 2);
        x.stick(0, 1);
        share(x, 0, 3, 2);
        x.week();
        share(x, 0, 0, 1);
        share(x, 1, 1, 1);
        share(Due.album("AS600S600L11"), 1, 0, 1);
        share(Due.album("AS003S000L12"), 0, 0, 1);
    }

    /** "LETTERS that are not sent": not on their way, nor come, nor DEAD. */
    private static void shareOfLettersNotSent() {
        AgingStamps x = Due.album("AS500S001L94L11L11L19");
        x.week();
        share(x, 1, 1, 1);
        x.stick(0, 0);
        x.send(0);
        share(x, 0, 1, 1);
        x.stick(1, 1);
        x.send(1);
        due.is("good for 4 and 1: one letter of 1 is left", x.share(1, false), 2);
        Due.weeks(x, 9);
        due.is("dead", x.letter(0, 4), 3);
        due.is("come", x.letter(1, 4), 2);
        share(x, 0, 0, 1);
        share(x, 1, 1, 1);
    }

    private static void shareRefused() {
        AgingStamps x = Due.album(FIVE + "L11");
        int[] unknown = {-1, 5, MIN, MAX};
        for (int stamp : unknown) {
            share(x, stamp, UNKNOWN, UNKNOWN);
        }
        share(x, 4, 1, 5);
        share(Due.album("AL11"), 0, UNKNOWN, UNKNOWN);
    }

    private static void rests(AgingStamps x, int one, int other, int many, int first) {
        String who = "rests of " + one + " and " + other;
        due.is(who, x.rests(one, other, 0, 0), many);
        due.is(who + ", the first", x.rests(one, other, 0, 1), first);
    }

    /** "less the WEEKS on its way by 3 (cut)": 2 and 3, 5 and 6, 8 and 9; "has more" is not "as much". */
    private static void restsByThreeCut() {
        // Rate 1: alone 1 (2 weeks), 0 (3, 5 weeks), -1 (6 weeks).
        AgingStamps x = Due.album("AS001L21L31L51L61");
        rests(x, 0, 1, 2, 1);
        rests(x, 0, 2, 2, 1);
        rests(x, 0, 3, 1, 10);
        rests(x, 1, 2, 3, 0);
        rests(x, 1, 3, 2, 0);
        rests(x, 3, 1, 2, 0);
        rests(x, 3, 0, 1, 1);
        // Rate 3: alone 3 (1, 2 weeks), 2 (3), 0 (9): both at 3 have 0, as much as with none.
        AgingStamps y = Due.album("AS390L11L21L31L91");
        rests(y, 0, 1, 3, 1);
        rests(y, 0, 2, 2, 1);
        rests(y, 2, 0, 2, 1);
        rests(y, 0, 3, 2, 1);
        // Rate 6: alone 6, 4, 4, 3: all take it; at 3 as much with none.
        AgingStamps z = Due.album("AS492L11L61L81L91");
        rests(z, 0, 1, 1, 11);
        rests(z, 1, 2, 1, 11);
        rests(z, 0, 3, 2, 10);
        rests(z, 3, 0, 2, 1);
        // Rate 0: alone 0 (2 weeks), -1, -2 and -3: nobody takes it, but one may for as much.
        AgingStamps forged = Due.album("AS003L21L31L61L91");
        rests(forged, 1, 2, 1, 0);
        rests(forged, 2, 3, 1, 0);
        rests(forged, 0, 3, 2, 0);
    }

    /** "it has the RATE of the STAMP": nothing is said of its life, so a dead one has its RATE. */
    private static void restsForOneNotAlive() {
        // Age 59 of a span of 60: rate 4, alone 4 and 2; in a week it is dead, with rate 5, alone 5 and 3.
        AgingStamps x = Due.album("AS500L11L61");
        Due.weeks(x, 9);
        due.is("alive", x.stamp(0, 5), 1);
        rests(x, 0, 1, 1, 10);
        x.week();
        due.is("not alive", x.stamp(0, 5), 0);
        rests(x, 0, 1, 2, 10);
    }

    /** All rates and ways; alone one has a, the other b, and 3 less if both take it. */
    private static void restsOfAllRates() {
        String[] byRate = {"S003", "S001", "S092", "S192", "S292", "S392", "S492", "S592", "S692", "S792"};
        for (int rate = 0; rate <= 9; rate++) {
            for (int one = 1; one <= 9; one++) {
                for (int other = 1; other <= 9; other++) {
                    AgingStamps x = Due.album("AL" + one + "1" + byRate[rate] + "L" + other + "1");
                    due.is("rate", x.stamp(0, 4), rate);
                    restsOf(x, rate - one / 3, rate - other / 3);
                }
            }
        }
    }

    private static void restsOf(AgingStamps x, int a, int b) {
        boolean[] rests = {a <= 0 && b <= 0, b >= 0 && a <= 3, a >= 0 && b <= 3, a >= 3 && b >= 3};
        int[] told = {0, 1, 10, 11};
        int many = 0;
        int first = AgingStamps.NONE;
        for (int i = 3; i >= 0; i--) {
            many += rests[i] ? 1 : 0;
            first = rests[i] ? told[i] : first;
        }
        rests(x, 0, 1, many, first);
    }

    /** "UNKNOWN: one, other, stamp; OUTSIDE: both are one, what; STATE: one is sent". */
    private static void restsRefused() {
        AgingStamps x = Due.album("AS500S001L94L11L11L11");
        int[] noLetters = {-1, 4, MIN, MAX};
        for (int letter : noLetters) {
            due.is("one " + letter, x.rests(letter, 0, 0, 0), UNKNOWN);
            due.is("other " + letter, x.rests(0, letter, 0, 0), UNKNOWN);
            due.is("both " + letter, x.rests(letter, letter, 0, 0), UNKNOWN);
        }
        int[] noStamps = {-1, 2, MIN, MAX};
        for (int stamp : noStamps) {
            due.is("stamp " + stamp, x.rests(0, 1, stamp, 0), UNKNOWN);
        }
        int[] noWhat = {-1, 2, MIN, MAX};
        for (int what : noWhat) {
            due.is("what " + what, x.rests(0, 1, 0, what), OUTSIDE);
        }
        for (int letter = 0; letter < 4; letter++) {
            due.is("both are one", x.rests(letter, letter, 0, 0), OUTSIDE);
            due.is("both are one", x.rests(letter, letter, 0, 1), OUTSIDE);
        }
        x.week();
        x.stick(0, 0);
        x.stick(1, 1);
        // Rate 4: alone 1 and 4.
        due.is("stuck, but not sent", x.rests(0, 1, 0, 0), 1);
        due.is("stuck, but not sent", x.rests(0, 1, 0, 1), 1);
        x.send(0);
        x.send(1);
        sentOnes(x);
        Due.weeks(x, 9);
        due.is("dead", x.letter(0, 4), 3);
        due.is("come", x.letter(1, 4), 2);
        sentOnes(x);
        due.is("the others are not", x.rests(2, 3, 1, 1), 1);
    }

    private static void sentOnes(AgingStamps x) {
        int[] sent = {0, 1};
        for (int letter : sent) {
            due.is("one is sent", x.rests(letter, 2, 1, 0), STATE);
            due.is("the other is sent", x.rests(2, letter, 1, 1), STATE);
        }
        due.is("both are sent", x.rests(0, 1, 1, 0), STATE);
    }

    private static BigInteger choose(int n, int m) {
        BigInteger ways = BigInteger.ONE;
        for (int i = 1; i <= m; i++) {
            ways = ways.multiply(BigInteger.valueOf(n - m + i)).divide(BigInteger.valueOf(i));
        }
        return ways;
    }

    /** "by x tenths (0 to 10) .. m children (0 to 9)": of no pair to nine pairs, all x, all m. */
    private static void bornFromNoneToNine() {
        String[] joins = {"J01", "J02", "J03", "J04", "J12", "J13", "J14", "J23", "J24"};
        StringBuilder text = new StringBuilder(FIVE);
        for (int pairs = 0; pairs <= 9; pairs++) {
            AgingStamps x = Due.album(text.toString());
            for (int tenths = 0; tenths <= 10; tenths++) {
                for (int m = 0; m <= 9; m++) {
                    bornOf(x, pairs, m, tenths);
                }
            }
            text.append(pairs < 9 ? joins[pairs] : "");
        }
    }

    private static void bornOf(AgingStamps x, int pairs, int m, int tenths) {
        BigInteger below = BigInteger.TEN.pow(pairs);
        BigInteger above = m > pairs ? BigInteger.ZERO : choose(pairs, m)
            .multiply(BigInteger.valueOf(tenths).pow(m)).multiply(BigInteger.valueOf(10 - tenths).pow(pairs - m));
        BigInteger divisor = above.gcd(below);
        String name = "born " + m + " of " + pairs + " pairs by " + tenths;
        due.is(name + ", above", x.born(m, tenths, true), above.divide(divisor).longValueExact());
        due.is(name + ", below", x.born(m, tenths, false), below.divide(divisor).longValueExact());
    }

    /** "each two STAMPS that are JOINED and alive": both; forged ones and children too. */
    private static void bornOfThoseAlive() {
        AgingStamps x = Due.album("AS500S001S003S600J01J12J23J30");
        due.is("two pairs", x.born(2, 5, false), 4);
        Due.weeks(x, 3);
        // 0 is a widow of 59 then; a week later it is dead.
        due.is("two pairs still", x.born(2, 5, false), 4);
        x.week();
        due.is("one pair", x.born(2, 5, true), 0);
        due.is("one pair", x.born(1, 5, false), 2);
        x.part(1, 2);
        due.is("no pair", x.born(1, 5, true), 0);
        due.is("no pair, no children", x.born(0, 5, true), 1);
        due.is("no pair, no children", x.born(0, 5, false), 1);
    }

    private static void bornRefused() {
        AgingStamps x = Due.album("AS000S000J01");
        int[] noChildren = {-1, 10, 11, MIN, MAX};
        for (int m : noChildren) {
            due.is("m = " + m, x.born(m, 5, true), OUTSIDE);
            due.is("m = " + m, x.born(m, 5, false), OUTSIDE);
        }
        int[] noTenths = {-1, 11, 12, MIN, MAX};
        for (int tenths : noTenths) {
            due.is("x = " + tenths, x.born(1, tenths, true), OUTSIDE);
            due.is("x = " + tenths, x.born(1, tenths, false), OUTSIDE);
        }
        due.is("m = 0, x = 0", x.born(0, 0, true), 1);
        due.is("m = 9, x = 10", x.born(9, 10, true), 0);
        due.is("m = 9, x = 10", x.born(9, 10, false), 1);
    }

    /** "THE SEED, a long; 0 at first"; "THE SEED is v: what it was". */
    private static void seedOfAllLongs() {
        AgingStamps x = new AgingStamps();
        long[] seeds = {1, -1, Long.MAX_VALUE, Long.MIN_VALUE, 1L << 32, 0, -9};
        long was = 0;
        for (long seed : seeds) {
            due.is("seed(" + seed + ")", x.seed(seed), was);
            was = seed;
        }
        due.is("the last one", x.seed(0), -9);
    }

    private static BigInteger next(long seed) {
        return BigInteger.valueOf(seed).multiply(FACTOR).add(MORE).mod(BigInteger.ONE.shiftLeft(64));
    }

    /** "x times 6364136223846793005 and 1442695040888963407 (64 bits, wrapping)". */
    private static void seedWraps() {
        long[] seeds = {0, 1, 2, -1, -2, Long.MAX_VALUE, Long.MIN_VALUE, Long.MAX_VALUE - 1, Long.MIN_VALUE + 1,
            1L << 32, -(1L << 33), 4611686018427387904L};
        AgingStamps x = Due.album("AS000");
        for (long seed : seeds) {
            x.seed(seed);
            x.years(1);
            due.is("next of " + seed, x.seed(0), next(seed).longValue());
        }
        // The first ones without a wrap and with one, as figures.
        x.seed(0);
        x.years(1);
        due.is("next of 0", x.seed(0), 1442695040888963407L);
        x.seed(1);
        x.years(1);
        due.is("next of 1", x.seed(0), 7806831264735756412L);
        x.seed(2);
        x.years(1);
        due.is("next of 2", x.seed(0), -4275776585127002199L);
    }

    /** "m times (1 to 30)": THE SEED is another m times; of five that live for ever 5 to 150. */
    private static void yearsFromOneToThirty() {
        int[] outside = {0, -1, 31, 32, MIN, MAX};
        AgingStamps x = Due.album("AS003S003S003S003S003");
        for (int m : outside) {
            x.seed(5);
            due.is("years(" + m + ")", x.years(m), OUTSIDE);
            due.is("the seed stays", x.seed(5), 5);
        }
        for (int m = 1; m <= 30; m++) {
            x.seed(5);
            due.is("years(" + m + ")", x.years(m), 5 * m);
            long seed = 5;
            for (int i = 0; i < m; i++) {
                seed = next(seed).longValue();
            }
            due.is("the seed after " + m, x.seed(0), seed);
        }
        due.is("none alive", Due.album("AS600S603").years(30), 0);
        due.is("no stamps", Due.album("A").years(1), 0);
    }

    /** One that has so many WEEKS to live (1 to 19): is it alive after the told WEEKS of one time? */
    private static int aliveAfter(int weeks, int life, boolean damp) {
        AgingStamps x = Due.album("AS530");
        Due.weeks(x, 19 - life);
        due.is("life", x.lives(0), life);
        if (damp) {
            x.damp();
        }
        x.seed(Due.seedFor(weeks));
        return x.years(1);
    }

    /** "so many WEEKS go by, of which the last one is damp, if it is odd": 0 to 9. */
    private static void yearsOfNoneToNineWeeks() {
        int[] older = {0, 2, 2, 4, 4, 6, 6, 8, 8, 10};
        for (int weeks = 0; weeks <= 9; weeks++) {
            due.is(weeks + " weeks, a week more to live", aliveAfter(weeks, older[weeks] + 1, false), 1);
            if (older[weeks] > 0) {
                due.is(weeks + " weeks, just so many to live", aliveAfter(weeks, older[weeks], false), 0);
            }
        }
    }

    /** "the others are as it is now": in a damp time each WEEK is, and the last one no more than that. */
    private static void yearsWhenDamp() {
        for (int weeks = 0; weeks <= 9; weeks++) {
            due.is(weeks + " damp weeks, a week more to live", aliveAfter(weeks, 2 * weeks + 1, true), 1);
            if (weeks > 0) {
                due.is(weeks + " damp weeks, just so many to live", aliveAfter(weeks, 2 * weeks, true), 0);
            }
        }
    }

    /** "its upper 31 bits by 10, what is left": for seeds whose next one is less than 0 as well. */
    private static void yearsByUpperBits() {
        int below = 0;
        for (long seed = -60; seed < 60; seed++) {
            BigInteger next = next(seed * 1234567890123457L);
            below += next.longValue() < 0 ? 1 : 0;
            int weeks = next.shiftRight(33).mod(BigInteger.TEN).intValue();
            int older = weeks + weeks % 2;
            // 1, 4, 7, 10 and 13 weeks to live.
            AgingStamps x = Due.album("AS500S510S520S530S540");
            Due.weeks(x, 9);
            x.seed(seed * 1234567890123457L);
            int alive = 0;
            for (int life = 1; life <= 13; life += 3) {
                alive += life > older ? 1 : 0;
            }
            due.is("alive after " + weeks, x.years(1), alive);
        }
        due.is("both signs", below > 20 && below < 100 ? 1 : 0, 1);
    }

    /** "(Nothing changes but THE SEED.)" */
    private static void yearsChangeTheSeedAlone() {
        AgingStamps x = alivePost();
        due.is("years", x.years(30) > 0 ? 1 : 0, 1);
        due.is("the seed is another", x.seed(9) == 9 ? 1 : 0, 0);
        due.same("all else", Everything.of(x), Everything.of(alivePost()));
    }

    private static AgingStamps alivePost() {
        AgingStamps x = Due.album("AS390S600S003J01L94L93");
        x.week();
        x.keep(1);
        x.stick(0, 1);
        x.send(1);
        x.see(0, 9, 1);
        x.damp();
        x.seed(9);
        return x;
    }
}
