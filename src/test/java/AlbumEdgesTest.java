/** The edges of part 1 that an ALBUM has, and of promises 1 to 7; a sentence, a test. */
public final class AlbumEdgesTest {
    private static final int UNKNOWN = AgingStamps.UNKNOWN, OUTSIDE = AgingStamps.OUTSIDE;
    private static final int STATE = AgingStamps.STATE, FULL = AgingStamps.FULL, NONE = AgingStamps.NONE;
    private static final int MIN = Integer.MIN_VALUE, MAX = Integer.MAX_VALUE;
    private static final String FIVE = "AS000S000S000S000S000";
    private static final String FIGURES = "0123456789";
    private static final Due due = new Due();

    public static void main(String[] args) {
        nothingAtFirst();
        lettersThatAreWritten();
        fortyEightAtMost();
        wiped();
        signsOfStampsAndLetters();
        signsOfJoins();
        signsWhenFull();
        faultWhateverCameBehind();
        faultIsItsLength();
        faultWithItsLengthSetAside();
        stampsAndLettersCounted();
        numberedEachForItself();
        madeAnew();
        staysAndGoes();
        onlyWritten();
        spans();
        aliveBelowItsSpan();
        rates();
        ratesWeekByWeek();
        whatOfAStamp();
        whatOfALetter();
        weeksOnItsWay();
        due.end();
    }

    /** "No stamps, no letters"; "At first there is nothing": every call of a new object. */
    private static void nothingAtFirst() {
        AgingStamps x = new AgingStamps();
        for (int what = 0; what <= 10; what++) {
            due.is("count(" + what + ")", x.count(what), 0);
        }
        due.is("wipe", x.wipe(), 0);
        due.is("fault", x.fault(), 0);
        due.is("album", x.album(), STATE);
        due.is("stamp", x.stamp(0, 0), UNKNOWN);
        due.is("letter", x.letter(0, 0), UNKNOWN);
        due.is("stick", x.stick(0, 0), UNKNOWN);
        due.is("send", x.send(0), UNKNOWN);
        due.is("part", x.part(0, 1), UNKNOWN);
        due.is("undo", x.undo(), STATE);
        due.is("lives", x.lives(0), UNKNOWN);
        due.is("comes", x.comes(0, 0), UNKNOWN);
        due.is("fewest", x.fewest(0), UNKNOWN);
        due.is("block", x.block(0), UNKNOWN);
        due.is("judge a week", x.judge(1, 0), NONE);
        due.is("judge to stick", x.judge(1, 100), 0);
        due.is("judge to send", x.judge(1, 200), 0);
        due.is("judge to part", x.judge(1, 301), 0);
        due.is("see", x.see(0, 0, 1), UNKNOWN);
        due.is("unsee", x.unsee(), 0);
        due.is("bought", x.bought(0), UNKNOWN);
        due.is("share", x.share(0, true), UNKNOWN);
        due.is("rests", x.rests(0, 1, 0, 0), UNKNOWN);
        due.is("born, above", x.born(0, 10, true), 1);
        due.is("born, below", x.born(0, 10, false), 1);
        due.is("years", x.years(30), 0);
        due.is("again", x.again(1), STATE);
        due.is("week", x.week(), 0);
        due.is("damp", x.damp(), 1);
        due.is("undo", x.undo(), 1);
        due.is("keep", x.keep(1), 1);
        due.is("again", x.again(1), 1);
        due.is("seed is 0 at first", new AgingStamps().seed(9), 0);
    }

    /** "A letter (0 to 255)"; "OUTSIDE". */
    private static void lettersThatAreWritten() {
        AgingStamps x = new AgingStamps();
        int[] outside = {-1, -2, 256, 257, 65 + 256, 65 - 256, MIN, MAX};
        for (int letter : outside) {
            due.is("write(" + letter + ")", x.write(letter), OUTSIDE);
        }
        int[] inside = {0, 1, 254, 255};
        for (int i = 0; i < inside.length; i++) {
            due.is("write(" + inside[i] + ")", x.write(inside[i]), i + 1);
        }
        due.is("letters", x.count(0), 4);
    }

    /** "THE TEXT is letters (48 at most)"; "FULL: there are 48". */
    private static void fortyEightAtMost() {
        AgingStamps x = new AgingStamps();
        String text = FIVE + "J01J02J03J04J12J13J14J23J24";
        for (int i = 0; i < 48; i++) {
            due.is("write to " + (i + 1), x.write(text.charAt(i)), i + 1);
        }
        due.is("a 49th", x.write('S'), FULL);
        due.is("a 49th", x.write(0), FULL);
        due.is("still 48", x.count(0), 48);
        due.is("the 48 are as they were", x.fault(), NONE);
        due.is("and an album", x.album(), 50);
        due.is("the last letter is there", x.stamp(4, 7), 7);
    }

    /** "THE TEXT is empty: how long it was": of 0, 1 and 48; THE ALBUM stays. */
    private static void wiped() {
        AgingStamps x = new AgingStamps();
        due.is("wipe nothing", x.wipe(), 0);
        x.write('A');
        due.is("wipe one", x.wipe(), 1);
        due.is("empty", x.count(0), 0);
        Due.text(x, FIVE + "L11L22L33L44J01J02J03J04J12");
        due.is("album", x.album(), 54);
        due.is("wipe all", x.wipe(), 48);
        due.is("wipe again", x.wipe(), 0);
        due.is("stamps stay", x.count(1), 5);
        due.is("letters stay", x.count(2), 4);
        due.is("an empty text", x.fault(), 0);
        due.is("room again", x.write('A'), 1);
        due.is("nothing of the old text is left", x.fault(), NONE);
        due.is("nothing of the old text is left", x.album(), 0);
    }

    /** FAULT sign by sign: of all 256 just these can come behind what is told. */
    private static void takesOnly(String told, String signs) {
        for (int sign = 0; sign <= 255; sign++) {
            AgingStamps x = new AgingStamps();
            Due.text(x, told);
            x.write(sign);
            int fault = x.fault();
            boolean taken = fault == NONE || fault == told.length() + 1;
            due.is("sign " + sign + " behind " + told, taken ? 1 : 0, signs.indexOf(sign) >= 0 ? 1 : 0);
            due.is("fault of sign " + sign + " behind " + told, taken ? told.length() : fault, told.length());
        }
    }

    /** "A, then PARTS, none or more"; "a (0 to 9), h (0 to 9), k: 0 to 3"; "d (1 to 9), r (1 to 9)". */
    private static void signsOfStampsAndLetters() {
        takesOnly("", "A");
        takesOnly("A", "SL");
        takesOnly("AS", FIGURES);
        takesOnly("AS0", FIGURES);
        takesOnly("AS9", FIGURES);
        takesOnly("AS00", "0123");
        takesOnly("AS99", "0123");
        takesOnly("AS000", "SL");
        takesOnly("AL", "123456789");
        takesOnly("AL1", "123456789");
        takesOnly("AL9", "123456789");
        takesOnly("AL11", "SL");
        takesOnly("AL11S000", "SL");
        takesOnly("AS000S000", "SLJ");
    }

    /** "both told ahead, not one; each two once, in whichever order". */
    private static void signsOfJoins() {
        takesOnly("AS000S000J", "01");
        takesOnly("AS000S000J0", "1");
        takesOnly("AS000S000J1", "0");
        takesOnly("AS000S000J01", "SL");
        takesOnly("AS000S000J10", "SL");
        takesOnly("AS000S000J01S000", "SLJ");
        takesOnly("AS000S000J01S000J", "012");
        takesOnly("AS000S000J01S000J0", "2");
        takesOnly("AS000S000J01S000J1", "2");
        takesOnly("AS000S000J01S000J2", "01");
        takesOnly("AS000S000J10S000J02J", "12");
        takesOnly("AS000S000J10S000J02J1", "2");
        takesOnly("AS000S000S000J01J02J12", "SL");
        takesOnly(FIVE + "J", "01234");
        takesOnly(FIVE + "J4", "0123");
        takesOnly(FIVE + "J01J02J03J04J12J13J14J23J", "234");
        takesOnly(FIVE + "J01J02J03J04J12J13J14J23J2", "4");
        takesOnly(FIVE + "J01J02J03J04J12J13J14J23J3", "4");
        takesOnly(FIVE + "J01J02J03J04J12J13J14J23J4", "23");
    }

    /** "STAMPS (5 at most), LETTERS (4 at most)". */
    private static void signsWhenFull() {
        takesOnly("AS000S000S000S000", "SLJ");
        takesOnly(FIVE, "LJ");
        takesOnly("AL11L11L11", "SL");
        takesOnly("AL11L11L11L11", "S");
        takesOnly(FIVE + "L11L11L11L11", "J");
        takesOnly(FIVE + "L11L11L11", "LJ");
        takesOnly("AS000S000S000S000J01J02J03J12J13J23L11L11L11L11", "S");
        takesOnly("AS000L11L11L11L11", "S");
    }

    private static void fault(String text, int want) {
        AgingStamps x = new AgingStamps();
        Due.text(x, text);
        due.is("fault of " + text, x.fault(), want);
        due.is("album of " + text + " is refused", x.album() == STATE ? 1 : 0, want == NONE ? 0 : 1);
    }

    /** "the place of the first letter by which THE TEXT can be no ALBUM, whatever came behind it". */
    private static void faultWhateverCameBehind() {
        fault("XAS000", 0);
        fault("AXS000", 1);
        fault("AS004S000", 4);
        fault("AS004L00", 4);
        fault("AJ01S000S000", 1);
        fault("AS000J01S000", 5);
        fault("AS000S000J00J01", 11);
        fault("AS000S000J02S000", 11);
        fault("AS000S000J2", 10);
        fault("AS000S000J01J10", 12);
        fault("AL01L00", 2);
        fault("AS000S000S000S000S000S000L11L11L11L11L11", 21);
        fault("AL11L11L11L11L11S000", 13);
    }

    /** "its length, if it is only not at its end; NONE: none". */
    private static void faultIsItsLength() {
        fault("", 0);
        fault("A", NONE);
        fault("AS", 2);
        fault("AS9", 3);
        fault("AS99", 4);
        fault("AS993", NONE);
        fault("AL", 2);
        fault("AL9", 3);
        fault("AL99", NONE);
        fault("AS000S000J", 10);
        fault("AS000S000J1", 11);
        fault("AS000S000J10", NONE);
    }

    /** "(its length set aside)": what could only end beyond 48 letters is only not at its end. */
    private static void faultWithItsLengthSetAside() {
        String stamps = "AS000S000S000S000J01J02J03J12J13J23L11L11L11L11";
        due.is("length", stamps.length(), 47);
        fault(stamps, NONE);
        fault(stamps + "S", 48);
        fault(stamps + "L", 47);
        fault(stamps + "J", 47);
        String joins = FIVE + "L11J01J02J03J04J12J13J14J23";
        due.is("length", joins.length(), 48);
        fault(joins, NONE);
        String letters = FIVE + "L11L11L11J01J02J03J04J12J1";
        due.is("length", letters.length(), 47);
        fault(letters, 47);
        fault(letters + "3", NONE);
        fault(letters + "2", 47);
    }

    /** "10 times STAMPS, and LETTERS", from none to 5 and 4. */
    private static void stampsAndLettersCounted() {
        for (int stamps = 0; stamps <= 5; stamps++) {
            for (int letters = 0; letters <= 4; letters++) {
                AgingStamps x = new AgingStamps();
                Due.text(x, "A" + "S000".repeat(stamps) + "L11".repeat(letters));
                due.is("album", x.album(), 10 * stamps + letters);
                due.is("stamps", x.count(1), stamps);
                due.is("letters", x.count(2), letters);
                due.is("the last stamp", x.stamp(stamps - 1, 0), stamps > 0 ? 0 : UNKNOWN);
                due.is("no stamp more", x.stamp(stamps, 0), UNKNOWN);
                due.is("the last letter", x.letter(letters - 1, 0), letters > 0 ? 1 : UNKNOWN);
                due.is("no letter more", x.letter(letters, 0), UNKNOWN);
            }
        }
    }

    /** "numbered as they are told, each for itself"; every figure of a part at its least and most. */
    private static void numberedEachForItself() {
        AgingStamps x = Due.album("AL19S903L91S090L55S451J02L28S002");
        int[] age = {90, 0, 40, 0};
        int[] health = {0, 9, 5, 0};
        int[] kind = {3, 0, 1, 2};
        for (int s = 0; s < 4; s++) {
            due.is("age of " + s, x.stamp(s, 0), age[s]);
            due.is("health of " + s, x.stamp(s, 1), health[s]);
            due.is("kind of " + s, x.stamp(s, 2), kind[s]);
        }
        int[] weeks = {1, 9, 5, 2};
        int[] cost = {9, 1, 5, 8};
        for (int l = 0; l < 4; l++) {
            due.is("weeks of " + l, x.letter(l, 0), weeks[l]);
            due.is("cost of " + l, x.letter(l, 1), cost[l]);
        }
        due.is("joined", x.stamp(0, 7), 4);
        due.is("joined", x.stamp(2, 7), 1);
        due.is("not joined", x.stamp(1, 7), 0);
    }

    /** "THE WEEK is 0, it is dry, nothing is stuck, sent, when THE ALBUM is made anew". */
    private static void madeAnew() {
        String text = "AS390S600S500J01L13L99L12";
        AgingStamps x = Due.album(text);
        x.stick(0, 0);
        x.send(0);
        x.stick(2, 2);
        x.week();
        x.part(0, 1);
        x.damp();
        x.week();
        due.is("made anew of the same text", x.album(), 33);
        due.same("as if it was made at first", Everything.surfaceOf(x), Everything.surfaceOf(Due.album(text)));
    }

    /** "THE ROW of ACTS is empty, what was kept is gone; SEEN, THE SEED stay". "STATE: a FAULT". */
    private static void staysAndGoes() {
        AgingStamps x = Due.album("AS000S000L11");
        x.week();
        x.keep(0);
        x.week();
        x.keep(1);
        x.see(0, 50, 1);
        x.see(1, 50, 0);
        x.seed(-5);
        Due.text(x, "AS000S000L11S");
        due.is("a fault", x.album(), STATE);
        due.is("the row stays", x.count(9), 2);
        due.is("kept in 0", x.again(0), 1);
        due.is("kept in 1", x.again(1), 2);
        Due.text(x, "AS000S000L11");
        due.is("no fault", x.album(), 21);
        due.is("the row is empty", x.count(9), 0);
        due.is("nothing to undo", x.undo(), STATE);
        due.is("gone from 0", x.again(0), STATE);
        due.is("gone from 1", x.again(1), STATE);
        due.is("seen stays", x.count(10), 2);
        due.is("seen of 0", x.bought(0), 1);
        due.is("seen of 1", x.bought(1), 1022);
        due.is("the seed stays", x.seed(0), -5);
        due.is("the text stays", x.count(0), 12);
        due.is("again of the same text", x.album(), 21);
    }

    private interface Call {
        long on(AgingStamps x);
    }

    /** A TEXT is no ALBUM before it is made one: less, more or nothing is written, and all is as it was. */
    private static void onlyWritten() {
        String[] texts = {"", "A", "AS", FIVE + "L11L22L33L44J01J02J03J04J12"};
        for (String text : texts) {
            AgingStamps x = Due.album("AS390S600S093J01J12L13L93");
            AgingStamps y = Due.album("AS390S600S093J01J12L13L93");
            Due.text(x, text);
            for (int i = -1; i <= 5; i++) {
                askedOf(text, x, y, i);
            }
            like(text, x, y, z -> z.comes(1, 5));
            like(text, x, y, z -> z.comes(1, 7));
            like(text, x, y, z -> z.comes(1, 8));
            like(text, x, y, z -> z.judge(3, 100200301L));
            like(text, x, y, z -> z.judge(1, 140L));
            like(text, x, y, z -> z.born(1, 5, false));
            like(text, x, y, z -> z.years(9));
            like(text, x, y, z -> z.keep(0));
            like(text, x, y, z -> z.stick(0, 1));
            like(text, x, y, z -> z.stick(2, 0));
            like(text, x, y, z -> z.stick(3, 0));
            like(text, x, y, z -> z.stick(2, 2));
            like(text, x, y, z -> z.send(1));
            like(text, x, y, z -> z.send(2));
            like(text, x, y, z -> z.part(2, 1));
            like(text, x, y, z -> z.part(2, 3));
            like(text, x, y, z -> z.week());
            like(text, x, y, z -> z.again(0));
        }
    }

    private static void askedOf(String text, AgingStamps x, AgingStamps y, int i) {
        like(text, x, y, z -> z.stamp(i, 3));
        like(text, x, y, z -> z.stamp(i, 2));
        like(text, x, y, z -> z.letter(i, 1));
        like(text, x, y, z -> z.lives(i));
        like(text, x, y, z -> z.comes(i, 1));
        like(text, x, y, z -> z.fewest(i));
        like(text, x, y, z -> z.block(i));
        like(text, x, y, z -> z.see(i, 30, 1));
        like(text, x, y, z -> z.bought(i));
        like(text, x, y, z -> z.share(i, true));
        like(text, x, y, z -> z.share(i, false));
        like(text, x, y, z -> z.rests(0, 1, i, 1));
        like(text, x, y, z -> z.rests(i, 1, 0, 0));
        like(text, x, y, z -> z.rests(1, i, 0, 0));
        like(text, x, y, z -> z.count(i + 2));
    }

    /** The one is asked for the fault of what is written ahead of each call. */
    private static void like(String text, AgingStamps x, AgingStamps y, Call call) {
        x.fault();
        due.is("with " + text + " written", call.on(x), call.on(y));
    }

    /** "SPAN: 60 WEEKS and 3 for each HEALTH (CHILD: 10 more; OLD: 15 more)", by all figures. */
    private static void spans() {
        int[] ofNone = {60, 70, 75, 60};
        int[] ofNine = {87, 97, 102, 87};
        for (int kind = 0; kind <= 3; kind++) {
            for (int health = 0; health <= 9; health++) {
                AgingStamps x = Due.album("AS0" + health + kind + "S9" + health + kind);
                int span = ofNone[kind] + 3 * health;
                due.is("span of kind " + kind + ", health " + health, x.stamp(0, 3), span);
                due.is("span, whatever its age", x.stamp(1, 3), span);
            }
            due.is("span of nine", Due.album("AS09" + kind).stamp(0, 3), ofNine[kind]);
        }
    }

    /** "it is alive as long as its AGE is less than that": a WEEK ahead of it, at it, behind it. */
    private static void aliveBelowItsSpan() {
        for (int kind = 0; kind <= 2; kind++) {
            AgingStamps x = Due.album("AS50" + kind);
            int span = x.stamp(0, 3);
            Due.weeks(x, span - 51);
            due.is("a week ahead of its span", x.stamp(0, 0), span - 1);
            due.is("alive", x.stamp(0, 5), 1);
            due.is("week", x.week(), 0);
            due.is("at its span", x.stamp(0, 0), span);
            due.is("not alive", x.stamp(0, 5), 0);
            due.is("not alive", x.count(5), 0);
        }
        // By the album alone: 60 of 60, 60 of 63, 90 of 87 and 90 of 90 (old, 5).
        AgingStamps y = Due.album("AS600S610S990S952S962");
        due.is("who is alive", y.count(5), 2 + 16);
        // A forged one has a span too.
        due.is("forged", Due.album("AS603S613S503").count(5), 2 + 4);
    }

    private static int rate(int kind, int age) {
        return kind == 3 ? 0 : kind == 1 ? 1 : Math.min(9, 2 + age / (kind == 2 ? 10 : 20));
    }

    /** "RATE: 2, and 1 more for each 20 (cut; OLD 10, cut; a CHILD 1; FORGED 0), 9 at most", as told. */
    private static void rates() {
        for (int kind = 0; kind <= 3; kind++) {
            for (int tens = 0; tens <= 9; tens++) {
                AgingStamps x = Due.album("AS" + tens + "9" + kind);
                due.is("rate of kind " + kind + ", age " + 10 * tens, x.stamp(0, 4), rate(kind, 10 * tens));
            }
        }
        int[] old = {2, 3, 4, 5, 6, 7, 8, 9, 9, 9};
        for (int tens = 0; tens <= 9; tens++) {
            due.is("old, 9 at most", Due.album("AS" + tens + "92").stamp(0, 4), old[tens]);
        }
    }

    /** The same WEEK by WEEK: 19 and 20, 39 and 40, 9 and 10, 69 and 70, 79 and 80. */
    private static void ratesWeekByWeek() {
        AgingStamps x = Due.album("AS090S091S092S093");
        for (int age = 0; age <= 86; age++) {
            for (int kind = 0; kind <= 3; kind++) {
                due.is("rate of kind " + kind + ", week " + age, x.stamp(kind, 4), rate(kind, age));
            }
            x.week();
        }
    }

    /** "(what = 0) .. (7: bits). UNKNOWN; OUTSIDE." */
    private static void whatOfAStamp() {
        AgingStamps x = Due.album("AS390S972S600S901S003J04J14J24J34L11L11L11L13");
        int[] unknown = {-1, 5, 6, MIN, MAX};
        for (int stamp : unknown) {
            due.is("stamp(" + stamp + ", 0)", x.stamp(stamp, 0), UNKNOWN);
            due.is("stamp(" + stamp + ", 7)", x.stamp(stamp, 7), UNKNOWN);
        }
        int[] outside = {-1, 8, 9, MIN, MAX};
        for (int what : outside) {
            due.is("stamp(0, " + what + ")", x.stamp(0, what), OUTSIDE);
            due.is("stamp(4, " + what + ")", x.stamp(4, what), OUTSIDE);
        }
        due.is("what = 0", x.stamp(0, 0), 30);
        due.is("what = 7, joined to all", x.stamp(4, 7), 15);
        due.is("what = 7, joined to one", x.stamp(3, 7), 16);
        due.is("what = 6, on none", x.stamp(1, 6), NONE);
        x.stick(1, 0);
        x.stick(0, 3);
        due.is("what = 6, on the first", x.stamp(1, 6), 0);
        due.is("what = 6, on the last", x.stamp(0, 6), 3);
        AgingStamps one = Due.album("AS000");
        due.is("the only one", one.stamp(0, 5), 1);
        due.is("no second one", one.stamp(1, 5), UNKNOWN);
    }

    /** "(what = 0 ..) .. 3 DEAD (4). UNKNOWN; OUTSIDE." */
    private static void whatOfALetter() {
        AgingStamps x = Due.album("AS390S390S390S390S390L13L39L45L19");
        int[] unknown = {-1, 4, 5, MIN, MAX};
        for (int letter : unknown) {
            due.is("letter(" + letter + ", 0)", x.letter(letter, 0), UNKNOWN);
            due.is("letter(" + letter + ", 4)", x.letter(letter, 4), UNKNOWN);
        }
        int[] outside = {-1, 5, 6, MIN, MAX};
        for (int what : outside) {
            due.is("letter(0, " + what + ")", x.letter(0, what), OUTSIDE);
            due.is("letter(3, " + what + ")", x.letter(3, what), OUTSIDE);
        }
        due.is("no stamps on it", x.letter(3, 2), 0);
        due.is("good for nothing", x.letter(3, 3), 0);
        for (int s = 0; s < 5; s++) {
            x.stick(s, 3);
        }
        due.is("all stamps on it", x.letter(3, 2), 31);
        due.is("good for more than 9 together", x.letter(3, 3), 15);
        due.is("nothing on the others", x.letter(0, 2), 0);
    }

    /** "for how many WEEKS more it is on its way (as told: it is not sent)"; 0, 1, 2, 3. */
    private static void weeksOnItsWay() {
        AgingStamps x = Due.album("AS000S500L92L92L12");
        x.stick(0, 0);
        x.stick(1, 1);
        Due.weeks(x, 2);
        due.is("as told", x.letter(0, 0), 9);
        due.is("not sent", x.letter(0, 4), 0);
        x.send(0);
        x.send(1);
        due.is("as told when sent", x.letter(0, 0), 9);
        for (int left = 8; left >= 1; left--) {
            x.week();
            due.is("weeks more", x.letter(0, 0), left);
            due.is("on its way", x.letter(0, 4), 1);
            due.is("dead or not, it is on its way", x.letter(1, 4), 1);
        }
        x.week();
        due.is("none", x.letter(0, 0), 0);
        due.is("come", x.letter(0, 4), 2);
        due.is("none", x.letter(1, 0), 0);
        due.is("dead", x.letter(1, 4), 3);
        due.is("good for nothing", x.letter(1, 3), 0);
        Due.weeks(x, 2);
        due.is("never less than none", x.letter(0, 0), 0);
        due.is("come for good", x.letter(0, 4), 2);
        due.is("dead for good", x.letter(1, 4), 3);
        due.is("what is not sent is as told", x.letter(2, 0), 1);
        due.is("not sent", x.letter(2, 4), 0);
    }
}
