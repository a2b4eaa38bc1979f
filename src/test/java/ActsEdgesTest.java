/** The edges of part 1 that ACTS have, and of promises 8 to 13; a sentence, a test. */
public final class ActsEdgesTest {
    private static final int UNKNOWN = AgingStamps.UNKNOWN, STATE = AgingStamps.STATE, NONE = AgingStamps.NONE;
    private static final int MIN = Integer.MIN_VALUE, MAX = Integer.MAX_VALUE;
    private static final Due due = new Due();

    public static void main(String[] args) {
        oneWeekOlder();
        diesInADampWeek();
        forgedOnesAreNeverOlder();
        justOneIsAlive();
        onceEachWeek();
        widowInTheSameWeek();
        widowsDeath();
        lettersComeOrAreDead();
        lettersAfterWidows();
        stuckAndHealth();
        stuckRefused();
        sentAtWhatItCosts();
        sentByThoseAlive();
        sentRefused();
        parted();
        partedRefused();
        dampAndDry();
        undoneOneByOne();
        fourteenAtMost();
        fourteenOfAllKinds();
        whatIsNoAct();
        due.end();
    }

    /** "each STAMP that is alive is one WEEK older (in a damp WEEK one more)"; "how many are alive". */
    private static void oneWeekOlder() {
        AgingStamps x = Due.album("AS000S001S002S003S600");
        due.is("alive", x.week(), 4);
        int[] dry = {1, 1, 1, 0, 60};
        for (int s = 0; s < 5; s++) {
            due.is("a dry week older: " + s, x.stamp(s, 0), dry[s]);
        }
        x.damp();
        due.is("alive", x.week(), 4);
        int[] damp = {3, 3, 3, 0, 60};
        for (int s = 0; s < 5; s++) {
            due.is("a damp week older: " + s, x.stamp(s, 0), damp[s]);
        }
        due.is("the week", x.count(3), 2);
        due.is("all alive", Due.album("AS000S000S000S000S000").week(), 5);
        due.is("none alive", Due.album("AS600S600").week(), 0);
        due.is("no stamps", Due.album("A").week(), 0);
    }

    /** One that is alive with a WEEK left is 60 by a dry WEEK and 61 by a damp one; then never older. */
    private static void diesInADampWeek() {
        AgingStamps x = Due.album("AS500");
        Due.weeks(x, 8);
        x.damp();
        due.is("58 and 2: dead", x.week(), 0);
        due.is("60", x.stamp(0, 0), 60);
        x.undo();
        x.damp();
        due.is("58 and 1", x.week(), 1);
        x.damp();
        due.is("59 and 2: dead", x.week(), 0);
        due.is("61", x.stamp(0, 0), 61);
        x.week();
        due.is("a dead one is not older", x.stamp(0, 0), 61);
        x.damp();
        x.week();
        due.is("nor in a dry week", x.stamp(0, 0), 61);
    }

    /** "A FORGED one is never older": by WEEKS, damp ones, as a WIDOW, when PARTED. */
    private static void forgedOnesAreNeverOlder() {
        AgingStamps x = Due.album("AS503S600S000J01J02");
        x.week();
        x.damp();
        x.week();
        due.is("widow", x.count(6), 1);
        due.is("weeks", x.stamp(0, 0), 50);
        x.part(0, 1);
        x.part(2, 0);
        due.is("parted", x.stamp(0, 0), 50);
        due.is("the others are", x.stamp(1, 0), 61);
        due.is("the others are", x.stamp(2, 0), 4);
        Due.weeks(x, 99);
        due.is("after 99 damp weeks more", x.stamp(0, 0), 50);
        due.is("alive", x.stamp(0, 5), 1);
        // Told too old, it is dead, and its other one a widow.
        AgingStamps dead = Due.album("AS603S000J01");
        due.is("dead from the first", dead.week(), 1);
        due.is("its widow", dead.stamp(1, 0), 3);
    }

    /** "of two that are JOINED, if just one is alive": not if both are, nor if neither is. */
    private static void justOneIsAlive() {
        AgingStamps both = Due.album("AS000S000J01");
        both.week();
        due.is("both alive", both.stamp(0, 0) + both.stamp(1, 0), 2);
        due.is("no widows", both.count(6), 0);
        AgingStamps neither = Due.album("AS600S600J01");
        neither.week();
        due.is("neither alive", neither.stamp(0, 0) + neither.stamp(1, 0), 120);
        due.is("no widows", neither.count(6), 0);
        AgingStamps one = Due.album("AS600S000J01");
        one.week();
        due.is("the one is older", one.stamp(1, 0), 3);
        due.is("the dead one is not", one.stamp(0, 0), 60);
        due.is("widow", one.count(6), 2);
        AgingStamps other = Due.album("AS000S600J01");
        other.week();
        due.is("the other way round", other.stamp(0, 0), 3);
        due.is("widow", other.count(6), 1);
        AgingStamps apart = Due.album("AS000S600");
        apart.week();
        due.is("not joined", apart.stamp(0, 0), 1);
        due.is("no widows", apart.count(6), 0);
        // Both die in the same week: neither is a widow.
        AgingStamps together = Due.album("AS500S500J01");
        Due.weeks(together, 10);
        due.is("both at their span", together.stamp(0, 0) + together.stamp(1, 0), 120);
    }

    /** "(once each WEEK, however many it is JOINED to)": to one, to two, to four dead ones. */
    private static void onceEachWeek() {
        AgingStamps one = Due.album("AS000S600S600S600S600J01");
        AgingStamps two = Due.album("AS000S600S600S600S600J01J02");
        AgingStamps four = Due.album("AS000S600S600S600S600J01J02J03J40");
        AgingStamps[] all = {one, two, four};
        for (AgingStamps x : all) {
            x.week();
            due.is("a dry week", x.stamp(0, 0), 3);
            x.damp();
            x.week();
            due.is("a damp week", x.stamp(0, 0), 7);
        }
        // One dead one makes widows of all that are joined to it.
        AgingStamps many = Due.album("AS000S600S000S001S002J01J21J13J41");
        due.is("four widows", many.count(6), 1 + 4 + 8 + 16);
        many.week();
        int[] older = {0, 2, 3, 4};
        for (int s : older) {
            due.is("each is older", many.stamp(s, 0), 3);
        }
    }

    /** "older ..; then": one that dies by this WEEK makes its other one a WIDOW in this WEEK. */
    private static void widowInTheSameWeek() {
        AgingStamps x = Due.album("AS000S500J01");
        Due.weeks(x, 9);
        due.is("no widow yet", x.count(6), 0);
        due.is("nine", x.stamp(0, 0), 9);
        due.is("one is alive", x.week(), 1);
        due.is("one and two more", x.stamp(0, 0), 12);
        due.is("a widow", x.count(6), 1);
        x.part(0, 1);
        due.is("parted she is none", x.count(6), 0);
        x.week();
        due.is("only a week older", x.stamp(0, 0), 14);
    }

    /** 0 is a WIDOW from the first, of 50 and 3 for each WEEK and 1 for each (2 at most) that it is PARTED from. */
    private static AgingStamps widowAt(int weeks, int parts) {
        AgingStamps x = Due.album("AS500S600S000S000J01J02J03L14L14");
        Due.weeks(x, weeks);
        for (int other = 2; other < 2 + parts; other++) {
            x.part(0, other);
        }
        due.is("the widow's age", x.stamp(0, 0), 50 + 3 * weeks + parts);
        return x;
    }

    /** A WIDOW of 56 to 59 of 60: alive, dead by the 2 WEEKS, and once more, dead by the WEEK itself. */
    private static void widowsDeath() {
        AgingStamps at56 = widowAt(2, 0);
        due.is("alive", at56.week(), 3);
        due.is("59", at56.stamp(0, 0), 59);
        AgingStamps at57 = widowAt(2, 1);
        due.is("dead of grief", at57.week(), 2);
        due.is("60", at57.stamp(0, 0), 60);
        AgingStamps at58 = widowAt(2, 2);
        due.is("dead of grief", at58.week(), 2);
        due.is("61", at58.stamp(0, 0), 61);
        AgingStamps at59 = widowAt(3, 0);
        due.is("dead, and no widow any more", at59.week(), 2);
        due.is("60", at59.stamp(0, 0), 60);
        // 2 and 3 are joined to 0 there: widows in the week in which 0 dies of its age.
        due.is("its own widows", at59.stamp(2, 0), 3 + 1 + 2);
        // Of grief 0 dies too late in the week for that: 3 is a widow from the next one on.
        due.is("its own widow", at57.count(6), 8);
        due.is("only a week older", at57.stamp(3, 0), 2 + 1);
        at57.week();
        due.is("and then three", at57.stamp(3, 0), 3 + 3);
    }

    /** "it has come, when it is none, if a STAMP on it is alive then, else it is DEAD". */
    private static void lettersComeOrAreDead() {
        int[] want = {2, 2, 3};
        for (int late = 0; late <= 2; late++) {
            AgingStamps x = Due.album("AS500S000L14L94");
            Due.weeks(x, 7 + late);
            x.stick(0, 0);
            due.is("sent at " + (57 + late), x.send(0), 1);
            x.week();
            due.is("sent at " + (57 + late), x.letter(0, 4), want[late]);
            due.is("come", x.count(7), want[late] == 2 ? 1 : 0);
            due.is("dead", x.count(8), want[late] == 3 ? 1 : 0);
            Due.weeks(x, 3);
            due.is("for good", x.letter(0, 4), want[late]);
        }
        // Nine weeks: sent at 50 it comes with one of 59, sent at 51 it is dead.
        for (int late = 0; late <= 1; late++) {
            AgingStamps x = Due.album("AS500S000L94");
            Due.weeks(x, late);
            x.stick(0, 0);
            due.is("sent", x.send(0), 9);
            Due.weeks(x, 8);
            due.is("on its way", x.letter(0, 4), 1);
            x.week();
            due.is("nine weeks", x.letter(0, 4), 2 + late);
        }
        // One that is alive is enough, a forged one too; one that is alive elsewhere is not.
        due.is("a child is alive on it", lastWeek("AS500S001L14L11", 0), 2);
        due.is("a forged one is alive on it", lastWeek("AS500S003L14L11", 0), 2);
        due.is("a child is alive elsewhere", lastWeek("AS500S001L14L11", 1), 3);
    }

    /** 0 is on LETTER 0, 1 on the told one; LETTER 0 is sent in the last WEEK of 0: what becomes of it. */
    private static int lastWeek(String album, int letter) {
        AgingStamps x = Due.album(album);
        x.stick(0, 0);
        x.stick(1, letter);
        Due.weeks(x, 9);
        x.send(0);
        x.week();
        due.is("0 is dead", x.stamp(0, 5), 0);
        return x.letter(0, 4);
    }

    /** "Then, of LETTERS": behind the WIDOWS of that WEEK, who may be dead by it. */
    private static void lettersAfterWidows() {
        AgingStamps at56 = widowAt(2, 0);
        at56.stick(0, 0);
        at56.send(0);
        at56.week();
        due.is("a widow of 59 is alive then", at56.letter(0, 4), 2);
        AgingStamps at57 = widowAt(2, 1);
        at57.stick(0, 0);
        at57.send(0);
        at57.week();
        due.is("a widow of 60 is not", at57.letter(0, 4), 3);
    }

    /** "has lost 1 of its HEALTH, if it has some": of 2, 1 and 0; it may be dead by that. */
    private static void stuckAndHealth() {
        AgingStamps x = Due.album("AS020S010S000S090S610L19L19");
        int[] health = {1, 0, 0, 8, 0};
        int[] span = {63, 60, 60, 84, 60};
        for (int s = 0; s < 5; s++) {
            due.is("how many are on it", x.stick(s, 1), s + 1);
            due.is("health of " + s, x.stamp(s, 1), health[s]);
            due.is("span of " + s, x.stamp(s, 3), span[s]);
            due.is("on the letter", x.stamp(s, 6), 1);
        }
        due.is("60 of 63, and 60 of 60 then", x.stamp(4, 5), 0);
        due.is("all five are on it", x.letter(1, 2), 31);
        due.is("none on the other", x.letter(0, 2), 0);
        // 59 of 63 stays alive.
        AgingStamps y = Due.album("AS510L19");
        Due.weeks(y, 9);
        y.stick(0, 0);
        due.is("59 of 60", y.stamp(0, 5), 1);
        AgingStamps z = Due.album("AS500L19");
        Due.weeks(z, 9);
        due.is("without health, in its last week", z.stick(0, 0), 1);
        due.is("alive", z.stamp(0, 5), 1);
    }

    /** "UNKNOWN: stamp, letter; STATE: not alive, or on a LETTER, or the LETTER is sent". */
    private static void stuckRefused() {
        AgingStamps x = Due.album("AS500S390S001S390L94L11L13");
        int[] noStamps = {-1, 4, MIN, MAX};
        for (int stamp : noStamps) {
            due.is("stick(" + stamp + ", 0)", x.stick(stamp, 0), UNKNOWN);
        }
        int[] noLetters = {-1, 3, MIN, MAX};
        for (int letter : noLetters) {
            due.is("stick(0, " + letter + ")", x.stick(0, letter), UNKNOWN);
        }
        Due.weeks(x, 1);
        x.stick(0, 0);
        due.is("on that letter", x.stick(0, 0), STATE);
        due.is("on a letter", x.stick(0, 1), STATE);
        x.send(0);
        due.is("on its way", x.stick(1, 0), STATE);
        x.stick(2, 1);
        x.send(1);
        Due.weeks(x, 9);
        due.is("a dead one", x.stamp(0, 5), 0);
        due.is("dead letter", x.letter(0, 4), 3);
        due.is("a letter that is dead", x.stick(1, 0), STATE);
        due.is("come", x.letter(1, 4), 2);
        due.is("a letter that has come", x.stick(1, 1), STATE);
        due.is("on one that has come", x.stick(2, 2), STATE);
        due.is("one that is free", x.stick(1, 2), 1);
        // At its last week it can be stuck, a week later not.
        AgingStamps y = Due.album("AS500S500L19");
        Due.weeks(y, 9);
        due.is("59 of 60", y.stick(1, 0), 1);
        y.week();
        due.is("60 of 60", y.stick(0, 0), STATE);
    }

    /** "good for what it costs, or more": 1 less, just that, 1 more, by one and by several. */
    private static void sentAtWhatItCosts() {
        for (int cost = 1; cost <= 9; cost++) {
            for (int tens = 0; tens <= 7; tens++) {
                AgingStamps x = Due.album("AS" + tens + "92L" + cost + cost);
                x.stick(0, 0);
                due.is("good for " + (2 + tens) + " of " + cost, x.send(0), 2 + tens >= cost ? cost : STATE);
            }
        }
        AgingStamps y = Due.album("AS001S001S001S002S003L13L15L12L16");
        y.stick(0, 1);
        y.stick(1, 1);
        due.is("2 of 5", y.send(1), STATE);
        y.stick(2, 1);
        y.stick(4, 1);
        due.is("3 of 5, a forged one with them", y.send(1), STATE);
        y.stick(3, 1);
        due.is("5 of 5", y.send(1), 1);
        due.is("a forged one alone", forgedAlone(), STATE);
        // 19 weeks are not yet 20.
        AgingStamps z = Due.album("AS090L13");
        z.stick(0, 0);
        Due.weeks(z, 19);
        due.is("2 of 3", z.send(0), STATE);
        z.week();
        due.is("3 of 3", z.send(0), 1);
    }

    private static int forgedAlone() {
        AgingStamps x = Due.album("AS093L11");
        x.stick(0, 0);
        return x.send(0);
    }

    /** "STAMPS that are alive": 5 of 5 as long as both are, 1 of 5 from then on. */
    private static void sentByThoseAlive() {
        for (int weeks = 8; weeks <= 10; weeks++) {
            AgingStamps x = Due.album("AS500S001L15");
            x.stick(0, 0);
            x.stick(1, 0);
            Due.weeks(x, weeks);
            due.is("good for", x.letter(0, 3), weeks < 10 ? 5 : 1);
            due.is("sent after " + weeks, x.send(0), weeks < 10 ? 1 : STATE);
        }
    }

    /** "UNKNOWN; STATE: it is sent, or the STAMPS are not good for it". */
    private static void sentRefused() {
        AgingStamps x = Due.album("AS500S001L94L11L11L11");
        int[] unknown = {-1, 4, MIN, MAX};
        for (int letter : unknown) {
            due.is("send(" + letter + ")", x.send(letter), UNKNOWN);
        }
        due.is("nothing on it", x.send(3), STATE);
        Due.weeks(x, 1);
        x.stick(0, 0);
        due.is("sent", x.send(0), 9);
        due.is("on its way", x.send(0), STATE);
        x.stick(1, 3);
        due.is("sent", x.send(3), 1);
        Due.weeks(x, 9);
        due.is("dead", x.letter(0, 4), 3);
        due.is("dead", x.send(0), STATE);
        due.is("come, and its stamp alive", x.letter(3, 3), 1);
        due.is("come", x.send(3), STATE);
    }

    /** "two that are JOINED are not any more; each is 1 WEEK older"; "to how many the one is JOINED still". */
    private static void parted() {
        AgingStamps x = Due.album("AS000S001S002S003S600J01J20J03J40J12");
        due.is("three still", x.part(0, 1), 3);
        due.is("the other has one still", x.stamp(1, 7), 4);
        due.is("two still, the other way round", x.part(0, 2), 2);
        due.is("of the forged one none still", x.part(3, 0), 0);
        due.is("of the dead one none still", x.part(4, 0), 0);
        due.is("the last two", x.part(2, 1), 0);
        int[] age = {4, 2, 2, 0, 61};
        for (int s = 0; s < 5; s++) {
            due.is("none is joined", x.stamp(s, 7), 0);
            due.is("age of " + s, x.stamp(s, 0), age[s]);
        }
        // In a damp time it is a week older as well, no more.
        AgingStamps y = Due.album("AS000S000J01");
        y.damp();
        y.part(0, 1);
        due.is("damp or not", y.stamp(0, 0) + y.stamp(1, 0), 2);
        due.is("the week is the same", y.count(3), 0);
        // Of 58 and of 59 weeks: alive, and dead by it.
        AgingStamps z = Due.album("AS500S000S000J01J02");
        Due.weeks(z, 8);
        z.part(0, 1);
        due.is("59 of 60", z.stamp(0, 5), 1);
        due.is("none still", z.part(0, 2), 0);
        due.is("60 of 60", z.stamp(0, 5), 0);
        due.is("alive", z.count(5), 6);
    }

    /** "UNKNOWN: both; STATE: they are not JOINED (nor is one to itself)". */
    private static void partedRefused() {
        AgingStamps x = Due.album("AS000S000S000J01");
        int[] unknown = {-1, 3, MIN, MAX, 32, 33};
        for (int stamp : unknown) {
            due.is("part(" + stamp + ", 0)", x.part(stamp, 0), UNKNOWN);
            due.is("part(0, " + stamp + ")", x.part(0, stamp), UNKNOWN);
            due.is("part(" + stamp + ", itself)", x.part(stamp, stamp), UNKNOWN);
        }
        for (int stamp = 0; stamp < 3; stamp++) {
            due.is("from itself", x.part(stamp, stamp), STATE);
        }
        due.is("not joined", x.part(0, 2), STATE);
        due.is("not joined", x.part(2, 1), STATE);
        due.is("joined", x.part(1, 0), 0);
        due.is("not any more", x.part(1, 0), STATE);
        due.is("not any more", x.part(0, 1), STATE);
    }

    /** "it is damp then, or dry again": "1 if it is damp then, 0". */
    private static void dampAndDry() {
        AgingStamps x = Due.album("AS000");
        due.is("dry at first", x.count(4), 0);
        for (int i = 1; i <= 5; i++) {
            due.is("damp, time " + i, x.damp(), i % 2);
            due.is("count, time " + i, x.count(4), i % 2);
        }
        x.week();
        x.week();
        due.is("it stays damp", x.stamp(0, 0), 4);
    }

    private static final int ALL_ACTS = 17;

    /** The first so many of 17 acts of all kinds on one album. */
    private static AgingStamps after(int acts) {
        AgingStamps x = Due.album("AS390S500S002S600J01J12J13L13L94L99");
        for (int act = 1; act <= acts; act++) {
            due.is("act " + act + " can be done", doAct(x, act) >= 0 ? 1 : 0, 1);
        }
        return x;
    }

    private static int doAct(AgingStamps x, int act) {
        switch (act) {
            case 1: return x.stick(0, 0);
            case 2: return x.stick(1, 1);
            case 3: return x.week();
            case 4: return x.send(0);
            case 5: return x.damp();
            case 6: return x.part(0, 1);
            case 7: return x.send(1);
            case 8: return x.week();
            case 9: return x.damp();
            case 10: return x.stick(2, 2);
            case 11: return x.part(3, 1);
            case 15: return x.damp();
            default: return x.week();
        }
    }

    /** "the last one can be undone": of each kind, all that it did is as it was. */
    private static void undoneOneByOne() {
        for (int acts = 1; acts <= 14; acts++) {
            AgingStamps x = after(acts);
            due.is("how many are left", x.undo(), acts - 1);
            due.same("act " + acts + " undone", Everything.surfaceOf(x), Everything.surfaceOf(after(acts - 1)));
        }
        AgingStamps x = after(14);
        for (int left = 13; left >= 0; left--) {
            due.is("left", x.undo(), left);
        }
        due.same("all undone", Everything.surfaceOf(x), Everything.surfaceOf(after(0)));
        due.is("there is none", x.undo(), STATE);
        due.is("there is none", x.undo(), STATE);
    }

    /** "14 at most; of more the first one is forgotten": 13, 14, 15, 16 and 28 WEEKS. */
    private static void fourteenAtMost() {
        int[] many = {1, 13, 14, 15, 16, 28, 29};
        for (int weeks : many) {
            AgingStamps x = Due.album("AS000");
            Due.weeks(x, weeks);
            int held = Math.min(14, weeks);
            due.is("acts of " + weeks, x.count(9), held);
            for (int left = held - 1; left >= 0; left--) {
                due.is("left of " + weeks, x.undo(), left);
            }
            due.is("forgotten of " + weeks, x.count(3), weeks - held);
            due.is("forgotten of " + weeks, x.stamp(0, 0), weeks - held);
            due.is("none left of " + weeks, x.undo(), STATE);
        }
        // The row fills again from where it was undone.
        AgingStamps y = Due.album("AS000");
        Due.weeks(y, 14);
        y.undo();
        y.damp();
        due.is("fourteen again", y.count(9), 14);
        y.week();
        due.is("one is forgotten", y.count(9), 14);
        for (int left = 13; left >= 0; left--) {
            y.undo();
        }
        due.is("the first week is forgotten", y.count(3), 1);
    }

    private static void fourteenOfAllKinds() {
        for (int acts = 15; acts <= ALL_ACTS; acts++) {
            AgingStamps x = after(acts);
            for (int left = 13; left >= 0; left--) {
                due.is("left of " + acts, x.undo(), left);
            }
            due.is("none left of " + acts, x.undo(), STATE);
            String want = countedBelow(Everything.surfaceOf(after(acts - 14)), acts - 14);
            due.same("what stays of " + acts, Everything.surfaceOf(x), want);
        }
    }

    /** The same look, but with an empty row of acts (count 9, ahead of count 10, which is 0). */
    private static String countedBelow(String surface, int acts) {
        return surface.replaceFirst(" " + acts + " 0 stamp", " 0 0 stamp");
    }

    /** "ACTS (WEEKS, STUCK, SENT, PARTED, DAMP)": nothing else goes into the row. */
    private static void whatIsNoAct() {
        AgingStamps x = Due.album("AS390S390J01L13L13");
        x.week();
        x.see(0, 1, 1);
        x.unsee();
        x.seed(3);
        x.years(5);
        x.keep(0);
        x.judge(3, 301100200L);
        x.comes(0, 3);
        x.fewest(0);
        x.lives(0);
        x.fault();
        x.write('S');
        x.wipe();
        due.is("one act", x.count(9), 1);
        due.is("undone", x.undo(), 0);
        due.is("kept one week later", x.again(0), 1);
        due.is("going on is none", x.count(9), 0);
        due.is("none left", x.undo(), STATE);
        due.is("stuck nowhere", x.stamp(0, 6), NONE);
    }
}
