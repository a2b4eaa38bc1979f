/** The edges of part 2 and of promises 14 to 18; a sentence, a test. */
public final class WhichEdgesTest {
    private static final int UNKNOWN = AgingStamps.UNKNOWN, OUTSIDE = AgingStamps.OUTSIDE;
    private static final int STATE = AgingStamps.STATE, NONE = AgingStamps.NONE;
    private static final int MIN = Integer.MIN_VALUE, MAX = Integer.MAX_VALUE;
    private static final Due due = new Due();

    public static void main(String[] args) {
        livesFromNoneTo99();
        livesAsTimeGoes();
        livesUnknown();
        comesInTime();
        comesInTimeOfWidows();
        comesByWhatItCosts();
        comesBesidesThoseOnIt();
        comesOutside();
        comesRefused();
        fewestFromNoneToAll();
        fewestOfLikeOnes();
        fewestComes();
        fewestRefused();
        blocks();
        widows();
        judgedNumbers();
        judgedRows();
        judgedEachDoing();
        judgedPlaces();
        judgedOneBehindAnother();
        judgedInTheLastWeeks();
        due.end();
    }

    /** "in how many WEEKS (0 to 99) it is not alive any more; NONE: not in 99": 0, 1, 98, 99, 100. */
    private static void livesFromNoneTo99() {
        AgingStamps x = Due.album("AS092");
        for (int age = 0; age <= 102; age++) {
            int left = 102 - age;
            due.is("lives of 102 at " + age, x.lives(0), left > 99 ? NONE : left);
            x.week();
        }
        due.is("dead", x.lives(0), 0);
        AgingStamps y = Due.album("AS600S990S002S003S603");
        due.is("dead at its span", y.lives(0), 0);
        due.is("dead beyond its span", y.lives(1), 0);
        due.is("old, without health", y.lives(2), 75);
        due.is("forged: not in 99", y.lives(3), NONE);
        due.is("forged, but dead", y.lives(4), 0);
    }

    /** "if nothing else is done": it is as damp as now, and JOINED as now. */
    private static void livesAsTimeGoes() {
        AgingStamps x = Due.album("AS092S500S600S500J23J01");
        x.damp();
        due.is("of 10, damp", x.lives(1), 5);
        due.is("dead and damp", x.lives(2), 0);
        // 53, 56, 59, 60 dry; 54, 58, 60 damp.
        due.is("a widow, damp", x.lives(3), 3);
        x.damp();
        due.is("a widow, dry", x.lives(3), 4);
        due.is("of 10, dry", x.lives(1), 10);
        // 12 after 10 weeks, then 3 each: 90 more by 30.
        due.is("a widow after 10 weeks", x.lives(0), 40);
        // Damp: 12 after 5 weeks, then 4 each: 90 more by 23.
        x.damp();
        due.is("a widow after 5 damp weeks", x.lives(0), 28);
        AgingStamps licked = Due.album("AS510L11");
        due.is("ahead of it", licked.lives(0), 13);
        licked.stick(0, 0);
        due.is("licked", licked.lives(0), 10);
        AgingStamps forged = Due.album("AS003S600J01");
        forged.damp();
        due.is("a forged widow", forged.lives(0), NONE);
    }

    private static void livesUnknown() {
        AgingStamps x = Due.album("AS000S000S000S000S000");
        int[] unknown = {-1, 5, MIN, MAX};
        for (int stamp : unknown) {
            due.is("lives(" + stamp + ")", x.lives(stamp), UNKNOWN);
        }
        due.is("the last one", x.lives(4), 60);
        due.is("of one there is no second", Due.album("AS000").lives(1), UNKNOWN);
    }

    /** "1, if it comes, 0, if it is DEAD": for each way of 1 to 9 WEEKS, alive then, and just not. */
    private static void comesInTime() {
        for (int way = 1; way <= 9; way++) {
            AgingStamps x = Due.album("AS500L" + way + "4");
            Due.weeks(x, 9 - way);
            due.is("59 after " + way, x.comes(0, 1), 1);
            x.week();
            due.is("60 after " + way, x.comes(0, 1), 0);
            x.damp();
            due.is("damp, " + way, x.comes(0, 1), 0);
        }
        AgingStamps damp = Due.album("AS500L44L54");
        damp.damp();
        due.is("58 after 4 damp weeks", damp.comes(0, 1), 1);
        due.is("60 after 5 damp weeks", damp.comes(1, 1), 0);
        // Licked it has 60 instead of 63 weeks.
        AgingStamps licked = Due.album("AS510S010L94");
        due.is("59 of 60", licked.comes(0, 1), 1);
        licked.week();
        due.is("60 of 60", licked.comes(0, 1), 0);
    }

    private static void comesInTimeOfWidows() {
        AgingStamps x = Due.album("AS500S600J01L34L44");
        due.is("59 after 3 weeks", x.comes(0, 1), 1);
        due.is("60 after 4 weeks", x.comes(1, 1), 0);
        // Licked to death, it leaves a widow behind: 50 + 3 + 3 + 3.
        AgingStamps y = Due.album("AS610S500J01L34L44");
        due.is("licked together, 59", y.comes(0, 3), 1);
        due.is("licked together, 60", y.comes(1, 3), 0);
        due.is("licked alone", y.comes(1, 2), 1);
    }

    /** "NONE: it can not be SENT so". */
    private static void comesByWhatItCosts() {
        AgingStamps x = Due.album("AS001S000S002S003S610L13L14L11L12");
        due.is("none on it", x.comes(2, 0), NONE);
        due.is("1 of 1", x.comes(2, 1), 1);
        due.is("1 of 2", x.comes(3, 1), NONE);
        due.is("2 of 2", x.comes(3, 2), 1);
        due.is("3 of 3", x.comes(0, 3), 1);
        due.is("2 of 3", x.comes(0, 2), NONE);
        due.is("3 of 4, a forged one with them", x.comes(1, 1 + 2 + 8), NONE);
        due.is("4 of 4", x.comes(1, 2 + 4), 1);
        due.is("5 of 4", x.comes(1, 1 + 2 + 4), 1);
        due.is("a forged one", x.comes(2, 8), NONE);
        due.is("dead by being licked", x.comes(2, 16), NONE);
        due.is("dead by being licked, another is not", x.comes(2, 16 + 1), 1);
        // A forged one is good for nothing, but alive when the other one is dead.
        AgingStamps y = Due.album("AS500S003L94");
        y.week();
        due.is("alone it is dead", y.comes(0, 1), 0);
        due.is("with a forged one it comes", y.comes(0, 3), 1);
    }

    /** "besides those that are": those on it count, and need not be told. */
    private static void comesBesidesThoseOnIt() {
        AgingStamps x = Due.album("AS500S002S001L94L96");
        x.stick(0, 1);
        due.is("4 of 6", x.comes(1, 0), NONE);
        due.is("5 of 6", x.comes(1, 4), NONE);
        due.is("6 of 6", x.comes(1, 2), 1);
        due.is("what is on another does not count", x.comes(0, 2), NONE);
        AgingStamps y = Due.album("AS500S001L94");
        y.stick(0, 0);
        due.is("none besides it", y.comes(0, 0), 1);
        y.week();
        due.is("none besides it, and dead", y.comes(0, 0), 0);
        due.is("a child besides it", y.comes(0, 2), 1);
    }

    /** "OUTSIDE: stamps (bits of STAMPS that there are)". */
    private static void comesOutside() {
        for (int stamps = 0; stamps <= 5; stamps++) {
            AgingStamps x = Due.album("AL11" + "S001".repeat(stamps));
            int all = (1 << stamps) - 1;
            due.is("no bits of " + stamps, x.comes(0, 0), NONE);
            due.is("all bits of " + stamps, x.comes(0, all), stamps > 0 ? 1 : NONE);
            due.is("a bit more of " + stamps, x.comes(0, all + 1), OUTSIDE);
            due.is("a bit more and all of " + stamps, x.comes(0, 2 * all + 1), OUTSIDE);
            due.is("-1 of " + stamps, x.comes(0, -1), OUTSIDE);
            due.is("min of " + stamps, x.comes(0, MIN), OUTSIDE);
            due.is("max of " + stamps, x.comes(0, MAX), OUTSIDE);
        }
    }

    /** "UNKNOWN; STATE: it is sent, or one of them is not alive, or on a LETTER". */
    private static void comesRefused() {
        AgingStamps x = Due.album("AS500S390S001S600S001L94L11L13");
        int[] unknown = {-1, 3, MIN, MAX};
        for (int letter : unknown) {
            due.is("comes(" + letter + ", 0)", x.comes(letter, 0), UNKNOWN);
        }
        due.is("one is dead", x.comes(2, 8), STATE);
        due.is("one of them is dead", x.comes(2, 8 + 2), STATE);
        x.week();
        x.stick(0, 0);
        due.is("on that letter", x.comes(0, 1), STATE);
        due.is("on another", x.comes(2, 1 + 2), STATE);
        x.send(0);
        due.is("on its way", x.comes(0, 0), STATE);
        due.is("on its way", x.comes(0, 2), STATE);
        x.stick(2, 1);
        x.send(1);
        Due.weeks(x, 9);
        due.is("dead", x.comes(0, 2), STATE);
        due.is("come", x.comes(1, 2), STATE);
        due.is("on one that has come", x.comes(2, 4), STATE);
        due.is("a free one", x.comes(2, 2), 1);
        // In its last week one may be told, a week later not.
        AgingStamps y = Due.album("AS500L14");
        Due.weeks(y, 9);
        due.is("59 of 60", y.comes(0, 1), 0);
        y.week();
        due.is("60 of 60", y.comes(0, 1), STATE);
    }

    /** "the fewest such STAMPS (bits ..) with which it COMES; NONE": none, one, all five, not even all. */
    private static void fewestFromNoneToAll() {
        AgingStamps x = Due.album("AS001S001S001S001S001L11L14L15L16");
        due.is("one of like ones", x.fewest(0), 1);
        due.is("four of five", x.fewest(1), 15);
        due.is("all five", x.fewest(2), 31);
        due.is("not even all", x.fewest(3), NONE);
        x.stick(4, 0);
        due.is("none is needed", x.fewest(0), 0);
        due.is("four of four", x.fewest(1), 15);
        due.is("not even all that are free", x.fewest(2), NONE);
        due.is("no stamps at all", Due.album("AL11").fewest(0), NONE);
        due.is("only dead ones", Due.album("AS600S600L11").fewest(0), NONE);
        due.is("only forged ones", Due.album("AS003S003L11").fewest(0), NONE);
        due.is("only one dead by being licked", Due.album("AS610L11").fewest(0), NONE);
        due.is("the last one alone", Due.album("AS600S600S600S600S001L11").fewest(0), 16);
    }

    /** "of like ones the least": 1 and 2 (6) are less than 0 and 4 (17), one is fewer than two. */
    private static void fewestOfLikeOnes() {
        AgingStamps x = Due.album("AS001S392S392S003S692L19L18L16L15");
        due.is("5 and 5 ahead of 1 and 8", x.fewest(0), 2 + 4);
        due.is("8 alone ahead of 5 and 5", x.fewest(1), 16);
        due.is("8 alone ahead of 1 and 5", x.fewest(2), 16);
        due.is("the first of 5, 5 and 8", x.fewest(3), 2);
    }

    /** "with which it COMES": not those with which it is DEAD. */
    private static void fewestComes() {
        AgingStamps x = Due.album("AS500S500S002L94L92L14");
        due.is("alive for 9 weeks", x.fewest(0), 1);
        x.week();
        due.is("one that is alive with it", x.fewest(0), 1 + 4);
        due.is("that one alone", x.fewest(1), 4);
        due.is("one week", x.fewest(2), 1);
        AgingStamps y = Due.album("AS500S500L94");
        y.week();
        due.is("good for it, but dead all", y.fewest(0), NONE);
        AgingStamps z = Due.album("AS500S001L94");
        z.stick(0, 0);
        due.is("enough on it", z.fewest(0), 0);
        z.week();
        due.is("enough on it, but dead", z.fewest(0), 2);
    }

    private static void fewestRefused() {
        AgingStamps x = Due.album("AS500S001L94L11L11L11");
        int[] unknown = {-1, 4, MIN, MAX};
        for (int letter : unknown) {
            due.is("fewest(" + letter + ")", x.fewest(letter), UNKNOWN);
        }
        x.week();
        x.stick(0, 0);
        x.send(0);
        x.stick(1, 3);
        x.send(3);
        due.is("on its way", x.fewest(0), STATE);
        due.is("on its way", x.fewest(3), STATE);
        Due.weeks(x, 9);
        due.is("dead", x.fewest(0), STATE);
        due.is("come", x.fewest(3), STATE);
        due.is("not sent, and none is free", x.fewest(2), NONE);
    }

    /** "STAMPS (bits) that are JOINED to it, to those, and so on, and itself". */
    private static void blocks() {
        AgingStamps alone = Due.album("AS000");
        due.is("itself", alone.block(0), 1);
        int[] unknown = {-1, 1, MIN, MAX};
        for (int stamp : unknown) {
            due.is("block(" + stamp + ")", alone.block(stamp), UNKNOWN);
        }
        // The longest ways there are: 0-4-1-3-2, from whichever end; a dead one is joined too.
        AgingStamps chain = Due.album("AS000S600S000S003S000J23J31J14J40");
        for (int s = 0; s < 5; s++) {
            due.is("all, from " + s, chain.block(s), 31);
        }
        due.is("no sixth", chain.block(5), UNKNOWN);
        chain.part(1, 4);
        due.is("0 and 4", chain.block(0), 17);
        due.is("0 and 4", chain.block(4), 17);
        due.is("the others", chain.block(1), 14);
        due.is("the others", chain.block(2), 14);
        chain.undo();
        due.is("undone", chain.block(0), 31);
        AgingStamps ring = Due.album("AS000S000S000S000S000J01J12J20J34");
        due.is("a ring", ring.block(1), 7);
        due.is("two", ring.block(3), 24);
        ring.part(0, 1);
        due.is("joined still, the other way", ring.block(0), 7);
        // 3 is joined to 0 by two ways, 1 and 2.
        AgingStamps twoWays = Due.album("AS000S000S000S000S000J01J02J13J23");
        for (int s = 0; s < 4; s++) {
            due.is("two ways, from " + s, twoWays.block(s), 15);
        }
        due.is("no way", twoWays.block(4), 16);
        AgingStamps none = Due.album("AS000S000S000S000S000");
        for (int s = 0; s < 5; s++) {
            due.is("nobody joined", none.block(s), 1 << s);
        }
    }

    /** "WIDOWS: STAMPS (bits) that are alive, and JOINED to one that is not". */
    private static void widows() {
        due.is("no stamps", Due.album("A").count(6), 0);
        due.is("all but the dead one", Due.album("AS000S001S002S003S600J04J14J24J34").count(6), 15);
        due.is("joined to a widow only", Due.album("AS600S000S000J01J12").count(6), 2);
        due.is("both dead", Due.album("AS600S600J01").count(6), 0);
        due.is("both alive", Due.album("AS000S000J01").count(6), 0);
        AgingStamps x = Due.album("AS500S000J01");
        Due.weeks(x, 9);
        due.is("59 of 60", x.count(6), 0);
        x.week();
        due.is("60 of 60", x.count(6), 2);
        x.undo();
        due.is("undone", x.count(6), 0);
        // Licked to death she leaves a widow at once.
        AgingStamps y = Due.album("AS610S000J01L11");
        due.is("ahead of it", y.count(6), 0);
        y.stick(0, 0);
        due.is("licked", y.count(6), 2);
    }

    /** "n doings (1 to 4)"; "OUTSIDE: n". */
    private static void judgedNumbers() {
        AgingStamps x = Due.album("AS000L11");
        int[] outside = {0, -1, 5, 6, MIN, MAX};
        for (int n : outside) {
            due.is("judge(" + n + ", 0)", x.judge(n, 0), OUTSIDE);
            due.is("judge(" + n + ", 100)", x.judge(n, 100), OUTSIDE);
        }
        for (int n = 1; n <= 4; n++) {
            due.is("judge(" + n + ", 0): weeks", x.judge(n, 0), NONE);
        }
    }

    /** "row (0 or more, 3 n figures at most)". */
    private static void judgedRows() {
        AgingStamps x = Due.album("AS000L11");
        long beyond = 1;
        for (int n = 1; n <= 4; n++) {
            beyond *= 1000;
            due.is(n + ": -1", x.judge(n, -1), OUTSIDE);
            due.is(n + ": -100", x.judge(n, -100), OUTSIDE);
            due.is(n + ": least", x.judge(n, Long.MIN_VALUE), OUTSIDE);
            due.is(n + ": greatest", x.judge(n, Long.MAX_VALUE), OUTSIDE);
            due.is(n + ": 0", x.judge(n, 0), NONE);
            due.is(n + ": the last that is told", x.judge(n, 100), NONE);
            due.is(n + ": all figures 9", x.judge(n, beyond - 1), 0);
            due.is(n + ": a figure more", x.judge(n, beyond), OUTSIDE);
            due.is(n + ": a figure more", x.judge(n, beyond + 100), OUTSIDE);
            due.is(n + ": three figures more", x.judge(n, 100 * beyond), OUTSIDE);
            due.is(n + ": all its figures", x.judge(n, beyond / 10), NONE);
        }
        // Its lower 32 bits alone would be 100.
        due.is("no int", x.judge(3, 100 + (1L << 32)), OUTSIDE);
        due.is("no int, but 10 figures: 004 first", x.judge(4, 100 + (1L << 32)), 0);
    }

    /** Each three figures there are, as one doing: 0, 2 and 4 are free, 1 is dead, 3 is on LETTER 0. */
    private static void judgedEachDoing() {
        for (int doing = 0; doing <= 999; doing++) {
            AgingStamps x = Due.album("AS390S600S003S000S001J01J24L12L23L99");
            x.stick(3, 0);
            due.is("doing " + doing, x.judge(1, doing), canBe(doing) ? NONE : 0);
        }
    }

    private static boolean canBe(int doing) {
        int stamp = doing / 10 % 10;
        int letter = doing % 10;
        switch (doing / 100) {
            case 0: return doing == 0;
            case 1: return (stamp == 0 || stamp == 2 || stamp == 4) && letter <= 2;
            case 2: return doing == 200;
            case 3: return doing == 301 || doing == 310 || doing == 324 || doing == 342;
            default: return false;
        }
    }

    /** "the place of the first that can not be; NONE: none": 0 to 3. */
    private static void judgedPlaces() {
        AgingStamps x = Due.album("AS390S390S390S390L13");
        long[] bad = {900, 9, 999, 400, 501, 104, 140, 201, 210, 300, 333};
        for (long doing : bad) {
            due.is("place 0 of " + doing, x.judge(4, doing * 1000000000L), 0);
            due.is("place 1 of " + doing, x.judge(4, doing * 1000000L), 1);
            due.is("place 2 of " + doing, x.judge(4, doing * 1000L), 2);
            due.is("place 3 of " + doing, x.judge(4, doing), 3);
        }
        due.is("of two the first", x.judge(4, 100999000999L), 1);
        due.is("four that can be", x.judge(4, 100110120130L), NONE);
    }

    /** Each doing is judged as the ones ahead of it have left things, and nothing stays. */
    private static void judgedOneBehindAnother() {
        AgingStamps x = Due.album("AS390S500S610J01J02J12L13L24");
        due.is("stuck twice", x.judge(2, 100100L), 1);
        due.is("stuck, sent, sent", x.judge(3, 100200200L), 2);
        due.is("stuck, sent, come, sent", x.judge(4, 100200000200L), 3);
        due.is("stuck on what is sent", x.judge(3, 100200110L), 2);
        due.is("stuck on what has come", x.judge(4, 100200000110L), 3);
        due.is("parted twice", x.judge(2, 301310L), 1);
        due.is("three parted", x.judge(3, 301302312L), NONE);
        due.is("licked to death, and not good for it", x.judge(2, 120200L), 1);
        due.is("licked to death, another with it", x.judge(3, 120100200L), NONE);
        due.is("nothing has stayed", x.judge(2, 100200L), NONE);
        // Sent by what it is good for in time only: 19 weeks old is not 20.
        AgingStamps y = Due.album("AS090L13");
        Due.weeks(y, 18);
        due.is("2 of 3", y.judge(2, 100200L), 1);
        due.is("2 of 3, a week later", y.judge(3, 100000200L), 2);
        due.is("3 of 3, two weeks later", y.judge(4, 100000000200L), NONE);
    }

    /** 58 of 60: two WEEKS, or one and a parting, or two partings, or a damp WEEK are too much. */
    private static void judgedInTheLastWeeks() {
        AgingStamps x = Due.album("AS000S500S000J01J12L13");
        Due.weeks(x, 8);
        due.is("a week", x.judge(2, 110L), NONE);
        due.is("two weeks", x.judge(3, 110L), 2);
        due.is("a parting", x.judge(2, 301110L), NONE);
        due.is("a parting and a week", x.judge(3, 301000110L), 2);
        due.is("two partings", x.judge(3, 301312110L), 2);
        x.damp();
        due.is("a damp week", x.judge(2, 110L), 1);
        due.is("ahead of a damp week", x.judge(2, 110000L), NONE);
    }
}
