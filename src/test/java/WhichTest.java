/** Promises 14 to 18: lives, comes, fewest, block, judge. */
public final class WhichTest {
    private static final Due due = new Due();

    public static void main(String[] args) {
        lives();
        comes();
        fewest();
        blocks();
        judged();
        nothingChanges();
        due.end();
    }

    private static void lives() {
        AgingStamps x = Due.album("AS082S092S003S600S500");
        due.is("at the last week", x.lives(0), 99);
        due.is("not in 99", x.lives(1), AgingStamps.NONE);
        due.is("forged", x.lives(2), AgingStamps.NONE);
        due.is("dead", x.lives(3), 0);
        due.is("ten weeks", x.lives(4), 10);
        x.damp();
        due.is("damp", x.lives(4), 5);
        due.is("damp, cut up", x.lives(0), 50);
        due.is("unknown", x.lives(5), AgingStamps.UNKNOWN);
        due.is("unknown", x.lives(-1), AgingStamps.UNKNOWN);
        AgingStamps y = Due.album("AS500S000J01");
        // 0 dies in week 10; 1 is 12 then, and older by 3 each week.
        due.is("a widow", y.lives(1), 26);
    }

    private static void comes() {
        AgingStamps x = Due.album("AS590S500S570S600S003L93L15L94L11");
        due.is("lives long enough", x.comes(0, 1), 1);
        due.is("not good for it", x.comes(1, 1), AgingStamps.NONE);
        due.is("two are good for it", x.comes(1, 3), 1);
        due.is("nothing", x.comes(3, 0), AgingStamps.NONE);
        due.is("forged alone", x.comes(3, 16), AgingStamps.NONE);
        due.is("a dead one", x.comes(0, 8), AgingStamps.STATE);
        due.is("no such stamp", x.comes(0, 32), AgingStamps.OUTSIDE);
        due.is("negative", x.comes(0, -1), AgingStamps.OUTSIDE);
        due.is("no such letter", x.comes(4, -1), AgingStamps.UNKNOWN);
        due.is("no such letter", x.comes(-1, 0), AgingStamps.UNKNOWN);
        x.stick(0, 0);
        due.is("stuck elsewhere", x.comes(1, 1), AgingStamps.STATE);
        due.is("stuck there already", x.comes(0, 1), AgingStamps.STATE);
        x.stick(2, 3);
        x.send(3);
        due.is("sent", x.comes(3, 0), AgingStamps.STATE);
        due.is("sent, but outside first", x.comes(3, 99), AgingStamps.OUTSIDE);

        // It costs 2; age 50, health 0: good for 9 weeks, not in a damp time.
        AgingStamps y = Due.album("AS500L92S510");
        due.is("comes in time", y.comes(0, 1), 1);
        y.damp();
        due.is("dead on its way", y.comes(0, 1), 0);
        y.damp();
        y.week();
        due.is("a week later it is too late", y.comes(0, 1), 0);
        // 1 would live to 63, but licked only to 60.
        due.is("licked", y.comes(0, 2), 0);
        due.is("with those that are on it", besides(), 1);
        AgingStamps z = Due.album("AS610L12S390");
        due.is("dies of being licked: can not be sent", z.comes(0, 1), AgingStamps.NONE);
        due.is("but with another it can", z.comes(0, 3), 1);
    }

    private static int besides() {
        AgingStamps x = Due.album("AS390S390L36");
        x.stick(1, 0);
        due.is("alone not good for it", x.comes(0, 0), AgingStamps.NONE);
        return x.comes(0, 1);
    }

    private static void fewest() {
        // Good for 3, 3, 6, 1 and 0.
        AgingStamps x = Due.album("AS390S390S492S001S003L13L16L17L91");
        due.is("the least of like ones", x.fewest(0), 1);
        due.is("one is fewer than two", x.fewest(1), 4);
        due.is("two", x.fewest(2), 5);
        due.is("child is not needed", x.fewest(3), 1);
        due.is("unknown", x.fewest(4), AgingStamps.UNKNOWN);
        due.is("unknown", x.fewest(-1), AgingStamps.UNKNOWN);
        x.stick(2, 1);
        due.is("enough is on it", x.fewest(1), 0);
        due.is("what is stuck is not free", x.fewest(2), 11);
        x.send(1);
        due.is("sent", x.fewest(1), AgingStamps.STATE);
        AgingStamps none = Due.album("AS390L19");
        due.is("none", none.fewest(0), AgingStamps.NONE);
        // One is good for it, but dead on its way; with the child it comes.
        AgingStamps child = Due.album("AS500S001L92");
        child.damp();
        due.is("the child keeps it alive", child.fewest(0), 3);
    }

    private static void blocks() {
        AgingStamps x = Due.album("AS000S600S000S000S000J43J31J12");
        due.is("alone", x.block(0), 1);
        due.is("a chain", x.block(4), 30);
        due.is("a chain", x.block(2), 30);
        x.part(3, 1);
        due.is("parted", x.block(4), 24);
        due.is("parted", x.block(2), 6);
        due.is("unknown", x.block(5), AgingStamps.UNKNOWN);
        due.is("unknown", x.block(-1), AgingStamps.UNKNOWN);
    }

    private static void judged() {
        AgingStamps x = Due.album("AS390S590S600J01L13L19");
        int none = AgingStamps.NONE;
        due.is("a week", x.judge(1, 0), none);
        due.is("weeks", x.judge(4, 0), none);
        due.is("001", x.judge(1, 1), 0);
        due.is("010", x.judge(1, 10), 0);
        due.is("stick", x.judge(1, 100), none);
        due.is("stick a dead one", x.judge(1, 120), 0);
        due.is("stick no stamp", x.judge(1, 130), 0);
        due.is("stick on no letter", x.judge(1, 102), 0);
        due.is("stick twice", x.judge(2, 100101L), 1);
        due.is("send", x.judge(1, 200), 0);
        due.is("stick, send", x.judge(2, 100200L), none);
        due.is("stick, send with a figure", x.judge(2, 100210L), 1);
        due.is("send twice", x.judge(3, 100200200L), 2);
        due.is("send no letter", x.judge(1, 202), 0);
        due.is("stick on a sent one", x.judge(3, 100200110L), 2);
        due.is("part", x.judge(1, 301), none);
        due.is("part the other way round", x.judge(2, 310301L), 1);
        due.is("part itself", x.judge(1, 300), 0);
        due.is("part no stamp", x.judge(1, 305), 0);
        due.is("no such doing", x.judge(1, 400), 0);
        due.is("no such doing", x.judge(1, 999), 0);
        due.is("the last of four", x.judge(4, 100200301301L), 3);
        due.is("weeks ahead", x.judge(4, 100), none);
        due.is("n", x.judge(0, 0), AgingStamps.OUTSIDE);
        due.is("n", x.judge(5, 0), AgingStamps.OUTSIDE);
        due.is("row", x.judge(1, -1), AgingStamps.OUTSIDE);
        due.is("row", x.judge(1, 1000), AgingStamps.OUTSIDE);
        due.is("row", x.judge(3, 1000000000L), AgingStamps.OUTSIDE);
        due.is("row", x.judge(4, 1000000000000L), AgingStamps.OUTSIDE);
        due.is("row", x.judge(4, Long.MAX_VALUE), AgingStamps.OUTSIDE);
        due.is("row", x.judge(4, Long.MIN_VALUE), AgingStamps.OUTSIDE);
        due.is("row", x.judge(4, 999999999999L), 0);
        // Age 58 of span 60: two weeks ahead of the stamp, and it is dead.
        AgingStamps y = Due.album("AS500L11");
        Due.weeks(y, 8);
        due.is("in time", y.judge(2, 100L), none);
        due.is("too late", y.judge(3, 100L), 2);
    }

    private static void nothingChanges() {
        AgingStamps x = Due.album("AS590S390J01L13L29");
        x.week();
        x.damp();
        x.lives(0);
        x.comes(0, 3);
        x.fewest(1);
        x.judge(4, 100200301000L);
        due.is("ages", 100 * x.stamp(0, 0) + x.stamp(1, 0), 5131);
        due.is("health", 10 * x.stamp(0, 1) + x.stamp(1, 1), 99);
        due.is("joined", x.stamp(0, 7), 2);
        due.is("letter", x.letter(0, 4) + x.letter(0, 2), 0);
        due.is("week", x.count(3), 1);
        due.is("damp", x.count(4), 1);
        due.is("acts", x.count(9), 2);
    }
}
