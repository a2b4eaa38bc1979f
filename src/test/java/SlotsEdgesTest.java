/** The edges of SLOTS in part 3, of promises 27 to 29, and the 512 calls of an object; a sentence, a test. */
public final class SlotsEdgesTest {
    private static final int UNKNOWN = AgingStamps.UNKNOWN, OUTSIDE = AgingStamps.OUTSIDE, STATE = AgingStamps.STATE;
    private static final int MIN = Integer.MIN_VALUE, MAX = Integer.MAX_VALUE;
    private static final Due due = new Due();

    public static void main(String[] args) {
        slotsNoughtToOne();
        noneWereKept();
        eachSlotForItself();
        allThatIsKept();
        whatIsNotKept();
        rowIsEmptyWhenOneGoesOn();
        keptUntilAnAlbumIsMade();
        keptWithoutStamps();
        whatIsCounted();
        countedAtTheirLeast();
        countedAtTheirMost();
        lettersAllComeOrAllDead();
        fiveHundredAndTwelveCalls();
        callsBeyondThem();
        due.end();
    }

    /** "SLOTS 0 to 1"; "UNKNOWN". */
    private static void slotsNoughtToOne() {
        AgingStamps x = Due.album("AS000");
        int[] unknown = {-1, 2, 3, MIN, MAX};
        for (int slot : unknown) {
            due.is("keep(" + slot + ")", x.keep(slot), UNKNOWN);
            due.is("again(" + slot + ")", x.again(slot), UNKNOWN);
        }
        for (int slot = 0; slot <= 1; slot++) {
            due.is("keep(" + slot + ")", x.keep(slot), 0);
            due.is("again(" + slot + ")", x.again(slot), 0);
        }
        for (int slot : unknown) {
            due.is("keep(" + slot + ") later", x.keep(slot), UNKNOWN);
            due.is("again(" + slot + ") later", x.again(slot), UNKNOWN);
        }
    }

    /** "STATE: none were kept": in that SLOT. */
    private static void noneWereKept() {
        AgingStamps x = Due.album("AS000");
        due.is("none in 0", x.again(0), STATE);
        due.is("none in 1", x.again(1), STATE);
        x.week();
        x.keep(1);
        due.is("none in 0 still", x.again(0), STATE);
        due.is("in 1", x.again(1), 1);
        AgingStamps y = Due.album("AS000");
        y.keep(0);
        due.is("none in 1 still", y.again(1), STATE);
        due.is("in 0", y.again(0), 0);
    }

    /** "They are kept: THE WEEK"; "They are as they were kept: THE WEEK". */
    private static void eachSlotForItself() {
        AgingStamps x = Due.album("AS000");
        Due.weeks(x, 3);
        due.is("keep 0", x.keep(0), 3);
        Due.weeks(x, 4);
        due.is("keep 1", x.keep(1), 7);
        Due.weeks(x, 2);
        due.is("again 0", x.again(0), 3);
        due.is("age", x.stamp(0, 0), 3);
        due.is("again 1", x.again(1), 7);
        due.is("age", x.stamp(0, 0), 7);
        due.is("again 1 a second time", x.again(1), 7);
        x.week();
        due.is("keep over 0", x.keep(0), 8);
        due.is("1 is as it was", x.again(1), 7);
        due.is("0 is the new one", x.again(0), 8);
        // What is kept is no more changed by acts than by undoing them.
        x.keep(1);
        x.week();
        x.undo();
        x.damp();
        due.is("as kept", x.again(1), 8);
        due.is("as kept", x.count(4), 0);
    }

    /** 0 is on a LETTER that is come, 1 on one that is DEAD, 2 on one on its way; 3 is joined to 4 alone; damp. */
    private static AgingStamps lived() {
        AgingStamps x = Due.album("AS390S500S092S001S600J01J34L13L94L92L19");
        x.stick(0, 0);
        x.week();
        x.stick(1, 1);
        x.send(1);
        x.part(0, 1);
        x.send(0);
        Due.weeks(x, 8);
        x.stick(2, 2);
        x.send(2);
        x.damp();
        x.week();
        due.is("come", x.count(7), 1);
        due.is("dead", x.count(8), 2);
        return x;
    }

    /** "AGES, HEALTH, what is JOINED, stuck, sent, come, DAMP, THE WEEK". */
    private static void allThatIsKept() {
        AgingStamps fresh = Due.album("AS390S500S092S001S600J01J34L13L94L92L19");
        fresh.week();
        fresh.keep(0);
        String early = Everything.surfaceOf(fresh);
        AgingStamps x = Due.album("AS390S500S092S001S600J01J34L13L94L92L19");
        x.week();
        x.keep(0);
        x.undo();
        x.stick(0, 0);
        x.week();
        x.stick(1, 1);
        x.send(0);
        x.send(1);
        x.part(0, 1);
        x.damp();
        Due.weeks(x, 12);
        due.is("again", x.again(0), 1);
        due.same("as it was kept", Everything.surfaceOf(x), withRow(early, 1, 0));
        AgingStamps late = lived();
        late.keep(1);
        late.part(3, 4);
        late.damp();
        late.stick(3, 3);
        Due.weeks(late, 9);
        due.is("again", late.again(1), 10);
        due.same("as it was kept", Everything.surfaceOf(late), withRow(Everything.surfaceOf(lived()), 14, 0));
    }

    /** The same look with another number of acts (count 9, ahead of count 10, which is 0). */
    private static String withRow(String surface, int acts, int other) {
        return surface.replaceFirst(" " + acts + " 0 stamp", " " + other + " 0 stamp");
    }

    /** Neither THE TEXT nor SEEN nor THE SEED is among what is kept. */
    private static void whatIsNotKept() {
        AgingStamps x = Due.album("AS000");
        x.keep(0);
        x.write('S');
        x.see(0, 50, 1);
        x.seed(12);
        x.again(0);
        due.is("the text", x.count(0), 6);
        due.is("the fault", x.fault(), 6);
        due.is("seen", x.count(10), 1);
        due.is("seen", x.bought(0), 1);
        due.is("the seed", x.seed(0), 12);
    }

    /** "(THE ROW of ACTS is empty when one goes on)"; keeping leaves it. */
    private static void rowIsEmptyWhenOneGoesOn() {
        AgingStamps x = Due.album("AS000");
        Due.weeks(x, 14);
        x.keep(0);
        due.is("fourteen", x.count(9), 14);
        due.is("again", x.again(0), 14);
        due.is("none", x.count(9), 0);
        due.is("nothing to undo", x.undo(), STATE);
        x.week();
        due.is("one", x.count(9), 1);
        due.is("undo", x.undo(), 0);
        due.is("not further back", x.undo(), STATE);
        due.is("the week", x.count(3), 14);
        // When nothing is kept there the row stays.
        x.week();
        due.is("none kept", x.again(1), STATE);
        due.is("no slot", x.again(2), UNKNOWN);
        due.is("one", x.count(9), 1);
    }

    /** "what was kept is gone" when THE TEXT is THE ALBUM; not by a FAULT, nor by a TEXT that is only written. */
    private static void keptUntilAnAlbumIsMade() {
        AgingStamps x = Due.album("AS000");
        x.week();
        x.keep(0);
        x.keep(1);
        Due.text(x, "AS00");
        due.is("a fault", x.album(), STATE);
        due.is("kept", x.again(0), 1);
        due.is("kept", x.again(1), 1);
        Due.text(x, "AS000");
        due.is("kept", x.again(0), 1);
        due.is("made anew", x.album(), 10);
        due.is("gone", x.again(0), STATE);
        due.is("gone", x.again(1), STATE);
        due.is("kept anew", x.keep(1), 0);
        due.is("still gone", x.again(0), STATE);
        due.is("again", x.again(1), 0);
    }

    /** Where there is nothing, THE WEEK and DAMP can be kept as well. */
    private static void keptWithoutStamps() {
        AgingStamps x = new AgingStamps();
        x.week();
        x.damp();
        due.is("keep", x.keep(0), 1);
        x.week();
        x.damp();
        due.is("again", x.again(0), 1);
        due.is("damp", x.count(4), 1);
    }

    /** "0 letters of THE TEXT .. 10 SEEN. OUTSIDE." */
    private static void whatIsCounted() {
        AgingStamps x = lived();
        int[] outside = {-1, 11, 12, MIN, MAX};
        for (int what : outside) {
            due.is("count(" + what + ")", x.count(what), OUTSIDE);
        }
        x.see(3, 1, 1);
        x.see(3, 2, 1);
        // 0 is 41, 1 is dead at 60, 2 and 3 are alive; 3 is joined to 4, which is dead from the first.
        int[] want = {39, 5, 4, 10, 1, 1 + 4 + 8, 8, 1, 2, 14, 2};
        for (int what = 0; what <= 10; what++) {
            due.is("count(" + what + ")", x.count(what), want[what]);
        }
    }

    private static void countedAtTheirLeast() {
        AgingStamps x = Due.album("A");
        int[] want = {1, 0, 0, 0, 0, 0, 0, 0, 0, 0, 0};
        for (int what = 0; what <= 10; what++) {
            due.is("count(" + what + ")", x.count(what), want[what]);
        }
        due.is("count(11)", x.count(11), OUTSIDE);
    }

    private static void countedAtTheirMost() {
        AgingStamps x = Due.album("AS003S003S003S003S003J01J02J03J04J12L11L11L11L11");
        Due.weeks(x, 20);
        x.damp();
        for (int i = 0; i < 6; i++) {
            x.see(4, i, 1);
        }
        int[] want = {48, 5, 4, 20, 1, 31, 0, 0, 0, 14, 6};
        for (int what = 0; what <= 10; what++) {
            due.is("count(" + what + ")", x.count(what), want[what]);
        }
    }

    /** "LETTERS that have come (bits)", "that are DEAD (bits)": each alone, and all four. */
    private static void lettersAllComeOrAllDead() {
        for (int letter = 0; letter < 4; letter++) {
            AgingStamps x = Due.album("AS500L14L14L14L14");
            x.stick(0, letter);
            x.send(letter);
            due.is("none has come", x.count(7), 0);
            x.week();
            due.is("come", x.count(7), 1 << letter);
            due.is("none is dead", x.count(8), 0);
        }
        AgingStamps x = Due.album("AS500S500S500S500L14L14L14L14");
        for (int i = 0; i < 4; i++) {
            x.stick(i, i);
        }
        Due.weeks(x, 8);
        for (int i = 0; i < 4; i++) {
            x.send(i);
        }
        due.is("none is either", x.count(7) + x.count(8), 0);
        x.week();
        due.is("all have come", x.count(7), 15);
        due.is("none is dead", x.count(8), 0);
        x.undo();
        x.damp();
        x.week();
        due.is("all are dead", x.count(8), 15);
        due.is("none has come", x.count(7), 0);
        x.undo();
        due.is("undone", x.count(7) + x.count(8), 0);
    }

    /** "An object is used for at most 512 calls": the 512th is answered as the first one. */
    private static void fiveHundredAndTwelveCalls() {
        AgingStamps x = Due.album("AS003S600S000J01L11");
        // Wiped, written and made: 21 calls so far.
        for (int call = 22; call <= 510; call++) {
            due.is("alive, call " + call, x.week(), call - 21 < 60 ? 2 : 1);
        }
        due.is("the week", x.count(3), 510 - 21);
        due.is("call 512", x.undo(), 13);
    }

    /** "what later calls answer is free": but none throws (LANGUAGE.md, 7), whatever it is given. */
    private static void callsBeyondThem() {
        int[] numbers = {0, 1, 2, 3, 4, 5, 30, 31, 32, 99, -1, MIN, MAX};
        AgingStamps x = Due.album("AS390S500S092S001S600J01J34L13L94L92L19");
        for (int round = 0; round < 40; round++) {
            for (int a : numbers) {
                for (int b : numbers) {
                    everyCall(x, a, b, round % 4);
                }
            }
            x.write("ASJL".charAt(round % 4));
            x.album();
            x.write(round);
        }
    }

    private static void everyCall(AgingStamps x, int a, int b, int c) {
        x.stamp(a, b);
        x.letter(a, b);
        x.stick(a, b);
        x.send(a);
        x.part(a, b);
        x.week();
        x.damp();
        x.undo();
        x.lives(a);
        x.comes(a, b);
        x.fewest(a);
        x.block(a);
        x.judge(a, b * 1000000007L);
        x.see(a, b, c);
        x.bought(a);
        x.share(a, c == 0);
        x.rests(a, b, c, 1);
        x.born(a, b, c == 0);
        x.seed(a * 31L + b);
        x.years(a);
        x.keep(b);
        x.again(a);
        x.count(a);
        x.fault();
    }
}
