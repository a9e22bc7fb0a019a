/** Terms 2, promises 11 to 16: papers, their kinds, sending, taking back, agreeing. */
final class BoundsOfPapers extends Situations {
    @Sentence("Terms 2: PAPERS, 24 at most, numbered from 0")
    static void papersAreNumberedFrom0To23() {
        CabinetTable x = house();
        for (int i = 0; i < 24; i++) {
            due(i, x.count(2));
            due(i, x.paper(i % 5, 0, 0, i, 0));
        }
        due(24, x.count(2));
        due(23, x.told(23, 3));
        due(BAD, x.told(24, 3));
    }

    @Sentence("Promise 11: One more PAPER: its number. BAD; FULL.")
    static void noPaper25AndBadAheadOfFull() {
        due(23, withPapers(23).paper(4, 2, 9, 9999, 99));
        refused(FULL, () -> withPapers(24), x -> x.paper(0, 0, 0, 0, 0), x -> x.paper(4, 2, 9, 9999, 99));
        refused(BAD, () -> withPapers(24), x -> x.paper(5, 0, 0, 0, 0), x -> x.paper(0, 3, 0, 0, 0), x -> x.paper(0, 0, 10, 0, 0));
        refused(BAD, () -> withPapers(24), x -> x.paper(0, 0, 0, 10000, 0), x -> x.paper(0, 0, 0, 0, 100));
    }

    @Sentence("Terms 2: of KINDS: 0 PAPER; 1 NOTE, 2 ASKED, under PAPER; 3 LETTER, under ASKED; 4 ORAL, under NOTE (all are PAPERS)")
    static void kindsAre0To4() {
        CabinetTable x = house();
        due(0, x.paper(0, 0, 0, 0, 0));
        due(1, x.paper(4, 0, 0, 0, 0));
        due(0, x.told(0, 0));
        due(4, x.told(1, 0));
        refused(BAD, Situations::busy, y -> y.paper(-1, 0, 0, 0, 0), y -> y.paper(5, 0, 0, 0, 0), y -> y.paper(MIN, 0, 0, 0, 0), y -> y.paper(MAX, 0, 0, 0, 0));
    }

    @Sentence("Terms 2: each by an OFFICE")
    static void byAnOfficeThatIsThere() {
        CabinetTable x = house();
        due(0, x.paper(0, 0, 0, 0, 0));
        due(1, x.paper(0, 2, 0, 0, 0));
        due(2, x.told(1, 1));
        refused(BAD, Situations::house, y -> y.paper(0, -1, 0, 0, 0), y -> y.paper(0, 3, 0, 0, 0), y -> y.paper(0, MIN, 0, 0, 0), y -> y.paper(0, MAX, 0, 0, 0));
    }

    @Sentence("Terms 2: on a THING 0 .. 9")
    static void thingsAre0To9() {
        CabinetTable x = house();
        due(0, x.paper(0, 0, 0, 0, 0));
        due(1, x.paper(0, 0, 9, 0, 0));
        due(9, x.told(1, 2));
        refused(BAD, Situations::busy, y -> y.paper(0, 0, -1, 0, 0), y -> y.paper(0, 0, 10, 0, 0), y -> y.paper(0, 0, MIN, 0, 0), y -> y.paper(0, 0, MAX, 0, 0));
    }

    @Sentence("Terms 2: with a SUM 0 .. 9999")
    static void sumsAre0To9999() {
        CabinetTable x = house();
        due(0, x.paper(0, 0, 0, 0, 0));
        due(1, x.paper(0, 0, 0, 9999, 0));
        due(0, x.told(0, 3));
        due(9999, x.told(1, 3));
        refused(BAD, Situations::busy, y -> y.paper(0, 0, 0, -1, 0), y -> y.paper(0, 0, 0, 10000, 0), y -> y.paper(0, 0, 0, MIN, 0), y -> y.paper(0, 0, 0, MAX, 0));
    }

    @Sentence("Terms 2: and a number a 0 .. 99")
    static void numbersAre0To99() {
        CabinetTable x = house();
        due(0, x.paper(0, 0, 0, 0, 0));
        due(1, x.paper(0, 0, 0, 0, 99));
        due(0, x.told(0, 4));
        due(99, x.told(1, 4));
        refused(BAD, Situations::busy, y -> y.paper(0, 0, 0, 0, -1), y -> y.paper(0, 0, 0, 0, 100), y -> y.paper(0, 0, 0, 0, MIN), y -> y.paper(0, 0, 0, 0, MAX));
    }

    @Sentence("Terms 2: not SENT (at first), or SENT on a DAY; TAKEN back, or not; AGREED by OFFICES, or refused (NOES), by bits; not yet at a TABLE")
    static void aPaperAtFirst() {
        CabinetTable x = until(withPapers(1), 4);
        int[] first = {NONE, 0, 0, 0, NONE, NONE, NONE};
        for (int what = 5; what <= 11; what++) {
            due(first[what - 5], x.told(0, what));
        }
        x.send(0);
        due(4, x.told(0, 5));
    }

    @Sentence("Promise 12: BAD.")
    static void whatIsToldOfAPaper() {
        CabinetTable x = withPapers(1);
        due(0, x.told(0, 0));
        due(1, x.told(0, 15));
        refused(BAD, Situations::busy, y -> y.told(0, -1), y -> y.told(0, 16), y -> y.told(0, MIN), y -> y.told(0, MAX));
        refused(BAD, Situations::busy, y -> y.told(-1, 0), y -> y.told(6, 0), y -> y.told(MIN, 0), y -> y.told(MAX, 0));
        refused(BAD, Situations::house, y -> y.told(0, 0), y -> y.told(0, 15));
    }

    @Sentence("Promise 12: 5 the DAY on which it was SENT (NONE), 6 whether TAKEN (1, 0)")
    static void toldOfSendingAndTaking() {
        CabinetTable x = until(withPapers(2), 1);
        due(NONE, x.told(0, 5));
        due(0, x.told(0, 6));
        x.send(0);
        due(1, x.told(0, 5));
        due(0, x.told(0, 6));
        x.take(0);
        due(1, x.told(0, 5));
        due(1, x.told(0, 6));
        due(NONE, x.told(1, 5));
        due(0, x.told(1, 6));
    }

    @Sentence("Promise 12: 9 the TABLE to which it CAME (NONE), 10 the DAY (NONE), 11 the OFFICE that LET it in (NONE)")
    static void toldOfComing() {
        CabinetTable x = until(withSentPapers(3), 7);
        x.come(0, 0, NONE);
        x.come(1, 1, 2);
        int[][] want = {{0, 7, NONE}, {1, 7, 2}, {NONE, NONE, NONE}};
        for (int paper = 0; paper < 3; paper++) {
            for (int i = 0; i < 3; i++) {
                due(want[paper][i], x.told(paper, 9 + i));
            }
        }
    }

    // ---- what each kind makes of its numbers

    private static int toldOf(int kind, int sum, int a, int what) {
        CabinetTable x = house();
        return x.told(x.paper(kind, 0, 0, sum, a), what);
    }

    @Sentence("Terms 2: PAPER: 5, and a tenth (cut) of a.")
    static void reachOfAPaper() {
        int[][] aAndReach = {{0, 5}, {9, 5}, {10, 6}, {89, 13}, {90, 14}, {99, 14}};
        for (int[] one : aAndReach) {
            due(one[1], toldOf(0, 0, one[0], 12));
        }
    }

    @Sentence("Terms 2: NOTE: as PAPER, less 2. ASKED: as PAPER, and 1.")
    static void reachOfANoteAndOfOneAsked() {
        int[][] aAndBoth = {{0, 3, 6}, {9, 3, 6}, {10, 4, 7}, {99, 12, 15}};
        for (int[] one : aAndBoth) {
            due(one[1], toldOf(1, 0, one[0], 12));
            due(one[2], toldOf(2, 0, one[0], 12));
        }
    }

    @Sentence("Terms 2: LETTER: half (cut) of as ASKED.")
    static void reachOfALetter() {
        int[][] aAndReach = {{0, 3}, {9, 3}, {10, 3}, {19, 3}, {20, 4}, {39, 4}, {40, 5}, {99, 7}};
        for (int[] one : aAndReach) {
            due(one[1], toldOf(3, 0, one[0], 12));
        }
    }

    @Sentence("Terms 2: ORAL: as NOTE, less 4, 0 at least.")
    static void reachOfAnOralOneIs0AtLeast() {
        int[][] aAndReach = {{0, 0}, {9, 0}, {10, 0}, {19, 0}, {20, 1}, {29, 1}, {30, 2}, {99, 8}};
        for (int[] one : aAndReach) {
            due(one[1], toldOf(4, 0, one[0], 12));
        }
    }

    @Sentence("Terms 2: SHUTS: PAPER: 300. NOTE: as PAPER, less a. ASKED: as PAPER, and twice a.")
    static void shutsOfThree() {
        int[][] aAndAll = {{0, 300, 300, 300}, {1, 300, 299, 302}, {99, 300, 201, 498}};
        for (int[] one : aAndAll) {
            due(one[1], toldOf(0, 0, one[0], 13));
            due(one[2], toldOf(1, 0, one[0], 13));
            due(one[3], toldOf(2, 0, one[0], 13));
        }
    }

    @Sentence("Terms 2: LETTER: twice as ASKED, less REACH.")
    static void shutsOfALetterGoByItsOwnReach() {
        int[][] aAndShuts = {{0, 597}, {1, 601}, {19, 673}, {20, 676}, {99, 989}};
        for (int[] one : aAndShuts) {
            due(one[1], toldOf(3, 0, one[0], 13));
        }
    }

    @Sentence("Terms 2: ORAL: a third (cut) of as NOTE.")
    static void shutsOfAnOralOneAreCut() {
        int[][] aAndShuts = {{0, 100}, {1, 99}, {3, 99}, {4, 98}, {98, 67}, {99, 67}, {97, 67}, {96, 68}};
        for (int[] one : aAndShuts) {
            due(one[1], toldOf(4, 0, one[0], 13));
        }
    }

    @Sentence("Terms 2: BINDS: PAPER: 1. NOTE: 0. ORAL: 1 less as NOTE.")
    static void bindsOfAllKinds() {
        int[] want = {1, 0, 1, 1, 1};
        for (int kind = 0; kind < 5; kind++) {
            due(want[kind], toldOf(kind, 9999, 99, 14));
            due(want[kind], toldOf(kind, 0, 0, 14));
        }
    }

    @Sentence("Terms 2: WEIGHS: PAPER: a hundredth (cut) of SUM, and a.")
    static void weighsOfAPaperIsCut() {
        int[][] sumAndWeighs = {{0, 7}, {99, 7}, {100, 8}, {199, 8}, {9899, 105}, {9900, 106}, {9999, 106}};
        for (int[] one : sumAndWeighs) {
            for (int kind = 0; kind < 3; kind++) {
                due(one[1], toldOf(kind, one[0], 7, 15));
            }
        }
        due(0, toldOf(0, 99, 0, 15));
        due(198, toldOf(0, 9999, 99, 15));
    }

    @Sentence("Terms 2: LETTER: as ASKED, and SHUTS. ORAL: as NOTE, less REACH times 2.")
    static void weighsOfALetterAndOfAnOralOne() {
        int[][] sumAAndBoth = {{0, 0, 597, 0}, {99, 0, 597, 0}, {100, 0, 598, 1}, {100, 19, 693, 20}, {100, 20, 697, 19}, {9999, 99, 1187, 182}};
        for (int[] one : sumAAndBoth) {
            due(one[2], toldOf(3, one[0], one[1], 15));
            due(one[3], toldOf(4, one[0], one[1], 15));
        }
    }

    @Sentence("Terms 2: (A KIND that is not named does as the one above it that is; REACH and SHUTS in another line are those of the paper itself.)")
    static void kindsThatAreNotNamed() {
        // BINDS does not name LETTER, nor ASKED above it; WEIGHS names neither NOTE nor ASKED.
        due(1, toldOf(3, 0, 50, 14));
        due(1, toldOf(2, 0, 50, 14));
        due(toldOf(0, 777, 50, 15), toldOf(1, 777, 50, 15));
        due(toldOf(0, 777, 50, 15), toldOf(2, 777, 50, 15));
        // The REACH of an ASKED of 50 is 11, of a LETTER 5; the SHUTS of an ASKED 400.
        due(795, toldOf(3, 0, 50, 13));
        due(845, toldOf(3, 0, 50, 15));
        // The REACH of a NOTE of 50 is 8, of an ORAL 4.
        due(42, toldOf(4, 0, 50, 15));
    }

    // ---- as, send, take, word

    @Sentence("Promise 13: A PAPER as one of a KIND: its SUM. BAD: paper, kind; KIND: it is not of that KIND, nor of one under it.")
    static void asAKindOfItsOwnOrAbove() {
        boolean[][] isOne = {
            {true, false, false, false, false}, {true, true, false, false, false}, {true, false, true, false, false}, {true, false, true, true, false}, {true, true, false, false, true},
        };
        CabinetTable x = house();
        for (int kind = 0; kind < 5; kind++) {
            x.paper(kind, 0, 0, 70 + kind, 0);
            for (int as = 0; as < 5; as++) {
                due(isOne[kind][as] ? 70 + kind : KIND, x.as(kind, as));
            }
        }
        refused(KIND, Situations::busy, y -> y.as(5, 1), y -> y.as(0, 3), y -> y.as(2, 4), y -> y.as(4, 1));
    }

    @Sentence("Promise 13: BAD: paper, kind; KIND")
    static void asIsBadAheadOfKind() {
        CabinetTable x = withPapers(2);
        due(100, x.as(0, 0));
        due(100, x.as(1, 0));
        due(KIND, x.as(1, 4));
        refused(BAD, () -> withPapers(2), y -> y.as(-1, 0), y -> y.as(2, 0), y -> y.as(MIN, 0), y -> y.as(MAX, 4));
        refused(BAD, () -> withPapers(2), y -> y.as(0, -1), y -> y.as(0, 5), y -> y.as(0, MIN), y -> y.as(0, MAX));
    }

    @Sentence("Promise 14: A PAPER is SENT: 1. BAD; NO: it is.")
    static void sentOnce() {
        CabinetTable x = withPapers(2);
        due(1, x.send(0));
        due(1, x.send(1));
        due(NO, x.send(0));
        refused(NO, Situations::busy, y -> y.send(0), y -> y.send(1), y -> y.send(4));
        refused(NO, () -> taken(1), y -> y.send(0));
        refused(BAD, () -> withPapers(2), y -> y.send(-1), y -> y.send(2), y -> y.send(MIN), y -> y.send(MAX));
    }

    /** A paper that was sent on day 0 and taken back on this one. */
    private static CabinetTable taken(int day) {
        CabinetTable x = until(withSentPapers(1), day);
        x.take(0);
        return x;
    }

    @Sentence("Promise 15: A PAPER is TAKEN back: 1. BAD; NO: it is, or it is not SENT, or it CAME.")
    static void takenOnceWhileOnItsWay() {
        due(1, withSentPapers(2).take(0));
        due(1, until(withSentPapers(2), 999).take(1));
        refused(NO, () -> taken(0), x -> x.take(0));
        refused(NO, () -> withPapers(1), x -> x.take(0));
        refused(NO, () -> withDecisions(1), x -> x.take(0));
        refused(NO, BoundsOfPapers::oneThatCame, x -> x.take(0));
        refused(BAD, () -> withSentPapers(2), x -> x.take(-1), x -> x.take(2), x -> x.take(MIN), x -> x.take(MAX));
    }

    private static CabinetTable oneThatCame() {
        CabinetTable x = house();
        arrived(x, 1, 0);
        return x;
    }

    @Sentence("Promise 16: An OFFICE says yes (1: it AGREED, no NO of it any more) or no (0: the other way round) to a PAPER: what it said (NONE: nothing).")
    static void yesAndNoTakeTurns() {
        CabinetTable x = withOffices(8);
        x.paper(0, 0, 0, 0, 0);
        x.send(0);
        for (int office = 0; office < 8; office += 7) {
            int bit = 1 << office;
            due(NONE, x.word(0, office, 1));
            due(1, x.word(0, office, 1));
            due(bit, x.told(0, 7) & bit);
            due(0, x.told(0, 8) & bit);
            due(1, x.word(0, office, 0));
            due(0, x.word(0, office, 0));
            due(0, x.told(0, 7) & bit);
            due(bit, x.told(0, 8) & bit);
        }
        due(0b10000001, x.told(0, 8));
        due(0, x.word(0, 0, 1));
        due(NONE, x.word(0, 1, 0));
        due(0b00000001, x.told(0, 7));
        due(0b10000010, x.told(0, 8));
    }

    @Sentence("Promise 16: BAD; NO: the PAPER is not SENT, or TAKEN, or it CAME.")
    static void wordsToAPaperOnItsWay() {
        due(NONE, withSentPapers(1).word(0, 2, 0));
        refused(NO, () -> withPapers(1), x -> x.word(0, 0, 1), x -> x.word(0, 0, 0));
        refused(NO, () -> taken(0), x -> x.word(0, 0, 1), x -> x.word(0, 0, 0));
        refused(NO, BoundsOfPapers::oneThatCame, x -> x.word(0, 0, 1), x -> x.word(0, 0, 0));
        refused(BAD, BoundsOfPapers::oneThatCame, x -> x.word(0, 3, 1), x -> x.word(0, 0, 2), x -> x.word(1, 0, 1));
        refused(BAD, () -> withSentPapers(1), x -> x.word(-1, 0, 1), x -> x.word(1, 0, 1), x -> x.word(MIN, 0, 1), x -> x.word(MAX, 0, 1));
        refused(BAD, () -> withSentPapers(1), x -> x.word(0, -1, 1), x -> x.word(0, 3, 1), x -> x.word(0, MIN, 1), x -> x.word(0, MAX, 1));
        refused(BAD, () -> withSentPapers(1), x -> x.word(0, 0, -1), x -> x.word(0, 0, 2), x -> x.word(0, 0, MIN), x -> x.word(0, 0, MAX));
    }
}
