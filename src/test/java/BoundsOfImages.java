/** Terms 0 and 6, promises 54 to 58: numbers that wait, the days told, images, counts, what a refused call leaves as it is. */
final class BoundsOfImages extends Situations {
    private static CabinetTable withNumbers(int many) {
        CabinetTable x = house();
        for (int i = 0; i < many; i++) {
            x.tell(i);
        }
        return x;
    }

    @Sentence("Promise 54: One more number waits: how many. FULL: 60 wait.")
    static void sixtyNumbersWait() {
        due(1, house().tell(MIN));
        due(1, house().tell(MAX));
        due(60, withNumbers(59).tell(0));
        refused(FULL, () -> withNumbers(60), x -> x.tell(0), x -> x.tell(MIN));
        CabinetTable x = withNumbers(60);
        x.keep();
        x.check(1);
        due(1, x.tell(5));
    }

    // ---- the days told

    /** An image of day 1; on days 2, 3, 4, 5 stand 0, 1, 1, 1 decisions, and 0, 0, 1, 1 papers are open. */
    private static CabinetTable kept() {
        CabinetTable x = withOneSent(2, 0);
        rule(x, "silent 2 2");
        rule(x, "shut 2 4");
        x.run(1);
        x.keep();
        return x;
    }

    private static final int[] DAYS_TOLD = {0, 0, 1, 0, 1, 1, 1, 1};

    private static CabinetTable tellingOf(Making situation, int[] row, int many) {
        CabinetTable x = situation.make();
        for (int i = 0; i < many; i++) {
            x.tell(row[i]);
        }
        return x;
    }

    /** The check answers so, no number waits then, and all else is as it was. */
    private static void checked(int want, int n, int[] row, int many) {
        refusedAs(BoundsOfImages::kept, want, () -> tellingOf(BoundsOfImages::kept, row, many), x -> x.check(n));
    }

    @Sentence("Promise 55: are THE DAYS TOLD of n DAYS (1 .. 28), two by two: 0")
    static void daysTold1To28() {
        checked(0, 4, DAYS_TOLD, 8);
        checked(0, 1, DAYS_TOLD, 2);
        checked(1, 1, DAYS_TOLD, 0);
        checked(1, 28, DAYS_TOLD, 0);
        int[] bad = {0, 29, -1, MIN, MAX};
        for (int n : bad) {
            checked(BAD, n, DAYS_TOLD, 2);
        }
    }

    @Sentence("Promise 55: are THE DAYS TOLD of n DAYS (1 .. 28)")
    static void all28Days() {
        int[] row = new int[60];
        for (int i = 0; i < 60; i++) {
            row[i] = i < 8 ? DAYS_TOLD[i] : 1;
        }
        checked(0, 28, row, 56);
        checked(57, 28, row, 57);
        checked(57, 28, row, 60);
        checked(56, 28, row, 55);
        row[55] = 0;
        checked(56, 28, row, 56);
    }

    @Sentence("Promise 55: else 1 and how many stand right ahead of the first that is not (or is missing, or one too many).")
    static void theFirstThatIsNotRight() {
        for (int place = 0; place < 8; place++) {
            int[] row = DAYS_TOLD.clone();
            row[place] ^= 1;
            checked(place + 1, 4, row, 8);
            // Missing, or one too many; what is not right is told ahead of that.
            checked(place + 1, 4, DAYS_TOLD, place);
        }
        for (int days = 1; days < 4; days++) {
            checked(2 * days + 1, days, DAYS_TOLD, 2 * days + 1);
            checked(2 * days + 1, days, DAYS_TOLD, 8);
        }
        checked(9, 4, new int[] {0, 0, 1, 0, 1, 1, 1, 1, 1}, 9);
        checked(1, 4, new int[] {1, 0, 1, 0, 1, 1, 1, 1, 1}, 9);
    }

    @Sentence("Promise 55: The numbers that wait (none do then, whatever is answered)")
    static void noneWaitsWhateverIsAnswered() {
        refusedAs(Situations::busyWithoutNumbers, BAD, Situations::busy, x -> x.check(0));
        refusedAs(Situations::busyWithoutNumbers, BAD, Situations::busy, x -> x.check(29));
        refusedAs(Situations::house, NO, () -> withNumbers(3), x -> x.check(1));
        refusedAs(Situations::house, NO, () -> withNumbers(60), x -> x.check(28));
        checked(0, 1, DAYS_TOLD, 2);
        checked(2, 1, DAYS_TOLD, 1);
    }

    @Sentence("Promise 55: BAD; NO: there is no IMAGE.")
    static void checkIsBadAheadOfNo() {
        due(NO, house().check(1));
        due(NO, house().check(28));
        due(BAD, house().check(0));
        due(BAD, house().check(29));
        due(BAD, kept().check(29));
        due(1, kept().check(28));
    }

    @Sentence("Terms 6: on the open DAY behind each of n DAYS from THE IMAGE on (beyond DAY 999, too; nobody doing anything)")
    static void daysToldBeyondTheLastDay() {
        CabinetTable x = onDay(998);
        x.paper(2, 0, 0, 0, 0);
        x.send(0);
        // It comes on day 1001, and stands on the open day behind it; it is open from day 1024 on.
        rule(x, "silent 2 2 if day > 1000");
        rule(x, "shut 2 26");
        x.run(1);
        x.keep();
        int[] row = new int[56];
        for (int i = 0; i < 28; i++) {
            row[2 * i] = 1000 + i > 1001 ? 1 : 0;
            row[2 * i + 1] = 1000 + i >= 1024 ? 1 : 0;
        }
        for (int told : row) {
            x.tell(told);
        }
        due(0, x.check(28));
        // The open day and the image are where they were.
        due(999, x.count(14));
        due(0, x.count(6));
        due(999, x.back());
        due(FULL, x.run(1));
    }

    @Sentence("Terms 6: THE DAYS TOLD: how many DECISIONS STAND, and how many PAPERS are OPEN")
    static void daysToldGoByTheImageAlone() {
        CabinetTable x = kept();
        x.paper(0, 0, 0, 0, 0);
        x.send(1);
        rule(x, "shut 0 0");
        until(x, 50);
        x.reopen(0);
        for (int told : DAYS_TOLD) {
            x.tell(told);
        }
        due(0, x.check(4));
        // What leans on one that is undone does not stand.
        CabinetTable leaning = withDecisions(2);
        decided(leaning, 0, 1, 1);
        leaning.reopen(0);
        leaning.keep();
        leaning.tell(1);
        leaning.tell(0);
        due(0, leaning.check(1));
        // A newer image is another one.
        x.keep();
        x.tell(0);
        x.tell(2);
        due(0, x.check(1));
    }

    @Sentence("Terms 6: (beyond DAY 999, too; nobody doing anything)")
    static void daysToldByAllThatTheImageKeeps() {
        CabinetTable x = house();
        int[][] officeAndThing = {{1, 0}, {0, 2}, {0, 0}};
        for (int i = 0; i < 3; i++) {
            x.paper(0, officeAndThing[i][0], officeAndThing[i][1], 0, 0);
            x.send(i);
        }
        rule(x, "shut 0 2 if by 1");
        rule(x, "shut 0 3 if thing 2");
        ruleFrom(x, 4, "shut 0 1");
        x.keep();
        int[] row = {0, 0, 0, 1, 0, 2, 0, 3};
        for (int told : row) {
            x.tell(told);
        }
        due(0, x.check(4));
    }

    @Sentence("Terms 6: THE DAYS TOLD: how many DECISIONS STAND")
    static void daysToldOfOneImageAndThenOfAnother() {
        CabinetTable x = withOneSent(2, 0);
        rule(x, "silent 2 20");
        x.keep();
        for (int i = 0; i < 42; i++) {
            x.tell(i == 40 ? 1 : 0);
        }
        due(0, x.check(21));
        // What stood on day 21 of the image is another one than what is decided now.
        decided(x, 0, 1, 0);
        x.keep();
        x.tell(1);
        x.tell(0);
        due(0, x.check(1));
        x.back();
        x.reopen(0);
        x.keep();
        x.tell(0);
        x.tell(0);
        due(0, x.check(1));
    }

    // ---- images

    @Sentence("Promise 56: AN IMAGE is kept: the DAY.")
    static void keptOnTheFirstAndOnTheLastDay() {
        CabinetTable x = house();
        due(0, x.keep());
        until(x, 999);
        due(0, x.back());
        due(0, x.count(14));
        until(x, 999);
        due(999, x.keep());
        due(999, x.back());
        due(999, x.count(14));
    }

    @Sentence("Promise 57: All is as THE IMAGE: the DAY. NO: there is none.")
    static void noImageAtFirst() {
        refused(NO, CabinetTable::new, CabinetTable::back);
        refused(NO, () -> onDay(5), CabinetTable::back);
        CabinetTable x = onDay(5);
        due(5, x.keep());
        x.run(1);
        due(5, x.back());
        due(5, x.back());
    }

    @Sentence("Terms 6: all can become as it is (again and again)")
    static void backAgainAndAgain() {
        Making image = () -> {
            CabinetTable x = busy();
            x.keep();
            return x;
        };
        int[][] before = View.pages(image);
        Call[] acts = {
            x -> x.office() + x.table(1, 1, 1) + x.paper(0, 0, 0, 0, 0), x -> x.run(60) + x.govern() + x.law(3, 1) + x.group(16),
            x -> x.send(2) + x.take(0) + x.word(4, 1, 0) + x.come(5, 0, 0) + x.decide(5, 1, 3), x -> x.reopen(0) + x.copy(0, 0, 0) + x.comesBack(0),
            x -> x.hold(0, 1) + x.seats(0, 0) + x.pass(0, 1, 0) + x.pass(2, 1, 1), x -> x.word(0, 0, 0) + x.word(0, 1, 1) + x.word(0, 2, 1),
        };
        for (Call act : acts) {
            Call thereAndBack = x -> act.on(x) + x.back() + act.on(x) + act.on(x) + x.back();
            asked++;
            if (!differ(before, View.pages(image, act))) {
                fault("the acts change nothing");
            }
            same(before, View.pages(image, thereAndBack));
        }
    }

    @Sentence("Terms 6: all can become as it is")
    static void whatCameBySilenceDidNotAnyMore() {
        CabinetTable x = until(withOneSent(2, 0), 6);
        x.keep();
        rule(x, "silent 2 6");
        x.run(1);
        due(6, x.told(0, 10));
        due(0, x.beside(99));
        x.back();
        due(0, x.come(0, 0, NONE));
        due(1, x.beside(99));
    }

    @Sentence("Terms 6: AN IMAGE keeps all but REGISTERS, SEATS of the room, numbers that wait, THE TAPE")
    static void whatAnImageDoesNotKeep() {
        CabinetTable x = house();
        x.keep();
        x.register(0, 1, 24);
        x.note(0, 23, 300);
        x.lay(0, 3, 44);
        x.tell(1);
        x.tell(2);
        rule(x, "shut 0 55");
        x.register(3, 0, 1);
        PromisesTest.type(x, "shut 0 77");
        x.back();
        due(300, x.note(0, 23, 1));
        due(0, x.note(3, 0, 0));
        due(44, x.rest(0, 100));
        due(2, x.count(12));
        due(9, x.count(13));
        due(0, x.count(5));
        due(0, x.rule(0));
        due(77, x.of(0, 2));
    }

    @Sentence("Terms 6: AN IMAGE keeps all")
    static void countsAreGivenBackTheirBounds() {
        // What was full is so no more, and the other way round.
        CabinetTable x = withOffices(7);
        x.keep();
        due(7, x.office());
        due(FULL, x.office());
        x.back();
        due(7, x.count(0));
        due(BAD, x.held(7, 0));
        due(7, x.office());
        x.keep();
        x.back();
        due(FULL, x.office());
        CabinetTable y = withDecisions(23);
        y.keep();
        due(23, decided(y, 0, 1, 0));
        y.back();
        due(23, y.count(6));
        due(BAD, y.is(23, 0));
        due(23, decided(y, 0, 1, (1 << 23) - 1));
    }

    // ---- counts

    @Sentence("Promise 58: 12 numbers that wait, 13 bytes of THE TAPE, 14 the DAY, 15 the GOVERNMENT. BAD.")
    static void countsOf0To15() {
        CabinetTable x = busy();
        int[] want = {4, 3, 6, 5, 2, 5, 2, 2, 3, 2, 2, 3, 3, 8, 3, 1};
        for (int what = 0; what < 16; what++) {
            due(want[what], x.count(what));
        }
        refused(BAD, Situations::busy, y -> y.count(-1), y -> y.count(16), y -> y.count(MIN), y -> y.count(MAX));
    }

    @Sentence("Promise 58: 2 PAPERS, 3 of these SENT, 4 that CAME, 5 RULES, 6 DECISIONS, 7 of these that STAND now, 8 COPIES, 9 of these out")
    static void countsOfSome() {
        CabinetTable x = withPapers(4);
        x.send(0);
        x.send(1);
        x.take(1);
        x.send(3);
        x.come(0, 0, 0);
        due(4, x.count(2));
        due(3, x.count(3));
        due(1, x.count(4));
        x.come(3, 0, 0);
        due(2, x.count(4));
        x.decide(3, 1, 0);
        due(1, x.count(7));
        x.reopen(0);
        due(1, x.count(6));
        due(0, x.count(7));
        x.copy(0, 0, 0);
        x.comesBack(0);
        due(1, x.count(8));
        due(0, x.count(9));
    }

    // ---- what is refused

    @Sentence("Terms 0: A call that is refused answers one of BAD, NO, FULL, or a FINDING, of several the one that stands first with it, and changes nothing (but the tape and the numbers that wait, where told).")
    static void whatIsRefusedChangesNothing() {
        refused(BAD, Situations::busy, x -> x.hold(4, 0), x -> x.table(0, 0, 0), x -> x.seats(3, 0), x -> x.pass(1, 1, 0), x -> x.way(3, 0, 0, 0));
        refused(BAD, Situations::busy, x -> x.paper(0, 4, 0, 0, 0), x -> x.send(6), x -> x.take(6), x -> x.word(0, 4, 1), x -> x.trim(9));
        refused(BAD, Situations::busy, x -> x.come(0, 3, 0), x -> x.decide(3, 1, 4), x -> x.reopen(2), x -> x.law(10, 1), x -> x.run(61));
        refused(BAD, Situations::busy, x -> x.copy(6, 0, 0), x -> x.comesBack(3), x -> x.group(0), x -> x.register(0, 2, 4), x -> x.note(4, 0, 1));
        refused(BAD, Situations::busy, x -> x.carry(0, 0, 4, 0, 1), x -> x.lay(0, 4, 0), x -> x.count(16), x -> x.beside(100), x -> x.quarrel(0, 0));
        refused(NO, Situations::busy, x -> x.send(0), x -> x.take(1), x -> x.word(1, 0, 0), x -> x.word(2, 0, 1), x -> x.come(5, 0, 3));
        refused(NO, Situations::busy, x -> x.come(2, 0, 0), x -> x.decide(1, 1, 0), x -> x.decide(3, 1, 1), x -> x.rest(2, 0));
        refused(KIND, Situations::busy, x -> x.decide(2, 1, 0), x -> x.carry(0, 0, 1, 0, 1), x -> x.quarrel(0, 1), x -> x.item(2, 0));
        refused(INDEX, Situations::busy, x -> x.note(0, 4, 1), x -> x.carry(0, 2, 0, 0, 3), x -> x.note(2, 0, 1), x -> x.item(1, 3));
        refused(NOTHING, Situations::busy, x -> x.note(3, 0, 1), x -> x.carry(3, 0, 0, 0, 1), x -> x.lay(0, 2, 3), x -> x.ask(5, 0));
        refused(SIZE, Situations::busy, x -> x.register(0, 0, -1), x -> x.register(3, 1, -1));
    }

    @Sentence("Terms 0: (but the tape and the numbers that wait, where told)")
    static void otherCallsLeaveTheTapeAndTheNumbers() {
        // Neither of the two uses up what the other one does.
        CabinetTable x = busy();
        due(BAD, x.rule(1000));
        due(0, x.count(13));
        due(3, x.count(12));
        CabinetTable y = busy();
        due(BAD, y.check(29));
        due(8, y.count(13));
        due(0, y.count(12));
    }

    @Sentence("Terms 0: NONE: there is none.")
    static void whatAsksChangesNothing() {
        refused(NONE, Situations::busy, x -> x.held(2, 0), x -> x.way(20, 0, 0, 0), x -> x.why(0, 0), x -> x.law(9, NONE));
        refused(NONE, Situations::busy, x -> x.current(9, 999), x -> x.bound(3, 3), x -> x.against(1), x -> x.more(9), x -> x.look(0, 255, 0));
    }
}
