/** Terms 4, promises 25 to 37: what a paper lacks, how it comes, what is decided and stands, days that go by. */
final class BoundsOfDecisions extends Situations {
    // ---- what it lacks

    /** A paper that is sent on day 0, on this day, with rules. */
    private static CabinetTable sentUntil(int day, String... texts) {
        CabinetTable x = withSentPapers(1);
        for (String text : texts) {
            rule(x, text);
        }
        return until(x, day);
    }

    private static CabinetTable takenBack() {
        CabinetTable x = sentUntil(5);
        x.take(0);
        return x;
    }

    private static CabinetTable oneThatCame() {
        CabinetTable x = house();
        arrived(x, 0, 0);
        return x;
    }

    @Sentence("Terms 4: 1 it is not SENT, or TAKEN, or it CAME")
    static void lacks1() {
        due(0, sentUntil(5).lacks(0, 0));
        due(1, until(withPapers(1), 5).lacks(0, 0));
        due(1, takenBack().lacks(0, 0));
        due(1, until(oneThatCame(), 5).lacks(0, 0));
        // It is told ahead of all else.
        due(1, withPapers(1).lacks(0, 1));
        CabinetTable x = sentUntil(5, "need 0 1");
        x.take(0);
        due(1, x.lacks(0, 1));
    }

    @Sentence("Terms 4: 2 its TABLE is another one; 3 that TABLE does not SIT on this DAY")
    static void lacks2AheadOf3() {
        due(0, sentUntil(7).lacks(0, 0));
        due(2, sentUntil(7).lacks(0, 1));
        due(2, sentUntil(7, "table 0 1").lacks(0, 0));
        due(0, sentUntil(7, "table 0 1").lacks(0, 1));
        due(3, sentUntil(6, "table 0 1").lacks(0, 1));
        due(3, sentUntil(8, "table 0 1").lacks(0, 1));
        due(2, sentUntil(6).lacks(0, 1));
    }

    @Sentence("Terms 4: 3 that TABLE does not SIT on this DAY; 4 since it was SENT fewer DAYS went by than AHEAD")
    static void lacks3AheadOf4() {
        due(4, sentUntil(1, "table 0 1").lacks(0, 1));
        due(3, sentUntil(2, "table 0 1").lacks(0, 1));
        due(4, sentUntil(4, "table 0 1").lacks(0, 1));
        due(3, sentUntil(0, "table 0 1").lacks(0, 1));
    }

    @Sentence("Terms 4: 4 since it was SENT fewer DAYS went by than AHEAD")
    static void asManyDaysAsAhead() {
        due(4, sentUntil(4).lacks(0, 0));
        due(0, sentUntil(5).lacks(0, 0));
        due(0, sentUntil(0, "ahead 0 0").lacks(0, 0));
        due(4, sentUntil(0, "ahead 0 1").lacks(0, 0));
        due(0, sentUntil(1, "ahead 0 1").lacks(0, 0));
        due(4, sentUntil(98, "ahead 0 99").lacks(0, 0));
        due(0, sentUntil(99, "ahead 0 99").lacks(0, 0));
        // The days are those since it was sent, not since it was made.
        CabinetTable x = until(withPapers(1), 10);
        x.send(0);
        due(4, until(x, 14).lacks(0, 0));
        due(0, until(x, 15).lacks(0, 0));
    }

    @Sentence("Terms 4: 4 since it was SENT fewer DAYS went by than AHEAD")
    static void lacksGoesByAheadAsItIsNow() {
        CabinetTable x = sentUntil(5, "ahead 0 9 if day > 5");
        due(0, x.lacks(0, 0));
        due(4, until(x, 6).lacks(0, 0));
        due(0, until(x, 9).lacks(0, 0));
    }

    @Sentence("Terms 4: 10 and the least OFFICE of NEED that has not AGREED; 0: nothing.")
    static void lacks10AndTheLeastOffice() {
        due(4, sentUntil(4, "need 0 1").lacks(0, 0));
        due(11, sentUntil(5, "need 0 1").lacks(0, 0));
        due(10, sentUntil(5, "need 0 2", "need 0 0").lacks(0, 0));
        CabinetTable x = sentUntil(5, "need 0 2", "need 0 1");
        due(11, x.lacks(0, 0));
        x.word(0, 1, 1);
        due(12, x.lacks(0, 0));
        x.word(0, 2, 0);
        due(12, x.lacks(0, 0));
        x.word(0, 2, 1);
        due(0, x.lacks(0, 0));
        x.word(0, 1, 0);
        due(11, x.lacks(0, 0));
        CabinetTable y = withOffices(8);
        y.table(0, 1, 0);
        y.paper(4, 0, 0, 0, 0);
        y.send(0);
        due(0, y.lacks(0, 0));
        rule(y, "need 0 7");
        due(17, y.lacks(0, 0));
    }

    @Sentence("Promise 25: LACKS. BAD.")
    static void lacksOfWhatIsThere() {
        due(4, withSentPapers(2).lacks(1, 0));
        due(2, withSentPapers(2).lacks(0, 1));
        refused(BAD, () -> withSentPapers(2), x -> x.lacks(-1, 0), x -> x.lacks(2, 0), x -> x.lacks(MIN, 0), x -> x.lacks(MAX, 0));
        refused(BAD, () -> withSentPapers(2), x -> x.lacks(0, -1), x -> x.lacks(0, 2), x -> x.lacks(0, MIN), x -> x.lacks(0, MAX));
    }

    // ---- how it comes

    @Sentence("Promise 26: A PAPER COMES to a TABLE, LET in by an OFFICE (NONE: by nobody): what it LACKS. BAD")
    static void comeIsBad() {
        due(0, sentUntil(5).come(0, 0, NONE));
        due(4, sentUntil(4).come(0, 0, 1));
        refused(BAD, () -> sentUntil(5), x -> x.come(-1, 0, NONE), x -> x.come(1, 0, NONE), x -> x.come(MIN, 0, NONE), x -> x.come(MAX, 0, NONE));
        refused(BAD, () -> sentUntil(5), x -> x.come(0, -1, NONE), x -> x.come(0, 2, NONE), x -> x.come(0, MIN, NONE), x -> x.come(0, MAX, NONE));
        refused(BAD, () -> sentUntil(5), x -> x.come(0, 0, -1), x -> x.come(0, 0, 3), x -> x.come(0, 0, NONE - 1), x -> x.come(0, 0, NONE + 1));
        // BAD is ahead of NO.
        refused(BAD, () -> withPapers(1), x -> x.come(0, 0, 3), x -> x.come(0, 2, 0), x -> x.come(1, 0, 0));
    }

    @Sentence("Promise 26: NO: it LACKS 1, or something, and nobody with a SEAT there lets it in.")
    static void comeIsRefused() {
        refused(NO, () -> withPapers(1), x -> x.come(0, 0, 0), x -> x.come(0, 0, NONE));
        refused(NO, BoundsOfDecisions::takenBack, x -> x.come(0, 0, 0), x -> x.come(0, 0, NONE));
        refused(NO, () -> until(oneThatCame(), 9), x -> x.come(0, 0, 0), x -> x.come(0, 1, 0), x -> x.come(0, 0, NONE));
        // Offices 0 and 1 have a seat at table 0, office 2 has none.
        refused(NO, () -> sentUntil(4), x -> x.come(0, 0, NONE), x -> x.come(0, 0, 2));
        refused(NO, () -> sentUntil(5, "need 0 1"), x -> x.come(0, 0, NONE), x -> x.come(0, 0, 2));
        refused(NO, () -> sentUntil(7), x -> x.come(0, 1, NONE));
        due(4, sentUntil(4).come(0, 0, 0));
        due(11, sentUntil(5, "need 0 1").come(0, 0, 1));
        due(2, sentUntil(7).come(0, 1, 2));
        due(3, sentUntil(6, "table 0 1").come(0, 1, 0));
    }

    @Sentence("Terms 4: It COMES, if it LACKS nothing, or 2 or more and is LET in by an OFFICE that has a SEAT there.")
    static void aSeatAtTheTableToWhichItComes() {
        CabinetTable x = withSentPapers(1);
        x.seats(1, 0b101);
        due(NO, x.come(0, 1, 1));
        due(2, x.come(0, 1, 2));
        due(1, x.told(0, 9));
        CabinetTable y = withOffices(8);
        y.table(0b10000001, 1, 0);
        for (int i = 0; i < 2; i++) {
            y.paper(0, 0, 0, 0, 0);
            y.send(i);
        }
        due(NO, y.come(0, 0, 6));
        due(4, y.come(0, 0, 7));
        due(NO, y.come(1, 0, 1));
        due(4, y.come(1, 0, 0));
    }

    @Sentence("Promise 26: (It is LET in by that OFFICE only if it LACKS something.)")
    static void letInOnlyIfItLacksSomething() {
        int[] offices = {0, 2, NONE};
        for (int office : offices) {
            CabinetTable x = sentUntil(5);
            due(0, x.come(0, 0, office));
            due(NONE, x.told(0, 11));
            due(0, x.told(0, 9));
            due(5, x.told(0, 10));
        }
        CabinetTable y = sentUntil(4);
        due(4, y.come(0, 0, 1));
        due(1, y.told(0, 11));
    }

    // ---- decisions

    /** As many decisions, then a paper that came on the open day: its number is theirs. */
    private static CabinetTable readyBehind(int decisions, int kind) {
        CabinetTable x = withDecisions(decisions);
        arrived(x, kind, 0);
        return x;
    }

    @Sentence("Terms 4: DECISIONS, 24 at most, numbered from 0")
    static void decisionsAreNumberedFrom0To23() {
        CabinetTable x = house();
        for (int i = 0; i < 24; i++) {
            due(i, x.count(6));
            due(i, decided(x, 0, i, 0));
        }
        due(24, x.count(6));
        due(23, x.is(23, 2));
        due(BAD, x.is(24, 2));
        // Each paper has one then: there is none left for which FULL could be told.
        refused(NO, () -> withDecisions(24), y -> y.decide(0, 0, 0), y -> y.decide(23, 0, 0));
        refused(FULL, () -> withDecisions(24), y -> y.paper(0, 0, 0, 0, 0));
    }

    @Sentence("Terms 4: a VALUE 0 .. 99")
    static void valuesAre0To99() {
        CabinetTable x = house();
        due(0, decided(x, 0, 0, 0));
        due(1, decided(x, 0, 99, 0));
        due(0, x.is(0, 2));
        due(99, x.is(1, 2));
        refused(BAD, () -> readyBehind(0, 0), y -> y.decide(0, -1, 0), y -> y.decide(0, 100, 0), y -> y.decide(0, MIN, 0), y -> y.decide(0, MAX, 0));
    }

    @Sentence("Terms 4: LEANING on other ones (bits of those that are there)")
    static void leaningOnThoseThatAreThere() {
        due(0, readyBehind(0, 0).decide(0, 0, 0));
        due(2, readyBehind(2, 0).decide(2, 0, 0));
        due(2, readyBehind(2, 0).decide(2, 0, 3));
        due(23, readyBehind(23, 0).decide(23, 0, (1 << 23) - 1));
        refused(BAD, () -> readyBehind(0, 0), x -> x.decide(0, 0, 1), x -> x.decide(0, 0, -1));
        refused(BAD, () -> readyBehind(2, 0), x -> x.decide(2, 0, 4), x -> x.decide(2, 0, 7), x -> x.decide(2, 0, -1), x -> x.decide(2, 0, MIN));
        refused(BAD, () -> readyBehind(23, 0), x -> x.decide(23, 0, 1 << 23), x -> x.decide(23, 0, 1 << 24), x -> x.decide(23, 0, MAX));
        // One that does not stand is there, too.
        CabinetTable y = withDecisions(1);
        y.reopen(0);
        due(1, decided(y, 0, 0, 1));
        due(0, y.is(1, 8));
    }

    @Sentence("Promise 27: BAD: paper, value, leans; KIND: BINDS of it is 0")
    static void badAheadOfKind() {
        due(0, readyBehind(0, 0).decide(0, 1, 0));
        due(0, readyBehind(0, 4).decide(0, 1, 0));
        refused(KIND, () -> readyBehind(0, 1), x -> x.decide(0, 1, 0));
        refused(BAD, () -> readyBehind(0, 1), x -> x.decide(0, 100, 0), x -> x.decide(0, 1, 1), x -> x.decide(1, 1, 0));
        refused(BAD, () -> readyBehind(0, 0), x -> x.decide(-1, 1, 0), x -> x.decide(1, 1, 0), x -> x.decide(MIN, 1, 0), x -> x.decide(MAX, 1, 0));
    }

    @Sentence("Promise 27: KIND: BINDS of it is 0; NO: it did not COME, or not on this DAY, or there is a DECISION by it")
    static void kindAheadOfNo() {
        refused(KIND, () -> noteOf(withPapers(0)), x -> x.decide(0, 1, 0));
        refused(KIND, () -> until(readyBehind(0, 1), 1), x -> x.decide(0, 1, 0));
        refused(NO, () -> withPapers(1), x -> x.decide(0, 1, 0));
        refused(NO, () -> withSentPapers(1), x -> x.decide(0, 1, 0));
        refused(NO, () -> until(readyBehind(0, 0), 1), x -> x.decide(0, 1, 0));
        refused(NO, () -> withDecisions(1), x -> x.decide(0, 1, 0), x -> x.decide(0, 2, 1));
        refused(BAD, () -> withPapers(1), x -> x.decide(0, 100, 0), x -> x.decide(0, 1, 1));
        // One that was undone is a decision by it all the same.
        CabinetTable y = withDecisions(1);
        y.reopen(0);
        due(NO, y.decide(0, 1, 0));
        due(0, until(readyBehind(0, 0), 0).decide(0, 1, 0));
    }

    private static CabinetTable noteOf(CabinetTable x) {
        x.paper(1, 0, 0, 0, 0);
        return x;
    }

    @Sentence("Promise 27: not on this DAY")
    static void onTheLastDayToo() {
        CabinetTable x = onDay(999);
        due(0, decided(x, 0, 1, 0));
        due(1, x.is(0, 8));
        // By silence it came on the day ahead of the open one.
        CabinetTable y = withOneSent(2, 0);
        rule(y, "silent 2 1");
        y.run(2);
        due(1, y.told(0, 10));
        due(NO, y.decide(0, 1, 0));
    }

    @Sentence("Terms 4: BINDING who has a SEAT at the TABLE to which the PAPER CAME (as it is then)")
    static void bindingWhoHasASeatThen() {
        CabinetTable x = house();
        arrived(x, 0, 0);
        x.seats(0, 0b10000001);
        x.decide(0, 1, 0);
        x.seats(0, 0);
        due(0b10000001, x.is(0, 4));
        due(1, decided(withDecisions(1), 0, 1, 0));
        x.seats(0, 1);
        arrived(x, 0, 0);
        x.seats(0, 0);
        x.decide(1, 1, 0);
        due(0, x.is(1, 4));
        // The table to which it came, not the one to which it should have come.
        x.paper(0, 0, 0, 0, 0);
        x.send(2);
        x.come(2, 1, 0);
        x.decide(2, 1, 0);
        due(7, x.is(2, 4));
    }

    @Sentence("Promise 28: 6 the DAY from which it is UNDONE (NONE), 7 the GOVERNMENT, 8 whether it STANDS now (1, 0). BAD.")
    static void whatIsToldOfADecision() {
        CabinetTable x = withDecisions(2);
        due(0, x.is(0, 0));
        due(NONE, x.is(0, 6));
        due(1, x.is(0, 8));
        until(x, 3);
        x.govern();
        x.reopen(0);
        due(3, x.is(0, 6));
        due(0, x.is(0, 7));
        due(0, x.is(0, 8));
        due(NONE, x.is(1, 6));
        due(1, x.is(1, 8));
        refused(BAD, () -> withDecisions(2), y -> y.is(-1, 0), y -> y.is(2, 0), y -> y.is(MIN, 8), y -> y.is(MAX, 0));
        refused(BAD, () -> withDecisions(2), y -> y.is(0, -1), y -> y.is(0, 9), y -> y.is(1, MIN), y -> y.is(1, MAX));
        refused(BAD, Situations::house, y -> y.is(0, 0));
    }

    // ---- what stands

    @Sentence("Terms 4: It STANDS on a DAY, if it was decided by then, not UNDONE by then")
    static void fromTheDayOnWhichItWasDecidedUntilItIsUndone() {
        CabinetTable x = onDay(3);
        decided(x, 0, 1, 0);
        until(x, 6);
        x.reopen(0);
        int[] want = {NONE, NONE, NONE, 0, 0, 0, NONE, NONE};
        for (int day = 0; day < want.length; day++) {
            due(want[day], x.current(0, day));
        }
        due(NONE, x.current(0, 999));
        // Decided and undone on one day, it never stands.
        decided(x, 1, 1, 0);
        due(1, x.current(1, 6));
        x.reopen(1);
        due(NONE, x.current(1, 6));
        due(NONE, x.current(1, 999));
    }

    @Sentence("Terms 4: and all on which it LEANS STAND on that DAY")
    static void asLongAsAllOnWhichItLeansStand() {
        CabinetTable x = house();
        decided(x, 1, 1, 0);
        decided(x, 2, 1, 0);
        decided(x, 3, 1, 0b011);
        decided(x, 4, 1, 0b100);
        until(x, 5);
        due(0b1110, x.reopen(1));
        int[] day4 = {0, 1, 2, 3};
        int[] day5 = {0, NONE, NONE, NONE};
        for (int thing = 1; thing <= 4; thing++) {
            due(day4[thing - 1], x.current(thing, 4));
            due(day5[thing - 1], x.current(thing, 5));
        }
        due(1, x.count(7));
        due(NONE, x.is(2, 6));
    }

    @Sentence("Promise 29: A DECISION is UNDONE from the open DAY on: all that FALLS with it, as bits. BAD; NO: it does not STAND.")
    static void reopenedOnceAndWhileItStands() {
        CabinetTable x = withDecisions(2);
        decided(x, 0, 1, 1);
        due(5, x.reopen(0));
        due(2, x.reopen(1));
        due(0, x.count(7));
        refused(NO, BoundsOfDecisions::oneUndone, y -> y.reopen(0), y -> y.reopen(2));
        refused(BAD, BoundsOfDecisions::oneUndone, y -> y.reopen(-1), y -> y.reopen(3), y -> y.reopen(MIN), y -> y.reopen(MAX));
        refused(BAD, Situations::house, y -> y.reopen(0));
    }

    /** Decision 0 is undone, 1 stands, 2 leans on 0. */
    private static CabinetTable oneUndone() {
        CabinetTable x = withDecisions(2);
        decided(x, 0, 1, 1);
        x.run(1);
        x.reopen(0);
        return x;
    }

    @Sentence("Promise 30: FALLS with a DECISION, as bits. BAD; NO: it does not STAND.")
    static void fallsOfWhatStands() {
        due(2, oneUndone().falls(1));
        refused(NO, BoundsOfDecisions::oneUndone, x -> x.falls(0), x -> x.falls(2));
        refused(BAD, BoundsOfDecisions::oneUndone, x -> x.falls(-1), x -> x.falls(3), x -> x.falls(MIN), x -> x.falls(MAX));
        refused(2, BoundsOfDecisions::oneUndone, x -> x.falls(1));
    }

    @Sentence("Terms 4: FALLS with a DECISION: all that STAND now and would not, if it were UNDONE (with itself).")
    static void allThatFalls() {
        CabinetTable x = house();
        for (int i = 0; i < 24; i++) {
            decided(x, 0, 1, i == 0 ? 0 : 1 << (i - 1));
        }
        due((1 << 24) - 1, x.falls(0));
        due(1 << 23, x.falls(23));
        due((1 << 24) - (1 << 22), x.reopen(22));
        due((1 << 22) - 1, x.falls(0));
        due(1 << 21, x.falls(21));
    }

    @Sentence("Promise 31: CURRENT of a THING on a DAY (0 .. 999). BAD; NONE.")
    static void currentOnDays0To999() {
        CabinetTable x = house();
        due(NONE, x.current(0, 0));
        decided(x, 0, 1, 0);
        decided(x, 9, 1, 0);
        due(0, x.current(0, 0));
        due(0, x.current(0, 999));
        due(1, x.current(9, 0));
        due(NONE, x.current(8, 0));
        refused(BAD, Situations::busy, y -> y.current(0, -1), y -> y.current(0, 1000), y -> y.current(0, MIN), y -> y.current(0, MAX));
        refused(BAD, Situations::busy, y -> y.current(-1, 0), y -> y.current(10, 0), y -> y.current(MIN, 0), y -> y.current(MAX, 0));
    }

    @Sentence("Terms 4: CURRENT of a THING (on a DAY): the greatest of its DECISIONS that STANDS.")
    static void theGreatestThatStands() {
        CabinetTable x = withDecisions(3);
        decided(x, 1, 1, 0);
        due(2, x.current(0, 0));
        x.reopen(2);
        due(1, x.current(0, 0));
        x.reopen(0);
        due(1, x.current(0, 0));
        x.reopen(1);
        due(NONE, x.current(0, 0));
        due(3, x.current(1, 0));
    }

    @Sentence("Promise 32: BOUND of an OFFICE by a THING. BAD; NONE.")
    static void boundOfOfficesAndThings() {
        CabinetTable x = house();
        due(NONE, x.bound(0, 0));
        decided(x, 9, 1, 0);
        due(0, x.bound(0, 9));
        due(0, x.bound(1, 9));
        due(NONE, x.bound(2, 9));
        due(NONE, x.bound(0, 0));
        refused(BAD, () -> withDecisions(1), y -> y.bound(-1, 0), y -> y.bound(3, 0), y -> y.bound(MIN, 0), y -> y.bound(MAX, 0));
        refused(BAD, () -> withDecisions(1), y -> y.bound(0, -1), y -> y.bound(0, 10), y -> y.bound(0, MIN), y -> y.bound(0, MAX));
    }

    @Sentence("Terms 4: BOUND of an OFFICE by a THING: the greatest that STANDS now and binds it.")
    static void boundByTheGreatestThatStandsAndBinds() {
        CabinetTable x = withDecisions(2);
        x.seats(0, 0b1001);
        decided(x, 0, 1, 0);
        due(2, x.bound(0, 0));
        due(1, x.bound(1, 0));
        x.reopen(1);
        due(0, x.bound(1, 0));
        x.reopen(2);
        due(0, x.bound(0, 0));
        // An office that was not there then is bound by its seat.
        decided(x, 0, 1, 0);
        x.office();
        due(3, x.bound(3, 0));
    }

    @Sentence("Terms 4: AGAINST: two that STAND now, on one THING, of unlike VALUES, both BINDING one OFFICE.")
    static void whatIsAgainst() {
        due(1, twoDecisions(0, 0, 1, 3, 0).against(0));
        due(0, twoDecisions(0, 1, 1, 3, 0).against(0));
        due(0, twoDecisions(0, 0, 0, 3, 0).against(0));
        due(1, twoDecisions(0, 0, 99, 2, 0).against(0));
        due(0, twoDecisions(0, 0, 1, 4, 0).against(0));
        due(0, twoDecisions(0, 0, 1, 0, 0).against(0));
        CabinetTable x = twoDecisions(0, 0, 1, 3, 0);
        x.reopen(0);
        due(0, x.against(0));
        CabinetTable y = twoDecisions(0, 0, 1, 3, 1);
        due(1, y.against(0));
        y.reopen(0);
        due(0, y.against(0));
    }

    /** The first of value 0 binds offices 0 and 1, the second whom it is told to; it may lean on the first. */
    private static CabinetTable twoDecisions(int thing, int otherThing, int value, int seats, int leans) {
        CabinetTable x = house();
        decided(x, thing, 0, 0);
        arrived(x, 0, otherThing);
        x.seats(0, seats);
        x.decide(1, value, leans);
        return x;
    }

    @Sentence("Promise 33: what 0 how many twos there are, 1 the lesser, 2 the greater one of the first two (by the lesser, then the greater; NONE). BAD.")
    static void theFirstTwo() {
        CabinetTable x = house();
        due(0, x.against(0));
        due(NONE, x.against(1));
        due(NONE, x.against(2));
        int[][] thingAndValue = {{1, 5}, {0, 5}, {0, 5}, {0, 6}, {0, 7}, {1, 6}};
        for (int[] one : thingAndValue) {
            decided(x, one[0], one[1], 0);
        }
        due(6, x.against(0));
        due(0, x.against(1));
        due(5, x.against(2));
        x.reopen(0);
        due(5, x.against(0));
        due(1, x.against(1));
        due(3, x.against(2));
        refused(BAD, Situations::busy, y -> y.against(-1), y -> y.against(3), y -> y.against(MIN), y -> y.against(MAX));
    }

    @Sentence("Promise 33: how many twos there are")
    static void asManyTwosAsThereCanBe() {
        CabinetTable x = house();
        for (int i = 0; i < 24; i++) {
            decided(x, 0, i, 0);
        }
        due(276, x.against(0));
    }

    // ---- the law

    @Sentence("Terms 4: LAW of a THING: a VALUE that an act gave it, 0 .. 99, or none")
    static void lawsAre0To99() {
        CabinetTable x = house();
        due(NONE, x.law(0, 0));
        due(0, x.law(0, 99));
        due(99, x.law(0, NONE));
        due(NONE, x.law(0, 0));
        refused(BAD, Situations::busy, y -> y.law(3, -1), y -> y.law(3, 100), y -> y.law(3, MIN), y -> y.law(3, MAX));
        refused(BAD, Situations::busy, y -> y.law(3, NONE - 1), y -> y.law(3, NONE + 1));
    }

    @Sentence("Promise 34: LAW of a THING becomes v (NONE: none): what it was (NONE). BAD.")
    static void lawsOfThings0To9() {
        CabinetTable x = house();
        due(NONE, x.law(0, 1));
        due(NONE, x.law(9, 2));
        due(1, x.law(0, NONE));
        due(2, x.law(9, NONE));
        refused(BAD, Situations::busy, y -> y.law(-1, 0), y -> y.law(10, 0), y -> y.law(MIN, 0), y -> y.law(MAX, NONE));
    }

    @Sentence("Promise 35: By how much LAW of a THING is MORE. BAD; NONE: there is no LAW, or nothing is CURRENT.")
    static void moreWithoutLawOrCurrent() {
        CabinetTable x = house();
        due(NONE, x.more(0));
        x.law(0, 0);
        due(NONE, x.more(0));
        decided(x, 0, 0, 0);
        due(0, x.more(0));
        x.law(0, NONE);
        due(NONE, x.more(0));
        x.law(0, 5);
        x.reopen(0);
        due(NONE, x.more(0));
        due(NONE, x.more(9));
        refused(BAD, Situations::busy, y -> y.more(-1), y -> y.more(10), y -> y.more(MIN), y -> y.more(MAX));
    }

    @Sentence("Terms 4: MORE than decided: LAW less the VALUE of CURRENT now")
    static void moreMayBeLess() {
        CabinetTable x = house();
        decided(x, 9, 99, 0);
        x.law(9, 0);
        due(-99, x.more(9));
        x.law(9, 99);
        due(0, x.more(9));
        decided(x, 9, 0, 0);
        due(99, x.more(9));
        x.run(1);
        x.reopen(1);
        due(0, x.more(9));
    }

    // ---- days that go by

    @Sentence("Promise 36: n (1 .. 60) DAYS go by: the DAY. BAD; FULL: it would be above 999.")
    static void runs1To60Days() {
        due(1, house().run(1));
        due(60, house().run(60));
        refused(BAD, Situations::busy, x -> x.run(0), x -> x.run(61), x -> x.run(-1), x -> x.run(MIN), x -> x.run(MAX));
        due(999, onDay(939).run(60));
        refused(FULL, () -> onDay(940), x -> x.run(60));
        due(999, onDay(998).run(1));
        refused(FULL, () -> onDay(998), x -> x.run(2));
        refused(BAD, () -> onDay(999), x -> x.run(0), x -> x.run(61), x -> x.run(MAX));
    }

    @Sentence("Promise 36: FULL: it would be above 999.")
    static void noDayOfARefusedRunGoesBy() {
        Making silent = () -> {
            CabinetTable x = onDay(990);
            x.paper(2, 0, 0, 0, 0);
            x.send(0);
            rule(x, "silent 2 1");
            return x;
        };
        refused(FULL, silent, x -> x.run(10));
        CabinetTable y = silent.make();
        due(999, y.run(9));
        due(991, y.told(0, 10));
    }

    /** The day on which paper 0 came within so many days, with the rule; NONE if it did not. */
    private static int cameBySilence(CabinetTable x, String text, int days) {
        rule(x, text);
        until(x, days);
        return x.told(0, 10);
    }

    @Sentence("Terms 4: whose SILENT is above 0 and no more than the DAYS since they were SENT")
    static void silenceOfSoManyDays() {
        due(NONE, cameBySilence(withOneSent(2, 0), "silent 2 3", 3));
        due(3, cameBySilence(withOneSent(2, 0), "silent 2 3", 4));
        due(NONE, cameBySilence(withOneSent(2, 0), "silent 2 1", 1));
        due(1, cameBySilence(withOneSent(2, 0), "silent 2 1", 2));
        due(NONE, cameBySilence(withOneSent(2, 0), "silent 2 0", 200));
        due(NONE, cameBySilence(withOneSent(2, 0), "ahead 2 0", 200));
        due(NONE, cameBySilence(withOneSent(2, 0), "silent 2 99", 99));
        due(99, cameBySilence(withOneSent(2, 0), "silent 2 99", 100));
        // More days than that do as well.
        due(50, cameBySilence(until(withOneSent(2, 0), 50), "silent 2 3", 51));
    }

    @Sentence("Terms 4: of KIND ASKED or under it")
    static void silenceOfAskedOnesAlone() {
        int[] want = {NONE, NONE, 1, 1, NONE};
        for (int kind = 0; kind < 5; kind++) {
            due(want[kind], cameBySilence(withOneSent(kind, 0), "silent 0 1", 9));
        }
    }

    @Sentence("Terms 4: that are SENT, not TAKEN, did not COME, without NOES")
    static void silenceOfThoseOnTheirWayWithoutNoes() {
        CabinetTable unsent = house();
        unsent.paper(2, 0, 0, 0, 0);
        due(NONE, cameBySilence(unsent, "silent 2 1", 9));
        CabinetTable taken = withOneSent(2, 0);
        taken.take(0);
        due(NONE, cameBySilence(taken, "silent 2 1", 9));
        CabinetTable come = withOneSent(2, 0);
        come.come(0, 0, 0);
        due(0, cameBySilence(come, "silent 2 1", 9));
        due(0, come.count(6));
        CabinetTable refused = withOneSent(2, 0);
        refused.word(0, 2, 0);
        due(NONE, cameBySilence(refused, "silent 2 1", 9));
        refused.word(0, 2, 1);
        due(9, cameBySilence(refused, "silent 2 1", 10));
        CabinetTable agreed = withOneSent(2, 0);
        agreed.word(0, 2, 1);
        due(1, cameBySilence(agreed, "silent 2 1", 9));
    }

    @Sentence("Terms 4: it CAME to its TABLE (that day), and is a DECISION with VALUE a, LEANING on none")
    static void silenceIsADecision() {
        int[] numbers = {0, 99};
        for (int a : numbers) {
            CabinetTable x = withOneSent(3, a);
            decided(x, 5, 1, 0);
            x.govern();
            rule(x, "table 0 1");
            // Neither what it needs nor that the table sits is asked for.
            rule(x, "need 0 2");
            due(5, cameBySilence(x, "silent 2 5", 9));
            due(1, x.told(0, 9));
            due(NONE, x.told(0, 11));
            int[] want = {0, 0, a, 5, 7, 0, NONE, 1, 1};
            for (int what = 0; what < 9; what++) {
                due(want[what], x.is(1, what));
            }
        }
    }

    @Sentence("Terms 4: As a DAY goes by: first PAPERS by numbers")
    static void silenceByNumbers() {
        CabinetTable x = house();
        for (int i = 0; i < 24; i++) {
            x.paper(2, 0, 0, 0, i);
        }
        for (int i = 23; i >= 0; i--) {
            x.send(i);
        }
        rule(x, "silent 2 1");
        x.run(2);
        due(24, x.count(6));
        for (int i = 0; i < 24; i++) {
            due(i, x.is(i, 0));
            due(i, x.is(i, 2));
        }
    }

    @Sentence("Terms 4: if there is room for one, and that TABLE (else nothing of it)")
    static void noSilenceWithoutTheTable() {
        CabinetTable x = withOffices(1);
        x.paper(2, 0, 0, 0, 0);
        x.send(0);
        due(NONE, cameBySilence(x, "silent 2 1", 9));
        due(NONE, x.told(0, 9));
        due(0, x.count(6));
        x.table(1, 30, 29);
        x.run(1);
        due(9, x.told(0, 10));
        due(1, x.count(6));
    }

    @Sentence("Terms 4: Then the next DAY is open.")
    static void theDayThatGoesByIsStillOpen() {
        due(4, cameBySilence(withOneSent(2, 0), "silent 2 1 if day > 3", 9));
        due(NONE, cameBySilence(withOneSent(2, 0), "silent 2 1 if day > 3", 4));
        due(NONE, cameBySilence(withOneSent(2, 0), "silent 2 4 if day < 4", 9));
        due(3, cameBySilence(withOneSent(2, 0), "silent 2 3 if day < 4", 9));
        CabinetTable x = withOneSent(2, 0);
        ruleFrom(x, 6, "silent 2 1");
        due(6, cameBySilence(x, "shut 0 0", 9));
    }

    // ---- beside

    /** A paper that lacks nothing from day 5 on and comes on this day. */
    private static CabinetTable cameOn(int day) {
        CabinetTable x = sentUntil(day);
        x.come(0, 0, NONE);
        return x;
    }

    @Sentence("Promise 37: BESIDE n (0 .. 99). BAD.")
    static void besideOf0To99() {
        due(0, cameOn(5).beside(0));
        due(1, cameOn(5).beside(99));
        refused(BAD, () -> cameOn(5), x -> x.beside(-1), x -> x.beside(100), x -> x.beside(MIN), x -> x.beside(MAX));
    }

    @Sentence("Terms 5: how many would not have on that DAY, if AHEAD had been n more")
    static void besideByDaysToSpare() {
        due(1, cameOn(5).beside(1));
        due(0, cameOn(8).beside(3));
        due(1, cameOn(8).beside(4));
        due(0, cameOn(104).beside(99));
        due(1, cameOn(103).beside(99));
        // The days are those since it was sent.
        CabinetTable later = until(withPapers(1), 10);
        later.send(0);
        until(later, 17).come(0, 0, NONE);
        due(0, later.beside(2));
        due(1, later.beside(3));
        // AHEAD as it was on that day.
        CabinetTable x = sentUntil(7, "ahead 0 7 if day < 8");
        due(0, x.come(0, 0, NONE));
        until(x, 20);
        due(0, x.beside(0));
        due(1, x.beside(1));
    }

    @Sentence("Terms 5: of all PAPERS that CAME, not LET in and not by silence")
    static void besideOfThoseThatCameByThemselves() {
        CabinetTable letIn = sentUntil(4);
        letIn.come(0, 0, 0);
        due(0, letIn.beside(99));
        CabinetTable silent = withOneSent(2, 0);
        due(8, cameBySilence(silent, "silent 2 8", 9));
        due(0, silent.beside(99));
        due(0, sentUntil(5).beside(99));
        CabinetTable all = until(withSentPapers(24), 6);
        for (int i = 0; i < 24; i++) {
            all.come(i, 0, 0);
        }
        due(0, all.beside(1));
        due(24, all.beside(2));
    }
}
