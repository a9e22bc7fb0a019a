/** Terms 1, promises 1 to 10: days, offices and who holds them, tables, the way. */
final class BoundsOfOffices extends Situations {
    @Sentence("What it is: An object is used for at most 512 calls after it has been made")
    static void the512thCallIsAnsweredToo() {
        CabinetTable x = new CabinetTable();
        for (int i = 1; i <= 511; i++) {
            due(i <= 8 ? i - 1 : FULL, x.office());
        }
        due(8, x.count(0));
        CabinetTable y = new CabinetTable();
        for (int i = 1; i <= 511; i++) {
            due(i <= 60 ? i : FULL, y.tell(i));
        }
        due(0, y.office());
    }

    @Sentence("Promise 1: As told; no OFFICES, no TABLES.")
    static void atFirstThereIsNothing() {
        CabinetTable x = new CabinetTable();
        for (int what = 0; what < 16; what++) {
            due(0, x.count(what));
        }
        refused(BAD, CabinetTable::new, y -> y.held(0, 0), y -> y.hold(0, 0), y -> y.paper(0, 0, 0, 0, 0), y -> y.out(0));
        refused(BAD, CabinetTable::new, y -> y.sits(0, 0), y -> y.seats(0, 0), y -> y.way(0, 0, 0, 0), y -> y.pass(0, 1, 1));
        refused(BAD, CabinetTable::new, y -> y.told(0, 0), y -> y.of(0, 0), y -> y.is(0, 0), y -> y.comesBack(0), y -> y.trim(1));
        refused(NO, CabinetTable::new, CabinetTable::back);
        refused(NOTHING, CabinetTable::new, y -> y.note(0, 0, 0), y -> y.item(0, 0));
    }

    @Sentence("Terms 1: DAYS are numbered; the one that is open is 0 at first (999 at most)")
    static void theOpenDayIs0To999() {
        due(0, new CabinetTable().count(14));
        CabinetTable x = onDay(998);
        due(998, x.count(14));
        due(999, x.run(1));
        due(999, x.count(14));
        refused(FULL, () -> onDay(999), y -> y.run(1), y -> y.run(60));
    }

    @Sentence("Terms 1: GOVERNMENTS, too (0 at first)")
    static void theFirstGovernmentIs0() {
        CabinetTable x = house();
        due(0, x.count(15));
        decided(x, 0, 0, 0);
        due(0, x.is(0, 7));
        due(1, x.govern());
        due(1, x.count(15));
    }

    @Sentence("Promise 5: The next GOVERNMENT: its number. FULL: above 99.")
    static void governmentsTo99() {
        CabinetTable x = governedTo(98);
        due(99, x.govern());
        due(99, x.count(15));
        refused(FULL, () -> governedTo(99), CabinetTable::govern);
    }

    private static CabinetTable governedTo(int last) {
        CabinetTable x = house();
        for (int i = 0; i < last; i++) {
            x.govern();
        }
        return x;
    }

    @Sentence("Terms 1: OFFICES, 8 at most, numbered from 0")
    static void officesAreNumberedFrom0To7() {
        CabinetTable x = new CabinetTable();
        for (int i = 0; i < 8; i++) {
            due(i, x.count(0));
            due(i, x.office());
        }
        due(8, x.count(0));
        due(NONE, x.held(7, 0));
        due(BAD, x.held(8, 0));
    }

    @Sentence("Promise 2: One more OFFICE: its number. FULL.")
    static void noNinthOffice() {
        due(7, withOffices(7).office());
        refused(FULL, () -> withOffices(8), CabinetTable::office);
    }

    // ---- who holds

    @Sentence("Terms 1: each is HELD by a person 0 .. 99 from a DAY on, or by nobody (at first)")
    static void personsAre0To99() {
        CabinetTable x = house();
        due(NONE, x.held(0, 0));
        due(NONE, x.hold(0, 0));
        due(0, x.held(0, 0));
        due(0, x.hold(0, 99));
        due(99, x.held(0, 0));
        refused(BAD, Situations::busy, y -> y.hold(0, -1), y -> y.hold(0, 100), y -> y.hold(0, MIN), y -> y.hold(0, MAX));
    }

    @Sentence("Promise 3: An OFFICE is HELD by a person from the open DAY on (NONE: by nobody): by whom it was (NONE).")
    static void heldFromTheOpenDayOnOrByNobody() {
        CabinetTable x = onDay(5);
        due(NONE, x.hold(1, 3));
        due(NONE, x.held(1, 4));
        due(3, x.held(1, 5));
        due(3, x.held(1, 999));
        x.run(1);
        due(3, x.hold(1, NONE));
        due(3, x.held(1, 5));
        due(NONE, x.held(1, 6));
        due(NONE, x.hold(1, 4));
        refused(BAD, Situations::busy, y -> y.hold(0, NONE - 1), y -> y.hold(0, NONE + 1));
    }

    @Sentence("Promise 3: An OFFICE is HELD by a person from the open DAY on")
    static void heldFromTheLastDayOn() {
        CabinetTable x = onDay(999);
        due(NONE, x.hold(0, 1));
        due(NONE, x.held(0, 998));
        due(1, x.held(0, 999));
    }

    @Sentence("Terms 1: 40 such changes at most")
    static void fortyChangesOfAllOfficesTogether() {
        CabinetTable x = changed(39);
        due(39, x.count(11));
        due(NONE, x.hold(2, 5));
        due(40, x.count(11));
        due(5, x.held(2, 0));
        refused(FULL, () -> changed(40), y -> y.hold(0, 6), y -> y.hold(1, NONE), y -> y.hold(2, 0));
    }

    private static CabinetTable changed(int many) {
        CabinetTable x = house();
        for (int i = 0; i < many; i++) {
            x.hold(i % 2, i);
        }
        return x;
    }

    @Sentence("Terms 1: of one DAY the last one counts")
    static void theLastChangeOfADayCounts() {
        CabinetTable x = onDay(2);
        x.hold(0, 1);
        x.hold(0, 2);
        x.hold(1, 9);
        x.hold(0, 3);
        due(3, x.held(0, 2));
        due(NONE, x.held(0, 1));
        x.run(1);
        x.hold(0, 4);
        x.hold(0, NONE);
        due(3, x.held(0, 2));
        due(NONE, x.held(0, 3));
    }

    @Sentence("Promise 3: BAD; FULL.")
    static void holdIsBadAheadOfFull() {
        CabinetTable x = house();
        due(NONE, x.hold(0, 1));
        due(NONE, x.hold(2, 1));
        refused(BAD, Situations::house, y -> y.hold(-1, 1), y -> y.hold(3, 1), y -> y.hold(MIN, 1), y -> y.hold(MAX, NONE));
        refused(FULL, () -> changed(40), y -> y.hold(0, 99));
        refused(BAD, () -> changed(40), y -> y.hold(0, 100), y -> y.hold(3, 1));
    }

    @Sentence("Promise 4: Who HELD an OFFICE on a DAY (0 .. 999).")
    static void heldOnDays0To999() {
        CabinetTable x = house();
        x.hold(0, 1);
        due(1, x.held(0, 0));
        due(1, x.held(0, 999));
        refused(BAD, Situations::busy, y -> y.held(0, -1), y -> y.held(0, 1000), y -> y.held(0, MIN), y -> y.held(0, MAX));
    }

    @Sentence("Promise 4: BAD; NONE.")
    static void heldOfOfficesThatAreThere() {
        due(NONE, house().held(0, 0));
        due(NONE, house().held(2, 999));
        refused(BAD, Situations::house, y -> y.held(-1, 0), y -> y.held(3, 0), y -> y.held(MIN, 0), y -> y.held(MAX, 0));
    }

    // ---- tables

    @Sentence("Terms 1: TABLES, 6 at most, numbered from 0")
    static void tablesAreNumberedFrom0To5() {
        CabinetTable x = new CabinetTable();
        for (int i = 0; i < 6; i++) {
            due(i, x.count(1));
            due(i, x.table(0, 1, 0));
        }
        due(6, x.count(1));
        due(1, x.sits(5, 0));
        due(BAD, x.sits(6, 0));
    }

    @Sentence("Promise 6: BAD: seats 0 .. 255, period, offset; FULL.")
    static void seatsOfANewTable() {
        CabinetTable x = new CabinetTable();
        due(0, x.table(0, 1, 0));
        due(1, x.table(255, 1, 0));
        due(0, x.seats(0, 1));
        due(255, x.seats(1, 1));
        refused(BAD, Situations::busy, y -> y.table(-1, 1, 0), y -> y.table(256, 1, 0), y -> y.table(MIN, 1, 0), y -> y.table(MAX, 1, 0));
    }

    @Sentence("Terms 1: a PERIOD 1 .. 30")
    static void periodsAre1To30() {
        CabinetTable x = new CabinetTable();
        due(0, x.table(0, 1, 0));
        due(1, x.table(0, 30, 0));
        due(1, x.sits(0, 1));
        due(0, x.sits(1, 1));
        due(0, x.sits(1, 29));
        due(1, x.sits(1, 30));
        refused(BAD, Situations::busy, y -> y.table(0, 0, 0), y -> y.table(0, 31, 0), y -> y.table(0, -1, 0), y -> y.table(0, MIN, 0), y -> y.table(0, MAX, 0));
    }

    @Sentence("Terms 1: an OFFSET 0 .. 29")
    static void offsetsAre0To29() {
        CabinetTable x = new CabinetTable();
        due(0, x.table(0, 1, 0));
        due(1, x.table(0, 1, 29));
        due(1, x.sits(0, 0));
        due(0, x.sits(1, 28));
        due(1, x.sits(1, 29));
        refused(BAD, Situations::busy, y -> y.table(0, 1, -1), y -> y.table(0, 1, 30), y -> y.table(0, 1, MIN), y -> y.table(0, 1, MAX));
    }

    @Sentence("Promise 6: One more TABLE: its number.")
    static void noSeventhTableAndBadAheadOfFull() {
        due(5, withTables(5).table(255, 30, 29));
        refused(FULL, () -> withTables(6), y -> y.table(0, 1, 0));
        refused(BAD, () -> withTables(6), y -> y.table(256, 1, 0), y -> y.table(0, 31, 0), y -> y.table(0, 1, 30));
    }

    @Sentence("Promise 7: SEATS of a TABLE become a set: what they were. BAD.")
    static void seatsAre0To255() {
        CabinetTable x = house();
        due(3, x.seats(0, 0));
        due(0, x.seats(0, 255));
        due(255, x.seats(0, 3));
        due(7, x.seats(1, 7));
        refused(BAD, Situations::busy, y -> y.seats(0, -1), y -> y.seats(0, 256), y -> y.seats(0, MIN), y -> y.seats(0, MAX));
        refused(BAD, Situations::house, y -> y.seats(-1, 0), y -> y.seats(2, 0), y -> y.seats(MIN, 0), y -> y.seats(MAX, 0));
    }

    @Sentence("Terms 1: SEATS (OFFICES as bits, there or not)")
    static void seatsOfOfficesThatAreNotThere() {
        CabinetTable x = withOffices(1);
        due(0, x.table(0b110, 1, 0));
        x.paper(0, 0, 0, 0, 0);
        x.send(0);
        due(BAD, x.come(0, 0, 1));
        due(NO, x.come(0, 0, 0));
        x.office();
        due(4, x.come(0, 0, 1));
    }

    @Sentence("Promise 8: Whether a TABLE SITS on a DAY (0 .. 9999): 1, 0. BAD.")
    static void sitsOnDays0To9999() {
        CabinetTable x = withTables(1);
        x.table(0, 30, 9);
        due(1, x.sits(0, 0));
        due(1, x.sits(0, 9999));
        due(1, x.sits(1, 9999));
        due(0, x.sits(1, 9998));
        refused(BAD, Situations::busy, y -> y.sits(0, -1), y -> y.sits(0, 10000), y -> y.sits(0, MIN), y -> y.sits(0, MAX));
        refused(BAD, Situations::house, y -> y.sits(-1, 0), y -> y.sits(2, 0), y -> y.sits(MIN, 0), y -> y.sits(MAX, 0));
    }

    @Sentence("Terms 1: a TABLE SITS on each DAY that is OFFSET or later whose distance to OFFSET PERIOD divides")
    static void noSittingAheadOfTheOffset() {
        CabinetTable x = new CabinetTable();
        x.table(0, 10, 20);
        x.table(0, 30, 29);
        for (int day = 0; day < 60; day++) {
            due(day >= 20 && day % 10 == 0 ? 1 : 0, x.sits(0, day));
            due(day == 29 || day == 59 ? 1 : 0, x.sits(1, day));
        }
    }

    @Sentence("Terms 1: From one TABLE a paper may PASS to another one, if so told (from none at first)")
    static void fromNoTableAtFirstAndOneWayOnly() {
        CabinetTable x = withTables(6);
        for (int one = 0; one < 6; one++) {
            for (int other = 0; other < 6; other++) {
                if (one != other) {
                    due(0, x.pass(one, other, 0));
                }
            }
        }
        due(0, x.pass(0, 5, 1));
        due(0, x.pass(5, 0, 0));
        due(1, x.pass(0, 5, 1));
    }

    @Sentence("Promise 9: From a TABLE a paper may PASS to another one (on 1), or not (0): what it was.")
    static void passIsOnOrOff() {
        CabinetTable x = house();
        due(0, x.pass(0, 1, 0));
        due(0, x.pass(0, 1, 1));
        due(1, x.pass(0, 1, 0));
        due(0, x.pass(0, 1, 1));
        refused(BAD, Situations::busy, y -> y.pass(0, 1, -1), y -> y.pass(0, 1, 2), y -> y.pass(0, 1, MIN), y -> y.pass(2, 0, MAX));
    }

    @Sentence("Promise 9: BAD: also if they are one.")
    static void passFromTableToAnother() {
        refused(BAD, Situations::house, y -> y.pass(0, 0, 1), y -> y.pass(1, 1, 0), y -> y.pass(0, 2, 1), y -> y.pass(2, 0, 1));
        refused(BAD, Situations::house, y -> y.pass(-1, 0, 1), y -> y.pass(0, -1, 1), y -> y.pass(MAX, 0, 1), y -> y.pass(0, MIN, 1));
    }

    // ---- the way

    /** Tables that sit each day, and may be passed to as told: 10 times the one and the other. */
    private static CabinetTable linked(int tables, int... links) {
        CabinetTable x = withTables(tables);
        for (int link : links) {
            x.pass(link / 10, link % 10, 1);
        }
        return x;
    }

    private static void wayIs(CabinetTable x, int tables, int day, int n, int want, int... through) {
        due(want, x.way(tables, day, n, 0));
        due(through.length, x.way(tables, day, n, 1));
        for (int i = 0; i < through.length; i++) {
            due(through[i], x.way(tables, day, n, 2 + i));
        }
        due(NONE, x.way(tables, day, n, 2 + through.length));
    }

    @Sentence("Promise 10: THE WAY (tables told as 10 times the first and the last; unlike or not)")
    static void theTablesOfAWay() {
        wayIs(linked(6, 50), 50, 0, 0, 0, 5, 0);
        wayIs(linked(6, 50), 55, 0, 0, 0, 5);
        wayIs(linked(6, 50), 0, 0, 0, 0, 0);
        refused(BAD, () -> linked(6, 50), y -> y.way(-1, 0, 0, 0), y -> y.way(56, 0, 0, 0), y -> y.way(60, 0, 0, 0), y -> y.way(9, 0, 0, 0));
        refused(BAD, () -> linked(6, 50), y -> y.way(-10, 0, 0, 0), y -> y.way(100, 0, 0, 0), y -> y.way(MIN, 0, 0, 0), y -> y.way(MAX, 0, 0, 0));
        refused(BAD, () -> linked(2, 10), y -> y.way(2, 0, 0, 0), y -> y.way(20, 0, 0, 0), y -> y.way(12, 0, 0, 0), y -> y.way(21, 0, 0, 0));
    }

    @Sentence("Promise 10: from a DAY (0 .. 999) on with n ahead")
    static void theDayOfAWay() {
        CabinetTable x = linked(2, 1);
        wayIs(x, 1, 0, 0, 0, 0, 1);
        wayIs(x, 1, 999, 0, 999, 0, 1);
        refused(BAD, Situations::busy, y -> y.way(1, -1, 0, 0), y -> y.way(1, 1000, 0, 0), y -> y.way(1, MIN, 0, 0), y -> y.way(1, MAX, 0, 0));
    }

    @Sentence("Terms 1: n (0 .. 30) or more behind the one on which it was at the one ahead, on which that TABLE SITS")
    static void aheadOnAWay() {
        CabinetTable x = withTables(1);
        x.table(0, 10, 0);
        x.pass(0, 1, 1);
        wayIs(x, 1, 10, 0, 10, 0, 1);
        wayIs(x, 1, 11, 0, 20, 0, 1);
        wayIs(x, 1, 10, 10, 20, 0, 1);
        wayIs(x, 1, 10, 11, 30, 0, 1);
        wayIs(x, 1, 10, 9, 20, 0, 1);
        wayIs(x, 1, 10, 30, 40, 0, 1);
        refused(BAD, Situations::busy, y -> y.way(1, 0, -1, 0), y -> y.way(1, 0, 31, 0), y -> y.way(1, 0, MIN, 0), y -> y.way(1, 0, MAX, 0));
    }

    @Sentence("Terms 1: it is at the first one on that DAY")
    static void atTheFirstTableOnThatDayEvenIfItDoesNotSit() {
        CabinetTable x = new CabinetTable();
        x.table(0, 30, 29);
        x.table(0, 1, 0);
        x.pass(0, 1, 1);
        wayIs(x, 0, 3, 30, 3, 0);
        wayIs(x, 1, 3, 2, 5, 0, 1);
    }

    @Sentence("Promise 10: 2 + i: the i-th TABLE (from 0 on; NONE: there are not so many)")
    static void whatIsAskedOfAWay() {
        CabinetTable x = linked(6, 1, 12, 23, 34, 45);
        wayIs(x, 5, 0, 1, 5, 0, 1, 2, 3, 4, 5);
        due(NONE, x.way(5, 0, 1, MAX));
        refused(BAD, () -> linked(2, 1), y -> y.way(1, 0, 0, -1), y -> y.way(1, 0, 0, MIN));
        refused(NONE, () -> linked(2, 1), y -> y.way(1, 0, 0, 4), y -> y.way(0, 0, 0, 3), y -> y.way(1, 0, 0, MAX));
    }

    @Sentence("Promise 10: BAD; NONE: there is no way.")
    static void noWay() {
        refused(NONE, () -> linked(3, 1, 20), y -> y.way(2, 0, 0, 0), y -> y.way(2, 0, 0, 1), y -> y.way(2, 0, 0, 2), y -> y.way(10, 0, 0, 0));
        refused(BAD, () -> linked(3, 1, 20), y -> y.way(2, 0, 0, -1), y -> y.way(2, 1000, 0, 0), y -> y.way(2, 0, 31, 0), y -> y.way(3, 0, 0, 0));
        wayIs(linked(3, 1, 12), 2, 0, 0, 0, 0, 1, 2);
    }

    @Sentence("Terms 1: THE WAY is that by which it is at the last one on the least DAY")
    static void theLeastDayComesAheadOfFewTables() {
        CabinetTable x = withTables(5);
        x.table(0, 30, 29);
        x.pass(0, 5, 1);
        x.pass(5, 4, 1);
        x.pass(0, 1, 1);
        x.pass(1, 2, 1);
        x.pass(2, 4, 1);
        wayIs(x, 4, 0, 9, 27, 0, 1, 2, 4);
        wayIs(x, 4, 0, 12, 36, 0, 1, 2, 4);
        // From here on the shorter one is sooner.
        wayIs(x, 4, 0, 15, 44, 0, 5, 4);
        wayIs(x, 4, 0, 14, 42, 0, 1, 2, 4);
    }

    @Sentence("Terms 1: of several that with the fewest TABLES, then the first (by numbers of TABLES, one by one)")
    static void fewTablesThenTheFirst() {
        CabinetTable x = new CabinetTable();
        for (int i = 0; i < 6; i++) {
            x.table(0, i == 5 ? 20 : 1, 0);
        }
        int[] links = {1, 13, 35, 4, 45};
        for (int link : links) {
            x.pass(link / 10, link % 10, 1);
        }
        wayIs(x, 5, 1, 1, 20, 0, 4, 5);
        x.pass(2, 5, 1);
        x.pass(0, 2, 1);
        wayIs(x, 5, 1, 1, 20, 0, 2, 5);
        x.pass(0, 2, 0);
        x.pass(4, 5, 0);
        x.pass(4, 1, 1);
        x.pass(1, 2, 1);
        // 0 1 2 5 is ahead of 0 1 3 5.
        wayIs(x, 5, 1, 1, 20, 0, 1, 2, 5);
        x.pass(1, 2, 0);
        wayIs(x, 5, 1, 1, 20, 0, 1, 3, 5);
    }

    @Sentence("Terms 1: none goes through a TABLE twice")
    static void noTableTwice() {
        CabinetTable x = linked(4, 1, 10, 12, 21, 20, 23);
        wayIs(x, 3, 0, 2, 6, 0, 1, 2, 3);
        wayIs(x, 0, 7, 2, 7, 0);
        wayIs(x, 20, 0, 2, 2, 2, 0);
        wayIs(x, 10, 0, 2, 2, 1, 0);
    }

    @Sentence("Terms 1: (DAYS of it may be above 999.)")
    static void aWayBeyondTheLastDay() {
        CabinetTable x = linked(6, 1, 12, 23, 34, 45);
        wayIs(x, 5, 999, 30, 1149, 0, 1, 2, 3, 4, 5);
        wayIs(x, 1, 970, 29, 999, 0, 1);
        wayIs(x, 1, 970, 30, 1000, 0, 1);
    }
}
