/** Terms 6, promises 47 to 53: registers, the room. */
final class BoundsOfRoom extends Situations {
    /** A register of a sort with so many places, which hold 10, 11, 12 and so on. */
    private static CabinetTable withRegister(int register, int sort, int places) {
        CabinetTable x = house();
        fill(x, register, sort, places);
        return x;
    }

    private static void fill(CabinetTable x, int register, int sort, int places) {
        x.register(register, sort, places);
        for (int i = 0; i < places; i++) {
            x.note(register, i, 10 + i);
        }
    }

    /** What a register holds, by way of seat 5. */
    private static int[] rowOf(CabinetTable x, int register, int places) {
        x.lay(5, 2, register);
        int[] row = new int[places];
        for (int i = 0; i < places; i++) {
            row[i] = x.item(5, i);
        }
        due(INDEX, x.item(5, places));
        return row;
    }

    // ---- registers

    @Sentence("Terms 6: REGISTERS 0 .. 3 are rows of bytes (sort 0) or shorts (1), with 0 to 24 places, or MISSING (at first).")
    static void fourRegistersMissingAtFirst() {
        CabinetTable x = house();
        for (int register = 0; register < 4; register++) {
            due(NOTHING, x.note(register, 0, 0));
            due(NOTHING, x.lay(0, 2, register));
        }
        due(0, x.register(0, 0, 0));
        due(24, x.register(3, 1, 24));
        due(INDEX, x.note(0, 0, 0));
        due(0, x.note(3, 23, 1));
        due(INDEX, x.note(3, 24, 1));
        due(NOTHING, x.note(1, 0, 0));
    }

    @Sentence("Promise 47: BAD: register, sort, n above 24; SIZE.")
    static void registerIsBadAheadOfSize() {
        due(24, house().register(0, 0, 24));
        due(0, house().register(3, 1, 0));
        refused(BAD, Situations::busy, x -> x.register(-1, 0, 1), x -> x.register(4, 0, 1), x -> x.register(MIN, 0, 1), x -> x.register(MAX, 0, 1));
        refused(BAD, Situations::busy, x -> x.register(0, -2, 1), x -> x.register(0, 2, 1), x -> x.register(0, MIN, 1), x -> x.register(0, MAX, 1));
        refused(BAD, Situations::busy, x -> x.register(0, 0, 25), x -> x.register(0, 1, 25), x -> x.register(0, 0, MAX));
        refused(SIZE, Situations::busy, x -> x.register(0, 0, -1), x -> x.register(0, 1, -1), x -> x.register(3, 0, MIN), x -> x.register(1, 1, MIN));
        refused(BAD, Situations::busy, x -> x.register(4, 0, -1), x -> x.register(0, 2, -1), x -> x.register(0, -2, -1));
    }

    @Sentence("Promise 47: A REGISTER becomes a row of n places of a sort, all 0 (sort -1: MISSING, n any): n (0).")
    static void aNewRowIsAllZeros() {
        CabinetTable x = withRegister(0, 0, 24);
        due(24, x.register(0, 0, 24));
        dueAll(new int[24], rowOf(x, 0, 24));
        fill(x, 0, 0, 24);
        due(3, x.register(0, 1, 3));
        dueAll(new int[3], rowOf(x, 0, 3));
        due(24, x.register(0, 0, 24));
        dueAll(new int[24], rowOf(x, 0, 24));
        int[] any = {0, 1, 24, 25, -1, MIN, MAX};
        for (int n : any) {
            x.register(0, 0, 2);
            due(0, x.register(0, -1, n));
            due(NOTHING, x.note(0, 0, 0));
        }
        due(BAD, x.register(4, -1, 0));
    }

    @Sentence("Promise 48: A place of a REGISTER becomes v (its lowest 8, 16 bits): what it was.")
    static void theLowestBitsOfANumber() {
        CabinetTable x = withRegister(0, 0, 1);
        x.register(1, 1, 1);
        int[] bytes = {127, 128, 255, 256, -128, -129, -1, MIN, MAX, 0x12345678};
        int[] asBytes = {127, -128, -1, 0, -128, 127, -1, 0, -1, 0x78};
        for (int i = 0; i < bytes.length; i++) {
            x.note(0, 0, bytes[i]);
            due(asBytes[i], x.note(0, 0, 0));
        }
        int[] shorts = {128, 32767, 32768, 65535, 65536, -32768, -32769, -1, MIN, MAX, 0x12345678};
        int[] asShorts = {128, 32767, -32768, -1, 0, -32768, 32767, -1, 0, -1, 0x5678};
        for (int i = 0; i < shorts.length; i++) {
            x.note(1, 0, shorts[i]);
            due(asShorts[i], x.note(1, 0, 0));
        }
    }

    @Sentence("Promise 48: BAD; NOTHING; INDEX.")
    static void noteIsBadThenNothingThenIndex() {
        Making one = () -> withRegister(2, 0, 3);
        due(10, one.make().note(2, 0, 1));
        due(12, one.make().note(2, 2, 1));
        refused(INDEX, one, x -> x.note(2, -1, 1), x -> x.note(2, 3, 1), x -> x.note(2, MIN, 1), x -> x.note(2, MAX, 1));
        refused(NOTHING, one, x -> x.note(0, 0, 1), x -> x.note(3, 0, 1), x -> x.note(1, -1, 1), x -> x.note(1, 99, 1));
        refused(BAD, one, x -> x.note(-1, 0, 1), x -> x.note(4, 0, 1), x -> x.note(MIN, -1, 1), x -> x.note(MAX, 99, 1));
        refused(INDEX, () -> withRegister(2, 0, 0), x -> x.note(2, 0, 1));
        due(33, withRegister(2, 0, 24).note(2, 23, 1));
        refused(INDEX, () -> withRegister(2, 0, 24), x -> x.note(2, 24, 1));
    }

    // ---- carrying

    /** Register 0 of 5 bytes, 1 of 3 bytes, 2 of 5 shorts; 3 is missing. */
    private static CabinetTable rows() {
        CabinetTable x = house();
        fill(x, 0, 0, 5);
        x.register(1, 0, 3);
        fill(x, 2, 1, 5);
        return x;
    }

    @Sentence("Promise 49: So many places of a REGISTER come to another one (or the same), as they were: many.")
    static void carriedAsTheyWere() {
        CabinetTable x = rows();
        due(3, x.carry(0, 2, 1, 0, 3));
        dueAll(new int[] {12, 13, 14}, rowOf(x, 1, 3));
        due(4, x.carry(0, 0, 0, 1, 4));
        dueAll(new int[] {10, 10, 11, 12, 13}, rowOf(x, 0, 5));
        CabinetTable y = rows();
        due(4, y.carry(0, 1, 0, 0, 4));
        dueAll(new int[] {11, 12, 13, 14, 14}, rowOf(y, 0, 5));
        due(5, y.carry(0, 0, 0, 0, 5));
        dueAll(new int[] {11, 12, 13, 14, 14}, rowOf(y, 0, 5));
        due(0, y.carry(0, 0, 1, 0, 0));
        dueAll(new int[] {0, 0, 0}, rowOf(y, 1, 3));
    }

    @Sentence("Promise 49: INDEX. (From a REGISTER, its place, to a REGISTER, its place.)")
    static void carriedWithinBothRows() {
        // The last place, and none behind the last.
        due(1, rows().carry(0, 4, 1, 2, 1));
        due(0, rows().carry(0, 5, 1, 3, 0));
        due(3, rows().carry(0, 2, 1, 0, 3));
        refused(INDEX, BoundsOfRoom::rows, x -> x.carry(0, 5, 1, 2, 1), x -> x.carry(0, 4, 1, 3, 1), x -> x.carry(0, 3, 1, 0, 3), x -> x.carry(0, 2, 1, 1, 3));
        refused(INDEX, BoundsOfRoom::rows, x -> x.carry(0, 6, 1, 0, 0), x -> x.carry(0, 0, 1, 4, 0), x -> x.carry(0, -1, 1, 0, 1), x -> x.carry(0, 0, 1, -1, 1));
        refused(INDEX, BoundsOfRoom::rows, x -> x.carry(0, -1, 1, 0, 0), x -> x.carry(0, 0, 1, -1, 0), x -> x.carry(0, 0, 1, 0, 4), x -> x.carry(1, 0, 0, 0, 4));
        // Sums that would wrap around.
        refused(INDEX, BoundsOfRoom::rows, x -> x.carry(0, 1, 1, 0, MAX), x -> x.carry(0, MAX, 1, 0, 1), x -> x.carry(0, 0, 1, MAX, 1), x -> x.carry(0, MAX, 1, MAX, MAX));
        refused(INDEX, BoundsOfRoom::rows, x -> x.carry(0, MIN, 1, 0, MIN), x -> x.carry(0, MIN, 1, MIN, 1));
    }

    @Sentence("Promise 49: INDEX.")
    static void noNumberOfPlacesBelow0IsCarried() {
        refused(INDEX, BoundsOfRoom::rows, x -> x.carry(0, 0, 1, 0, -1), x -> x.carry(0, 5, 1, 3, -1), x -> x.carry(0, 0, 1, 0, MIN), x -> x.carry(0, 0, 0, 0, -1));
        due(0, rows().carry(0, 0, 1, 0, 0));
    }

    @Sentence("Promise 49: BAD; NOTHING; KIND: they are not of one sort; INDEX.")
    static void carryIsBadThenNothingThenKindThenIndex() {
        refused(KIND, BoundsOfRoom::rows, x -> x.carry(0, 0, 2, 0, 1), x -> x.carry(2, 0, 0, 0, 0), x -> x.carry(0, 9, 2, 0, 1), x -> x.carry(2, 0, 1, 0, -1));
        refused(NOTHING, BoundsOfRoom::rows, x -> x.carry(3, 0, 0, 0, 1), x -> x.carry(0, 0, 3, 0, 1), x -> x.carry(3, 0, 3, 0, 0), x -> x.carry(2, 9, 3, 9, 9));
        refused(BAD, BoundsOfRoom::rows, x -> x.carry(-1, 0, 0, 0, 1), x -> x.carry(4, 0, 0, 0, 1), x -> x.carry(0, 0, -1, 0, 1), x -> x.carry(0, 0, 4, 0, 1));
        refused(BAD, BoundsOfRoom::rows, x -> x.carry(3, 0, 4, 0, 1), x -> x.carry(4, 0, 3, 0, 1), x -> x.carry(MIN, 9, 3, 0, 1), x -> x.carry(3, 0, MAX, 9, 1));
        due(5, rows().carry(2, 0, 2, 0, 5));
    }

    // ---- the room

    @Sentence("Terms 6: SEATS of a room 0 .. 5 each hold nothing (at first)")
    static void sixSeatsEmptyAtFirst() {
        CabinetTable x = house();
        for (int seat = 0; seat < 6; seat++) {
            due(NOTHING, x.ask(seat, 0));
            due(NOTHING, x.item(seat, 0));
            due(NOTHING, x.rest(seat, 1));
            due(0, x.lay(seat, 3, seat));
        }
        for (int seat = 0; seat < 6; seat++) {
            due(seat, x.rest(seat, 9));
        }
    }

    @Sentence("Promise 50: A SEAT of the room holds: thing 0 nothing, 1 PAPER k, 2 REGISTER k, 3 the number k: what it held (0 .. 3).")
    static void whatASeatHeld() {
        CabinetTable x = rows();
        x.paper(0, 0, 0, 100, 0);
        int[] things = {0, 3, 1, 2, 3, 2, 1, 3, 0, 1, 0, 2, 0, 0};
        int held = 0;
        for (int thing : things) {
            due(held, x.lay(0, thing, 0));
            held = thing;
        }
        // Of nothing, and of a number, k may be any.
        int[] any = {-1, 7, MIN, MAX};
        for (int k : any) {
            due(0, x.lay(1, 0, k));
            due(0, x.lay(1, 3, k));
            due(0, x.rest(1, k));
            x.lay(1, 0, 0);
        }
    }

    @Sentence("Promise 50: BAD: seat, thing, k; NOTHING: that REGISTER is MISSING.")
    static void layIsBadAheadOfNothing() {
        Making room = () -> {
            CabinetTable x = rows();
            x.paper(0, 0, 0, 100, 0);
            x.lay(0, 3, 44);
            return x;
        };
        due(3, room.make().lay(0, 1, 0));
        due(0, room.make().lay(5, 2, 2));
        refused(BAD, room, x -> x.lay(-1, 0, 0), x -> x.lay(6, 0, 0), x -> x.lay(MIN, 3, 0), x -> x.lay(MAX, 3, 0), x -> x.lay(6, 2, 3));
        refused(BAD, room, x -> x.lay(0, -1, 0), x -> x.lay(0, 4, 0), x -> x.lay(0, MIN, 0), x -> x.lay(0, MAX, 0));
        refused(BAD, room, x -> x.lay(0, 1, -1), x -> x.lay(0, 1, 1), x -> x.lay(0, 1, MIN), x -> x.lay(0, 1, MAX));
        refused(BAD, room, x -> x.lay(0, 2, -1), x -> x.lay(0, 2, 4), x -> x.lay(0, 2, MIN), x -> x.lay(0, 2, MAX));
        refused(NOTHING, room, x -> x.lay(0, 2, 3), x -> x.lay(5, 2, 3));
    }

    @Sentence("Terms 6: a PAPER (for good, as it was then: KIND, SUM, a)")
    static void aPaperLiesThereForGood() {
        CabinetTable x = house();
        x.keep();
        x.paper(3, 0, 0, 9999, 99);
        x.lay(0, 1, 0);
        x.back();
        x.paper(0, 0, 0, 0, 0);
        due(1187, x.ask(0, 3));
        due(0, x.told(0, 15));
        due(1, x.lay(0, 1, 0));
        due(0, x.ask(0, 0));
        due(KIND, x.ask(0, 3));
    }

    @Sentence("Terms 6: a REGISTER (a row of its own, as it was then), or a number")
    static void aRegisterLiesThereAsARowOfItsOwn() {
        CabinetTable x = rows();
        x.lay(0, 2, 0);
        x.note(0, 4, 99);
        due(14, x.item(0, 4));
        x.register(0, 1, 24);
        due(14, x.item(0, 4));
        due(INDEX, x.item(0, 5));
        x.register(0, -1, 0);
        due(14, x.item(0, 4));
        due(NOTHING, x.lay(0, 2, 0));
        due(14, x.item(0, 4));
    }

    // ---- what is asked of a seat

    /** Seat 0 holds a letter, 1 an oral paper, 2 a register of 3, 3 a number, 4 a register of none, 5 nothing. */
    private static CabinetTable laid() {
        CabinetTable x = withRegister(0, 0, 3);
        x.register(1, 1, 0);
        x.paper(3, 0, 0, 100, 20);
        x.paper(4, 0, 0, 100, 20);
        x.lay(0, 1, 0);
        x.lay(1, 1, 1);
        x.lay(2, 2, 0);
        x.lay(3, 3, -17);
        x.lay(4, 2, 1);
        return x;
    }

    @Sentence("Promise 51: WEIGHS of the PAPER on a SEAT, taken for one of a KIND (0 .. 4).")
    static void askedAsAKindOfItsOwnOrAbove() {
        int[] letter = {697, KIND, 697, 697, KIND};
        int[] oral = {19, 19, KIND, KIND, 19};
        CabinetTable x = laid();
        for (int kind = 0; kind < 5; kind++) {
            due(letter[kind], x.ask(0, kind));
            due(oral[kind], x.ask(1, kind));
        }
        refused(BAD, BoundsOfRoom::laid, y -> y.ask(0, -1), y -> y.ask(0, 5), y -> y.ask(0, MIN), y -> y.ask(0, MAX));
    }

    @Sentence("Promise 51: BAD; NOTHING; KIND: it is no PAPER, or not of that KIND, nor of one under it.")
    static void askIsBadThenNothingThenKind() {
        refused(KIND, BoundsOfRoom::laid, x -> x.ask(0, 4), x -> x.ask(2, 0), x -> x.ask(3, 0), x -> x.ask(4, 4));
        refused(NOTHING, BoundsOfRoom::laid, x -> x.ask(5, 0), x -> x.ask(5, 4));
        refused(BAD, BoundsOfRoom::laid, x -> x.ask(-1, 0), x -> x.ask(6, 0), x -> x.ask(MIN, 0), x -> x.ask(MAX, 0));
        refused(BAD, BoundsOfRoom::laid, x -> x.ask(5, -1), x -> x.ask(5, 5), x -> x.ask(2, 5), x -> x.ask(6, 5));
        due(697, laid().ask(0, 0));
    }

    @Sentence("Promise 52: A place of the REGISTER on a SEAT. BAD: seat; NOTHING; KIND: it is no REGISTER; INDEX.")
    static void itemIsBadThenNothingThenKindThenIndex() {
        due(10, laid().item(2, 0));
        due(12, laid().item(2, 2));
        refused(INDEX, BoundsOfRoom::laid, x -> x.item(2, -1), x -> x.item(2, 3), x -> x.item(2, MIN), x -> x.item(2, MAX), x -> x.item(4, 0));
        refused(KIND, BoundsOfRoom::laid, x -> x.item(0, 0), x -> x.item(3, 0), x -> x.item(0, -1), x -> x.item(3, 99));
        refused(NOTHING, BoundsOfRoom::laid, x -> x.item(5, 0), x -> x.item(5, -1), x -> x.item(5, 99));
        refused(BAD, BoundsOfRoom::laid, x -> x.item(-1, 0), x -> x.item(6, 0), x -> x.item(MIN, -1), x -> x.item(MAX, 99));
        CabinetTable y = withRegister(0, 1, 24);
        y.lay(5, 2, 0);
        due(33, y.item(5, 23));
        due(INDEX, y.item(5, 24));
    }

    @Sentence("Promise 53: The rest of the number on a SEAT by n. BAD: seat; NOTHING; KIND: it is no number; NO: n is 0.")
    static void restIsBadThenNothingThenKindThenNo() {
        due(0, laid().rest(3, 1));
        due(0, laid().rest(3, -1));
        refused(NO, BoundsOfRoom::laid, x -> x.rest(3, 0));
        refused(KIND, BoundsOfRoom::laid, x -> x.rest(0, 1), x -> x.rest(2, 1), x -> x.rest(0, 0), x -> x.rest(4, 0));
        refused(NOTHING, BoundsOfRoom::laid, x -> x.rest(5, 1), x -> x.rest(5, 0));
        refused(BAD, BoundsOfRoom::laid, x -> x.rest(-1, 1), x -> x.rest(6, 1), x -> x.rest(MIN, 0), x -> x.rest(MAX, 0));
    }

    @Sentence("Terms 0: All numbers are whole; / cuts towards 0.")
    static void restsOfNumbersBelow0() {
        int[][] numberNAndRest = {
            {17, 5, 2}, {17, -5, 2}, {-17, 5, -2}, {-17, -5, -2}, {0, 5, 0}, {MIN, -1, 0}, {MIN, 1, 0}, {MAX, -1, 0},
            {MIN, MIN, 0}, {MAX, MIN, MAX}, {MIN, MAX, -1}, {MIN, 2, 0}, {MIN, 10, -8}, {4, 5, 4}, {5, 5, 0}, {-4, 5, -4},
        };
        CabinetTable x = house();
        for (int[] one : numberNAndRest) {
            x.lay(0, 3, one[0]);
            due(one[2], x.rest(0, one[1]));
        }
    }

    @Sentence("Terms 6: FINDINGS: NOTHING: a REGISTER is MISSING, a SEAT holds nothing; INDEX: there is no such place; SIZE: a number of places is below 0; KIND: it is none (of a KIND, or another thing).")
    static void theFindings() {
        refused(NOTHING, BoundsOfRoom::laid, x -> x.note(2, 0, 0), x -> x.carry(2, 0, 0, 0, 0), x -> x.lay(0, 2, 3), x -> x.item(5, 0));
        refused(INDEX, BoundsOfRoom::laid, x -> x.note(0, 3, 0), x -> x.carry(0, 4, 0, 0, 0), x -> x.item(2, 3));
        refused(SIZE, BoundsOfRoom::laid, x -> x.register(0, 0, -1));
        refused(KIND, BoundsOfRoom::laid, x -> x.as(0, 4), x -> x.ask(0, 1), x -> x.ask(3, 0), x -> x.item(0, 0), x -> x.rest(2, 1), x -> x.carry(0, 0, 1, 0, 0));
    }
}
