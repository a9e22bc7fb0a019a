/** Terms 5, promises 38 to 46: copies and their marks, who knows what, what is open, what may be reckoned. */
final class BoundsOfCopies extends Situations {
    @Sentence("Terms 5: COPIES, 20 at most, numbered from 0")
    static void copiesAreNumberedFrom0To19() {
        CabinetTable x = withPapers(1);
        for (int i = 0; i < 20; i++) {
            due(i, x.count(8));
            due(i, x.copy(0, 0, i));
        }
        due(20, x.count(8));
        due((1 << 20) - 1, x.out(0));
        due(1, x.comesBack(19));
        due(BAD, x.comesBack(20));
    }

    @Sentence("Promise 38: One more COPY: its number. BAD; FULL.")
    static void noCopy21AndBadAheadOfFull() {
        due(19, withCopies(19).copy(0, 0, 0));
        refused(FULL, () -> withCopies(20), x -> x.copy(0, 0, 0), x -> x.copy(0, 2, 65535));
        refused(BAD, () -> withCopies(20), x -> x.copy(1, 0, 0), x -> x.copy(0, 3, 0), x -> x.copy(0, 0, 65536));
        refused(BAD, () -> withCopies(1), x -> x.copy(-1, 0, 0), x -> x.copy(1, 0, 0), x -> x.copy(MIN, 0, 0), x -> x.copy(MAX, 0, 0));
        refused(BAD, () -> withCopies(1), x -> x.copy(0, -1, 0), x -> x.copy(0, 3, 0), x -> x.copy(0, MIN, 0), x -> x.copy(0, MAX, 0));
        due(1, withCopies(1).copy(0, 2, 0));
    }

    @Sentence("Terms 5: with MARKS: 8 places of 0 .. 3 (told as a number 0 .. 65535, place 0 the lowest)")
    static void marksAre0To65535() {
        CabinetTable x = withPapers(1);
        due(0, x.copy(0, 0, 0));
        due(1, x.copy(0, 0, 65535));
        // Each place by itself, each of its marks.
        for (int place = 0; place < 8; place++) {
            due(1, x.suspect(0, 1 << place, 0));
            due(2, x.suspect(0, 1 << place, 3 << (2 * place)));
            due(0, x.suspect(0, 1 << place, 1 << (2 * place)));
            due(0, x.suspect(0, 1 << place, 2 << (2 * place)));
        }
        refused(BAD, Situations::busy, y -> y.copy(0, 0, -1), y -> y.copy(0, 0, 65536), y -> y.copy(0, 0, MIN), y -> y.copy(0, 0, MAX));
    }

    @Sentence("Terms 5: out, or back")
    static void outOrBack() {
        CabinetTable x = withCopies(3);
        due(3, x.count(9));
        x.comesBack(1);
        due(2, x.count(9));
        due(3, x.count(8));
        due(1, x.out(0));
        due(0, x.out(1));
        due(4, x.out(2));
    }

    @Sentence("Promise 39: A COPY is back: 1; 0 if it was. BAD.")
    static void backOnce() {
        CabinetTable x = withCopies(2);
        due(1, x.comesBack(0));
        due(0, x.comesBack(0));
        due(1, x.comesBack(1));
        due(0, x.comesBack(1));
        refused(BAD, () -> withCopies(2), y -> y.comesBack(-1), y -> y.comesBack(2), y -> y.comesBack(MIN), y -> y.comesBack(MAX));
        refused(BAD, () -> withPapers(1), y -> y.comesBack(0));
    }

    @Sentence("Promise 40: COPIES that are out to an OFFICE, as bits. BAD.")
    static void outToOfficesThatAreThere() {
        due(0, withPapers(1).out(0));
        due(0b1001, withCopies(6).out(0));
        due(0b100100, withCopies(6).out(2));
        refused(BAD, () -> withCopies(6), x -> x.out(-1), x -> x.out(3), x -> x.out(MIN), x -> x.out(MAX));
    }

    // ---- printed places

    @Sentence("Promise 41: SUSPECT COPIES of a PAPER by PRINTED places (0 .. 255) with MARKS (0 .. 65535), as bits. BAD.")
    static void suspectIsBad() {
        due(3, withCopies(2).suspect(0, 0, 0));
        due(0, withCopies(2).suspect(0, 255, 65535));
        due(3, withCopies(2).suspect(0, 0, 65535));
        due(1, withCopies(2).suspect(0, 255, 0));
        refused(BAD, () -> withCopies(2), x -> x.suspect(-1, 0, 0), x -> x.suspect(1, 0, 0), x -> x.suspect(MIN, 0, 0), x -> x.suspect(MAX, 0, 0));
        refused(BAD, () -> withCopies(2), x -> x.suspect(0, -1, 0), x -> x.suspect(0, 256, 0), x -> x.suspect(0, MIN, 0), x -> x.suspect(0, MAX, 0));
        refused(BAD, () -> withCopies(2), x -> x.suspect(0, 0, -1), x -> x.suspect(0, 0, 65536), x -> x.suspect(0, 0, MIN), x -> x.suspect(0, 0, MAX));
    }

    @Sentence("Terms 5: SUSPECT are COPIES of the PAPER whose MARKS are so at all of these places.")
    static void alikeAtAllPrintedPlaces() {
        CabinetTable x = withPapers(2);
        x.copy(0, 0, 0xC001);
        x.copy(0, 0, 0xC002);
        x.copy(0, 0, 0x8001);
        x.copy(1, 0, 0xC001);
        due(0b0111, x.suspect(0, 0, 0xFFFF));
        due(0b0101, x.suspect(0, 1, 0x0001));
        due(0b0011, x.suspect(0, 128, 0xC000));
        due(0b0001, x.suspect(0, 129, 0xC001));
        due(0b0000, x.suspect(0, 129, 0x4001));
        due(0b1000, x.suspect(1, 129, 0xC001));
        // The marks of other places do not matter, nor that one is back.
        due(0b0001, x.suspect(0, 129, 0xFFFD));
        x.comesBack(0);
        due(0b0001, x.suspect(0, 129, 0xC001));
    }

    @Sentence("Promise 42: THE PLACE to look at. BAD; NONE: all are PRINTED.")
    static void lookIsNoneOrBad() {
        due(0, withCopies(2).look(0, 0, 0));
        due(7, withCopies(2).look(0, 127, 0));
        due(0, withCopies(2).look(0, 254, 0));
        refused(NONE, () -> withCopies(2), x -> x.look(0, 255, 0), x -> x.look(0, 255, 65535));
        refused(BAD, () -> withCopies(2), x -> x.look(-1, 0, 0), x -> x.look(1, 0, 0), x -> x.look(MIN, 0, 0), x -> x.look(MAX, 255, 0));
        refused(BAD, () -> withCopies(2), x -> x.look(0, -1, 0), x -> x.look(0, 256, 0), x -> x.look(0, MIN, 0), x -> x.look(0, MAX, 0));
        refused(BAD, () -> withCopies(2), x -> x.look(0, 255, -1), x -> x.look(0, 255, 65536), x -> x.look(0, 0, MIN), x -> x.look(0, 0, MAX));
    }

    @Sentence("Terms 5: of those not PRINTED that for which the greatest number of SUSPECT ones that are alike there is least; of several the least.")
    static void theBestPlaceAndOfSeveralTheLeast() {
        CabinetTable x = withPapers(2);
        // Without any copy all places are alike.
        due(0, x.look(0, 0, 0));
        due(3, x.look(0, 7, 0));
        // Place 0 parts 3 and 1, places 3 and 5 part 2 and 2, place 6 parts 2, 1 and 1, the others none.
        x.copy(0, 0, 0x0000);
        x.copy(0, 0, 0x1000);
        x.copy(0, 0, 0x2440);
        x.copy(0, 0, 0x2441);
        due(3, x.look(0, 0, 0));
        due(6, x.look(0, 8, 0x0000));
        due(0, x.look(0, 8, 0x0040));
        // Without a suspect, too, it is the least that is not printed.
        due(0, x.look(0, 8, 0xFFFF));
        due(1, x.look(0, 9, 0xFFFF));
        due(0, x.look(0, 0b1101000, 0x2440));
        due(1, x.look(0, 0b1101001, 0x2440));
        // One suspect is left: each place is as good.
        due(0, x.look(0, 0b1001000, 0x1000));
        // A copy of another paper is none of them.
        x.copy(1, 0, 0x0040);
        due(3, x.look(0, 0, 0));
    }

    @Sentence("Terms 5: the greatest number of SUSPECT ones that are alike there is least")
    static void twentyCopiesAlike() {
        CabinetTable x = withPapers(1);
        for (int i = 0; i < 20; i++) {
            x.copy(0, 0, i == 19 ? 0x4000 : 0);
        }
        due(7, x.look(0, 0, 0));
        due(0, x.look(0, 128, 0));
        due(0, x.look(0, 128, 0x8000));
        CabinetTable y = withPapers(1);
        for (int i = 0; i < 20; i++) {
            y.copy(0, 0, 65535);
        }
        due(0, y.look(0, 0, 0));
        due(1, y.look(0, 1, 3));
    }

    @Sentence("Terms 5: that for which the greatest number of SUSPECT ones that are alike there is least")
    static void alikeInWhateverMark() {
        // At place 0 all three bear this mark, at place 1 only two bear one.
        for (int mark = 0; mark < 4; mark++) {
            CabinetTable x = withPapers(1);
            x.copy(0, 0, mark | mark << 2 | 0xFFF0);
            x.copy(0, 0, mark | mark << 2 | 0xFFF0);
            x.copy(0, 0, mark | (mark ^ 1) << 2 | 0xFFF0);
            due(1, x.look(0, 0, 0));
            due(0, x.look(0, 2, 0xFFFF));
        }
    }

    // ---- who knows what

    @Sentence("Promise 43: What an OFFICE KNOWS on a DAY (0 .. 999), PAPERS as bits. BAD.")
    static void knowsOnDays0To999() {
        CabinetTable x = house();
        for (int i = 0; i < 24; i++) {
            x.paper(0, i == 23 ? 2 : 0, 0, 0, 0);
        }
        due((1 << 23) - 1, x.knows(0, 0));
        due((1 << 23) - 1, x.knows(0, 999));
        due(0, x.knows(1, 999));
        due(1 << 23, x.knows(2, 0));
        refused(BAD, Situations::busy, y -> y.knows(0, -1), y -> y.knows(0, 1000), y -> y.knows(0, MIN), y -> y.knows(0, MAX));
        refused(BAD, Situations::house, y -> y.knows(-1, 0), y -> y.knows(3, 0), y -> y.knows(MIN, 0), y -> y.knows(MAX, 0));
    }

    @Sentence("Terms 5: or there is a COPY to it from a DAY no later")
    static void knownByACopyFromItsDayOn() {
        CabinetTable x = until(withPapers(2), 4);
        x.copy(1, 2, 0);
        due(0, x.knows(2, 3));
        due(2, x.knows(2, 4));
        due(2, x.knows(2, 999));
        due(0, x.knows(1, 999));
        // One that is back was read.
        x.comesBack(0);
        due(2, x.knows(2, 4));
    }

    @Sentence("Terms 5: or it CAME by then to a TABLE where the OFFICE has a SEAT now")
    static void knownByASeatFromTheDayOnWhichItCame() {
        CabinetTable x = until(withPapers(1), 4);
        x.send(0);
        due(0, x.knows(1, 4));
        x.come(0, 0, 0);
        due(0, x.knows(1, 3));
        due(1, x.knows(1, 4));
        due(1, x.knows(1, 999));
        due(0, x.knows(2, 4));
        x.seats(0, 0b100);
        due(0, x.knows(1, 4));
        due(1, x.knows(2, 4));
        due(0, x.knows(2, 3));
    }

    // ---- what is open

    @Sentence("Promise 44: What is OPEN, PAPERS as bits.")
    static void openOf24Papers() {
        CabinetTable x = house();
        due(0, x.open());
        rule(x, "shut 0 0");
        for (int i = 0; i < 24; i++) {
            x.paper(i % 5, 0, 0, 0, 0);
            x.send(i);
        }
        due((1 << 24) - 1, x.open());
    }

    @Sentence("Terms 5: OPEN is a PAPER that was SENT, SHUT or more DAYS ago (on the open DAY).")
    static void openFromShutDaysOn() {
        due(0, until(withSentPapers(1), 299).open());
        due(1, until(withSentPapers(1), 300).open());
        due(1, until(withSentPapers(1), 301).open());
        due(0, until(withPapers(1), 300).open());
        CabinetTable x = withPapers(2);
        rule(x, "shut 0 0");
        due(0, x.open());
        x.send(1);
        due(2, x.open());
        CabinetTable y = until(withPapers(1), 3);
        rule(y, "shut 0 5");
        y.send(0);
        due(0, until(y, 7).open());
        due(1, until(y, 8).open());
        // One that was taken back was sent all the same; a longer time shuts it again.
        y.take(0);
        due(1, y.open());
        rule(y, "shut 0 6");
        due(0, y.open());
    }

    @Sentence("Terms 5: SHUT or more DAYS ago")
    static void shutFor999Days() {
        CabinetTable x = withSentPapers(1);
        rule(x, "shut 0 999");
        due(0, until(x, 998).open());
        due(1, until(x, 999).open());
        CabinetTable y = until(withPapers(1), 1);
        rule(y, "shut 0 999");
        y.send(0);
        due(0, until(y, 999).open());
    }

    // ---- what may be reckoned

    @Sentence("Terms 5: GROUPS, 8 at most, numbered from 0")
    static void groupsAreNumberedFrom0To7() {
        CabinetTable x = house();
        for (int i = 0; i < 8; i++) {
            due(i, x.count(10));
            due(i, x.group(1 << i));
        }
        due(8, x.count(10));
        due(FULL, x.group(1));
        for (int i = 0; i < 9; i++) {
            x.paper(0, 0, 0, 0, 0);
        }
        due(255, x.reckoned());
    }

    @Sentence("Promise 45: One more GROUP (bits 1 .. 16777215): its number. BAD; FULL.")
    static void setsAre1To16777215() {
        due(0, house().group(1));
        due(0, house().group(16777215));
        due(0, house().group(1 << 23));
        due(7, withGroups(7).group(1));
        refused(BAD, Situations::busy, x -> x.group(0), x -> x.group(16777216), x -> x.group(-1), x -> x.group(MIN), x -> x.group(MAX));
        refused(FULL, () -> withGroups(8), x -> x.group(1), x -> x.group(16777215));
        refused(BAD, () -> withGroups(8), x -> x.group(0), x -> x.group(16777216));
    }

    @Sentence("Terms 5: a set of PAPERS (bits, there or not), the sum of whose numbers a (of those that are there) is known to all")
    static void papersOfAGroupThatAreNotThere() {
        CabinetTable x = house();
        x.group(0b11);
        due(0, x.reckoned());
        x.paper(0, 0, 0, 0, 0);
        due(0b01, x.reckoned());
        x.paper(0, 0, 0, 0, 0);
        due(0, x.reckoned());
        CabinetTable y = withPapers(24);
        y.group(1 << 23);
        due(1 << 23, y.reckoned());
    }

    @Sentence("Terms 5: as long as there is a GROUP in which all PAPERS but one are known, that one is known, too")
    static void reckonedOnAndOn() {
        CabinetTable x = withPapers(9);
        // Each group needs the one behind it.
        for (int i = 0; i < 8; i++) {
            x.group(3 << i);
        }
        due(0, x.reckoned());
        rule(x, "shut 0 0");
        x.send(8);
        due(0b011111111, x.reckoned());
        CabinetTable y = withPapers(5);
        y.group(0b00011);
        y.group(0b11100);
        rule(y, "shut 0 0");
        y.send(0);
        due(0b00010, y.reckoned());
        y.send(2);
        due(0b00010, y.reckoned());
        y.send(3);
        due(0b10010, y.reckoned());
    }

    @Sentence("Promise 46: RECKONED, PAPERS as bits.")
    static void whatIsOpenIsNotReckoned() {
        CabinetTable x = withPapers(24);
        due(0, x.reckoned());
        x.group(1);
        x.group(1 << 23);
        due(1 << 23 | 1, x.reckoned());
        rule(x, "shut 0 0");
        x.send(0);
        due(1 << 23, x.reckoned());
        x.send(23);
        due(0, x.reckoned());
    }
}
