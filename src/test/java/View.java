import java.util.Arrays;

/**
 * All that can be seen of an object, as rows of answers. Each page is asked of an object of its own, since some
 * questions change what they ask for, and since an object answers 512 calls.
 */
final class View {
    private static final int PAGES = 12;
    private final int[] answers = new int[512];
    private int many;

    static int[][] pages(Asking.Making situation) {
        return pages(situation, x -> 0);
    }

    static int[][] pages(Asking.Making situation, Asking.Call ahead) {
        int[][] all = new int[PAGES][];
        for (int page = 0; page < PAGES; page++) {
            CabinetTable x = situation.make();
            ahead.on(x);
            all[page] = new View().page(x, page);
        }
        return all;
    }

    private int[] page(CabinetTable x, int page) {
        switch (page) {
            case 0: officesAndTables(x); break;
            case 1: sittings(x); break;
            case 2: papers(x, 0, 12); break;
            case 3: papers(x, 12, 24); break;
            case 4: rules(x); break;
            case 5: dues(x); break;
            case 6: decisions(x); break;
            case 7: lawsAndLateness(x); break;
            case 8: copies(x); break;
            case 9: registersAndRoom(x); break;
            case 10: tapeAndNumbers(x); break;
            default: image(x); break;
        }
        return Arrays.copyOf(answers, many);
    }

    private void put(int answer) {
        answers[many] = answer;
        many++;
    }

    private void counts(CabinetTable x) {
        for (int what = 0; what < 16; what++) {
            put(x.count(what));
        }
    }

    private void officesAndTables(CabinetTable x) {
        counts(x);
        int today = x.count(14);
        int[] days = {0, 1, 2, 3, today, 999};
        for (int office = 0; office < x.count(0); office++) {
            for (int day : days) {
                put(x.held(office, day));
            }
        }
        for (int one = 0; one < x.count(1); one++) {
            for (int other = 0; other < x.count(1); other++) {
                put(x.pass(one, other, 0));
            }
            put(x.seats(one, 0));
        }
    }

    /** A table's offset and period show in its first sixty days. */
    private void sittings(CabinetTable x) {
        for (int table = 0; table < x.count(1); table++) {
            for (int day = 0; day < 60; day++) {
                put(x.sits(table, day));
            }
        }
    }

    private void papers(CabinetTable x, int from, int to) {
        for (int paper = from; paper < to && paper < x.count(2); paper++) {
            for (int what = 0; what < 16; what++) {
                put(x.told(paper, what));
            }
        }
    }

    private void rules(CabinetTable x) {
        for (int rule = 0; rule < x.count(5); rule++) {
            for (int what = 0; what < 5; what++) {
                put(x.of(rule, what));
            }
            for (int paper = 0; paper < 6 && paper < x.count(2); paper++) {
                put(x.counts(rule, paper));
            }
        }
    }

    private void dues(CabinetTable x) {
        for (int paper = 0; paper < x.count(2); paper++) {
            for (int what = 0; what < 5; what++) {
                put(x.due(paper, what));
            }
        }
        for (int paper = 0; paper < 12 && paper < x.count(2); paper++) {
            for (int what = 0; what < 5; what++) {
                put(x.why(paper, what));
            }
        }
    }

    private void decisions(CabinetTable x) {
        for (int decision = 0; decision < x.count(6); decision++) {
            for (int what = 0; what < 9; what++) {
                put(x.is(decision, what));
            }
        }
        for (int what = 0; what < 3; what++) {
            put(x.against(what));
        }
    }

    private void lawsAndLateness(CabinetTable x) {
        for (int thing = 0; thing < 10; thing++) {
            put(x.more(thing));
            put(x.current(thing, 0));
            put(x.current(thing, 999));
            put(x.bound(0, thing));
            put(x.law(thing, Asking.NONE));
        }
        for (int n = 0; n < 100; n++) {
            put(x.beside(n));
        }
    }

    private void copies(CabinetTable x) {
        put(x.open());
        put(x.reckoned());
        int today = x.count(14);
        for (int office = 0; office < x.count(0); office++) {
            put(x.out(office));
            put(x.knows(office, 0));
            put(x.knows(office, today));
        }
        for (int paper = 0; paper < 3 && paper < x.count(2); paper++) {
            for (int place = 0; place < 8; place++) {
                for (int mark = 0; mark < 4; mark++) {
                    put(x.suspect(paper, 1 << place, mark << (2 * place)));
                }
            }
        }
        for (int copy = 0; copy < x.count(8); copy++) {
            put(x.comesBack(copy));
        }
    }

    private void registersAndRoom(CabinetTable x) {
        for (int register = 0; register < 4; register++) {
            for (int place = 0; place <= 24; place++) {
                put(x.note(register, place, 0));
            }
            // The sort shows in what becomes of a number that no byte holds.
            x.note(register, 0, 1000);
            put(x.note(register, 0, 0));
        }
        for (int seat = 0; seat < 6; seat++) {
            for (int place = 0; place <= 24; place++) {
                put(x.item(seat, place));
            }
            put(x.ask(seat, 0));
            put(x.rest(seat, MODULUS));
        }
    }

    // Greater than all numbers that the situations lay on a seat.
    private static final int MODULUS = 1000000007;

    private void tapeAndNumbers(CabinetTable x) {
        put(x.count(13));
        put(x.count(12));
        put(x.check(28));
        put(x.rule(3));
        for (int what = 0; what < 5; what++) {
            put(x.of(x.count(5) - 1, what));
        }
    }

    private void image(CabinetTable x) {
        put(x.back());
        counts(x);
        papers(x, 0, 12);
        for (int decision = 0; decision < 4; decision++) {
            for (int what = 0; what < 9; what++) {
                put(x.is(decision, what));
            }
        }
        for (int thing = 0; thing < 10; thing++) {
            put(x.law(thing, Asking.NONE));
        }
    }
}
