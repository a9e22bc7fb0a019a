/** Objects for the tests of sentences, each made by few calls, so that some hundreds are left for what is asked. */
abstract class Situations extends Asking {
    static int rule(CabinetTable x, String text) {
        PromisesTest.type(x, text);
        return x.rule(0);
    }

    static int ruleFrom(CabinetTable x, int day, String text) {
        PromisesTest.type(x, text);
        return x.rule(day);
    }

    /** Three offices; table 0 sits each day with offices 0 and 1, table 1 on days 1, 4, 7 .. with all three. */
    static CabinetTable house() {
        CabinetTable x = withOffices(3);
        x.table(3, 1, 0);
        x.table(7, 3, 1);
        return x;
    }

    static CabinetTable withOffices(int many) {
        CabinetTable x = new CabinetTable();
        for (int i = 0; i < many; i++) {
            x.office();
        }
        return x;
    }

    static CabinetTable withTables(int many) {
        CabinetTable x = withOffices(1);
        for (int i = 0; i < many; i++) {
            x.table(1, 1, 0);
        }
        return x;
    }

    /** A house with papers of kind PAPER, by office 0, on thing 0, sum 100, a 0. */
    static CabinetTable withPapers(int many) {
        CabinetTable x = house();
        for (int i = 0; i < many; i++) {
            x.paper(0, 0, 0, 100, 0);
        }
        return x;
    }

    static CabinetTable withSentPapers(int many) {
        CabinetTable x = withPapers(many);
        for (int i = 0; i < many; i++) {
            x.send(i);
        }
        return x;
    }

    /** A house with one paper of a kind that is sent on day 0. */
    static CabinetTable withOneSent(int kind, int a) {
        CabinetTable x = house();
        x.paper(kind, 0, 0, 100, a);
        x.send(0);
        return x;
    }

    /** A house with decisions on thing 0, of value 1, each leaning on none. */
    static CabinetTable withDecisions(int many) {
        CabinetTable x = house();
        for (int i = 0; i < many; i++) {
            decided(x, 0, 1, 0);
        }
        return x;
    }

    static CabinetTable withRules(int many) {
        CabinetTable x = withPapers(1);
        for (int i = 0; i < many; i++) {
            rule(x, "shut 0 1");
        }
        return x;
    }

    static CabinetTable withCopies(int many) {
        CabinetTable x = withPapers(1);
        for (int i = 0; i < many; i++) {
            x.copy(0, i % 3, i);
        }
        return x;
    }

    static CabinetTable withGroups(int many) {
        CabinetTable x = withPapers(2);
        for (int i = 0; i < many; i++) {
            // The last one alone tells paper 1, so that it shows if it is lost.
            x.group(i == many - 1 ? 2 : 1);
        }
        return x;
    }

    static CabinetTable withBytes(int many) {
        CabinetTable x = house();
        PromisesTest.type(x, "shut 0 1" + " ".repeat(Math.max(0, many - 8)));
        x.trim(many);
        return x;
    }

    static CabinetTable onDay(int day) {
        return until(house(), day);
    }

    static CabinetTable until(CabinetTable x, int day) {
        int left = day - x.count(14);
        while (left > 0) {
            x.run(Math.min(left, 60));
            left -= 60;
        }
        return x;
    }

    /** A paper of a kind on a thing by office 0 that is sent and let in to table 0 by office 0 now: its number. */
    static int arrived(CabinetTable x, int kind, int thing) {
        int paper = x.paper(kind, 0, thing, 100, 0);
        x.send(paper);
        x.come(paper, 0, 0);
        return paper;
    }

    static int decided(CabinetTable x, int thing, int value, int leans) {
        return x.decide(arrived(x, 0, thing), value, leans);
    }

    /** Something of everything, so that a change shows. */
    static CabinetTable busy() {
        CabinetTable x = busyWithoutNumbers();
        x.tell(1);
        x.tell(0);
        x.tell(1);
        return x;
    }

    static CabinetTable busyWithoutNumbers() {
        CabinetTable x = withOffices(4);
        x.table(3, 1, 0);
        x.table(7, 3, 1);
        x.table(129, 30, 29);
        x.pass(0, 1, 1);
        x.pass(1, 2, 1);
        x.hold(0, 7);
        x.hold(1, 8);
        x.paper(2, 0, 3, 500, 20);
        x.paper(0, 1, 3, 250, 35);
        x.paper(1, 2, 4, 999, 5);
        x.paper(4, 3, 5, 100, 10);
        x.paper(3, 0, 5, 9999, 99);
        x.paper(0, 0, 6, 0, 0);
        x.send(0);
        x.send(1);
        x.send(4);
        x.word(0, 0, 1);
        x.word(0, 1, 0);
        rule(x, "ahead 0 2 if sum > 200");
        rule(x, "need 1 0");
        rule(x, "silent 2 9");
        rule(x, "shut 0 40 unless thing 5");
        rule(x, "strike 0 if by 3");
        x.come(1, 0, 0);
        x.decide(1, 42, 0);
        x.keep();
        goOn(x);
        return x;
    }

    private static void goOn(CabinetTable x) {
        x.run(3);
        x.govern();
        x.hold(0, 9);
        x.send(3);
        x.come(3, 0, 0);
        x.decide(3, 43, 1);
        x.send(5);
        x.law(3, 50);
        x.law(5, 60);
        x.copy(0, 1, 0x1234);
        x.copy(0, 2, 0x1134);
        x.copy(1, 3, 0xFFFF);
        x.comesBack(1);
        x.group(4);
        x.group(12);
        x.register(0, 0, 4);
        x.register(1, 1, 3);
        x.register(2, 0, 0);
        x.note(0, 1, 77);
        x.note(1, 2, -300);
        x.lay(0, 1, 4);
        x.lay(1, 2, 1);
        x.lay(2, 3, -17);
        PromisesTest.type(x, "shut 1 6");
    }
}
