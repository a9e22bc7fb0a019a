/** For each promise of the document: ordinary calls, the edges that it names, wrong arguments, the order of refusals. */
public final class PromisesTest {
    private static final int BAD = -1000000001, NO = -1000000002, FULL = -1000000003, NONE = -1000000005;
    private static final int NOTHING = -1000000011, KIND = -1000000012, INDEX = -1000000013, SIZE = -1000000014;
    private static final int MIN = Integer.MIN_VALUE, MAX = Integer.MAX_VALUE;

    private static int promise;
    private static int asked;
    private static int wrong;

    private static void due(int want, int got) {
        asked++;
        if (want != got) {
            wrong++;
            StackTraceElement[] trace = new Throwable().getStackTrace();
            int depth = 1;
            while (depth < trace.length - 1 && !trace[depth].getMethodName().startsWith("promise")) {
                depth++;
            }
            System.out.println("promise " + promise + ", line " + trace[depth].getLineNumber() + ": answered " + got + ", due is " + want);
        }
    }

    /** Puts a text on the empty tape. */
    static void type(CabinetTable x, String text) {
        StringBuilder padded = new StringBuilder(text);
        while (padded.length() % 12 != 0) {
            padded.append(' ');
        }
        for (int i = 0; i < padded.length(); i += 12) {
            x.feed(four(padded, i), four(padded, i + 4), four(padded, i + 8));
        }
        x.trim(text.length());
    }

    private static int four(CharSequence text, int at) {
        int packed = 0;
        for (int i = 0; i < 4; i++) {
            packed = packed << 8 | (text.charAt(at + i) & 255);
        }
        return packed;
    }

    private static int rule(CabinetTable x, String text) {
        type(x, text);
        return x.rule(0);
    }

    /** Three offices; table 0 sits each day with offices 0 and 1, table 1 on days 1, 4, 7 .. with all three. */
    private static CabinetTable house() {
        CabinetTable x = new CabinetTable();
        x.office();
        x.office();
        x.office();
        x.table(3, 1, 0);
        x.table(7, 3, 1);
        return x;
    }

    /** A paper of a kind on a thing by office 0 that is sent and let in to table 0 by office 0 now: its number. */
    private static int arrived(CabinetTable x, int kind, int thing) {
        int paper = x.paper(kind, 0, thing, 100, 0);
        x.send(paper);
        x.come(paper, 0, 0);
        return paper;
    }

    private static int decided(CabinetTable x, int thing, int value, int leans) {
        return x.decide(arrived(x, 0, thing), value, leans);
    }

    public static void main(String[] args) throws ReflectiveOperationException {
        for (promise = 1; promise <= 58; promise++) {
            int before = asked;
            PromisesTest.class.getDeclaredMethod("promise" + promise).invoke(null);
            if (asked == before) {
                wrong++;
                System.out.println("promise " + promise + " is not tested");
            }
        }
        System.out.println(asked + " answers asked, " + wrong + " not as due");
        if (wrong != 0) {
            System.exit(1);
        }
    }

    private static void promise1() {
        CabinetTable x = new CabinetTable();
        for (int what = 0; what <= 15; what++) {
            due(0, x.count(what));
        }
        due(0, x.open());
        due(0, x.reckoned());
        due(0, x.against(0));
        due(NONE, x.against(1));
        due(NO, x.back());
        for (int thing = 0; thing < 10; thing++) {
            due(NONE, x.current(thing, 0));
            due(NONE, x.law(thing, NONE));
        }
        for (int register = 0; register < 4; register++) {
            due(NOTHING, x.note(register, 0, 0));
        }
        for (int seat = 0; seat < 6; seat++) {
            due(NOTHING, x.item(seat, 0));
        }
    }

    private static void promise2() {
        CabinetTable x = new CabinetTable();
        for (int i = 0; i < 8; i++) {
            due(i, x.office());
        }
        due(FULL, x.office());
        due(8, x.count(0));
    }

    private static void promise3() {
        CabinetTable x = house();
        due(BAD, x.hold(3, 5));
        due(BAD, x.hold(-1, 5));
        due(BAD, x.hold(0, 100));
        due(BAD, x.hold(0, -1));
        due(0, x.count(11));
        due(NONE, x.hold(0, 99));
        due(99, x.hold(0, 0));
        due(0, x.hold(0, NONE));
        due(NONE, x.hold(0, 4));
        due(NONE, x.hold(1, 4));
        due(5, x.count(11));
        for (int i = 5; i < 40; i++) {
            due(4, x.hold(0, 4));
        }
        due(FULL, x.hold(0, 4));
        due(FULL, x.hold(2, 4));
        due(BAD, x.hold(0, 100));
        due(40, x.count(11));
    }

    private static void promise4() {
        CabinetTable x = house();
        x.hold(0, 7);
        x.run(10);
        x.hold(0, 8);
        x.hold(0, 9);
        x.hold(1, 3);
        x.run(5);
        x.hold(0, NONE);
        due(7, x.held(0, 0));
        due(7, x.held(0, 9));
        due(9, x.held(0, 10));
        due(9, x.held(0, 14));
        due(NONE, x.held(0, 15));
        due(NONE, x.held(0, 999));
        due(NONE, x.held(1, 9));
        due(3, x.held(1, 999));
        due(NONE, x.held(2, 0));
        due(BAD, x.held(3, 0));
        due(BAD, x.held(-1, 0));
        due(BAD, x.held(0, -1));
        due(BAD, x.held(0, 1000));
    }

    private static void promise5() {
        CabinetTable x = new CabinetTable();
        for (int i = 1; i <= 99; i++) {
            due(i, x.govern());
        }
        due(FULL, x.govern());
        due(99, x.count(15));
    }

    private static void promise6() {
        CabinetTable x = new CabinetTable();
        due(BAD, x.table(-1, 1, 0));
        due(BAD, x.table(256, 1, 0));
        due(BAD, x.table(0, 0, 0));
        due(BAD, x.table(0, 31, 0));
        due(BAD, x.table(0, 1, -1));
        due(BAD, x.table(0, 1, 30));
        due(0, x.table(255, 30, 29));
        for (int i = 1; i < 6; i++) {
            due(i, x.table(0, 1, 0));
        }
        due(FULL, x.table(0, 1, 0));
        due(BAD, x.table(0, 31, 0));
        due(6, x.count(1));
        due(255, x.seats(0, 0));
    }

    private static void promise7() {
        CabinetTable x = house();
        due(3, x.seats(0, 255));
        due(255, x.seats(0, 0));
        due(7, x.seats(1, 7));
        due(BAD, x.seats(2, 0));
        due(BAD, x.seats(-1, 0));
        due(BAD, x.seats(0, -1));
        due(BAD, x.seats(0, 256));
        due(0, x.seats(0, 1));
    }

    private static void promise8() {
        CabinetTable x = new CabinetTable();
        x.table(1, 7, 29);
        due(0, x.sits(0, 0));
        due(0, x.sits(0, 1));
        due(0, x.sits(0, 22));
        due(1, x.sits(0, 29));
        due(0, x.sits(0, 30));
        due(1, x.sits(0, 36));
        due(1, x.sits(0, 29 + 7 * 1424));
        due(0, x.sits(0, 9999));
        due(BAD, x.sits(0, 10000));
        due(BAD, x.sits(0, -1));
        due(BAD, x.sits(1, 0));
        due(BAD, x.sits(-1, 0));
    }

    private static void promise9() {
        CabinetTable x = house();
        due(0, x.pass(0, 1, 1));
        due(1, x.pass(0, 1, 1));
        due(0, x.pass(1, 0, 0));
        due(1, x.pass(0, 1, 0));
        due(0, x.pass(0, 1, 0));
        due(BAD, x.pass(0, 0, 1));
        due(BAD, x.pass(0, 2, 1));
        due(BAD, x.pass(2, 0, 1));
        due(BAD, x.pass(-1, 0, 1));
        due(BAD, x.pass(0, -1, 1));
        due(BAD, x.pass(0, 1, 2));
        due(BAD, x.pass(0, 1, -1));
    }

    private static void promise10() {
        CabinetTable x = new CabinetTable();
        for (int i = 0; i < 5; i++) {
            x.table(1, i == 3 ? 10 : 1, 0);
        }
        due(NONE, x.way(3, 0, 0, 0));
        due(NONE, x.way(3, 0, 0, 7));
        due(BAD, x.way(3, 0, 0, -1));
        due(BAD, x.way(5, 0, 0, 0));
        due(BAD, x.way(50, 0, 0, 0));
        due(BAD, x.way(-1, 0, 0, 0));
        due(BAD, x.way(-10, 0, 0, 0));
        due(BAD, x.way(0, -1, 0, 0));
        due(BAD, x.way(0, 1000, 0, 0));
        due(BAD, x.way(0, 0, -1, 0));
        due(BAD, x.way(0, 0, 31, 0));
        due(999, x.way(22, 999, 30, 0));
        due(1, x.way(22, 0, 0, 1));
        due(2, x.way(22, 0, 0, 2));
        due(NONE, x.way(22, 0, 0, 3));
        due(NONE, x.way(22, 0, 0, MAX));
        // Two ways as soon and as short as one another: by the lesser tables. The longer one is no sooner.
        x.pass(0, 2, 1);
        x.pass(2, 3, 1);
        x.pass(0, 4, 1);
        x.pass(4, 3, 1);
        x.pass(0, 1, 1);
        x.pass(1, 2, 1);
        due(10, x.way(3, 1, 2, 0));
        due(3, x.way(3, 1, 2, 1));
        due(0, x.way(3, 1, 2, 2));
        due(2, x.way(3, 1, 2, 3));
        due(3, x.way(3, 1, 2, 4));
        due(NONE, x.way(3, 1, 2, 5));
        due(1030, x.way(3, 999, 15, 0));
        // The straight one is later than the round one.
        CabinetTable y = new CabinetTable();
        y.table(1, 1, 0);
        y.table(1, 1, 0);
        y.table(1, 30, 29);
        y.pass(0, 1, 1);
        y.pass(1, 2, 1);
        y.pass(0, 2, 1);
        due(29, y.way(2, 0, 10, 0));
        due(2, y.way(2, 0, 10, 1));
        due(59, y.way(2, 0, 30, 0));
        due(2, y.way(2, 0, 30, 1));
        y.pass(0, 2, 0);
        due(89, y.way(2, 0, 30, 0));
        due(1, y.way(2, 0, 30, 3));
        due(3, y.way(2, 0, 30, 1));
        due(NONE, y.way(20, 0, 0, 0));
        y.pass(1, 0, 1);
        due(12, y.way(10, 3, 9, 0));
        due(0, y.way(10, 3, 9, 3));
        due(5, y.way(0, 5, 9, 0));
    }

    private static void promise11() {
        CabinetTable x = house();
        due(BAD, x.paper(-1, 0, 0, 0, 0));
        due(BAD, x.paper(5, 0, 0, 0, 0));
        due(BAD, x.paper(0, -1, 0, 0, 0));
        due(BAD, x.paper(0, 3, 0, 0, 0));
        due(BAD, x.paper(0, 0, -1, 0, 0));
        due(BAD, x.paper(0, 0, 10, 0, 0));
        due(BAD, x.paper(0, 0, 0, -1, 0));
        due(BAD, x.paper(0, 0, 0, 10000, 0));
        due(BAD, x.paper(0, 0, 0, 0, -1));
        due(BAD, x.paper(0, 0, 0, 0, 100));
        for (int i = 0; i < 24; i++) {
            due(i, x.paper(i % 5, 2, 9, 9999, 99));
        }
        due(FULL, x.paper(0, 0, 0, 0, 0));
        due(BAD, x.paper(5, 0, 0, 0, 0));
        due(24, x.count(2));
    }

    private static void promise12() {
        CabinetTable x = house();
        x.paper(3, 2, 9, 9999, 99);
        int[] unsent = {3, 2, 9, 9999, 99, NONE, 0, 0, 0, NONE, NONE, NONE, 7, 989, 1, 99 + 99 + 989};
        for (int what = 0; what < unsent.length; what++) {
            due(unsent[what], x.told(0, what));
        }
        due(BAD, x.told(0, -1));
        due(BAD, x.told(0, 16));
        due(BAD, x.told(1, 0));
        due(BAD, x.told(-1, 0));
        x.run(3);
        x.send(0);
        x.word(0, 0, 1);
        x.word(0, 1, 0);
        x.word(0, 2, 0);
        x.run(1);
        x.come(0, 1, 2);
        int[] sent = {3, 1, 6, 1, 4, 2};
        due(sent[0], x.told(0, 5));
        due(sent[1], x.told(0, 7));
        due(sent[2], x.told(0, 8));
        due(sent[3], x.told(0, 9));
        due(sent[4], x.told(0, 10));
        due(sent[5], x.told(0, 11));
        due(0, x.told(0, 6));
        promise12OfKinds();
    }

    /** REACH, SHUTS, BINDS, WEIGHS, kind by kind, with a 0, 15 and 99. */
    private static void promise12OfKinds() {
        CabinetTable x = house();
        int[] numbers = {0, 15, 99};
        int[][] reach = {{5, 6, 14}, {3, 4, 12}, {6, 7, 15}, {3, 3, 7}, {0, 0, 8}};
        int[][] shuts = {{300, 300, 300}, {300, 285, 201}, {300, 330, 498}, {597, 657, 989}, {100, 95, 67}};
        int[] binds = {1, 0, 1, 1, 1};
        int[][] weighs = {{29, 44, 128}, {29, 44, 128}, {29, 44, 128}, {626, 701, 1117}, {29, 44, 112}};
        for (int kind = 0; kind < 5; kind++) {
            for (int i = 0; i < 3; i++) {
                int paper = x.paper(kind, 0, 0, 2900, numbers[i]);
                due(reach[kind][i], x.told(paper, 12));
                due(shuts[kind][i], x.told(paper, 13));
                due(binds[kind], x.told(paper, 14));
                due(weighs[kind][i], x.told(paper, 15));
            }
        }
    }

    private static void promise13() {
        CabinetTable x = house();
        int[][] under = {{1, 0, 0, 0, 0}, {1, 1, 0, 0, 0}, {1, 0, 1, 0, 0}, {1, 0, 1, 1, 0}, {1, 1, 0, 0, 1}};
        for (int kind = 0; kind < 5; kind++) {
            x.paper(kind, 0, 0, 40 + kind, 0);
            for (int as = 0; as < 5; as++) {
                due(under[kind][as] == 1 ? 40 + kind : KIND, x.as(kind, as));
            }
        }
        due(BAD, x.as(0, 5));
        due(BAD, x.as(0, -1));
        due(BAD, x.as(5, 0));
        due(BAD, x.as(-1, 0));
    }

    private static void promise14() {
        CabinetTable x = house();
        x.paper(0, 0, 0, 0, 0);
        x.run(2);
        due(BAD, x.send(1));
        due(BAD, x.send(-1));
        due(1, x.send(0));
        due(NO, x.send(0));
        due(2, x.told(0, 5));
        x.run(1);
        x.take(0);
        due(NO, x.send(0));
        due(2, x.told(0, 5));
    }

    private static void promise15() {
        CabinetTable x = house();
        x.paper(0, 0, 0, 0, 0);
        due(BAD, x.take(1));
        due(BAD, x.take(-1));
        due(NO, x.take(0));
        x.send(0);
        due(1, x.take(0));
        due(1, x.told(0, 6));
        due(NO, x.take(0));
        int come = arrived(x, 0, 0);
        due(NO, x.take(come));
        due(0, x.told(come, 6));
    }

    private static void promise16() {
        CabinetTable x = house();
        x.paper(0, 0, 0, 0, 0);
        due(NO, x.word(0, 0, 1));
        due(BAD, x.word(1, 0, 1));
        due(BAD, x.word(-1, 0, 1));
        due(BAD, x.word(0, 3, 1));
        due(BAD, x.word(0, -1, 1));
        due(BAD, x.word(0, 0, 2));
        due(BAD, x.word(0, 0, -1));
        x.send(0);
        due(NONE, x.word(0, 2, 0));
        due(0, x.word(0, 2, 0));
        due(4, x.told(0, 8));
        due(0, x.word(0, 2, 1));
        due(4, x.told(0, 7));
        due(0, x.told(0, 8));
        due(1, x.word(0, 2, 1));
        due(1, x.word(0, 2, 0));
        due(0, x.told(0, 7));
        due(NONE, x.word(0, 0, 1));
        x.take(0);
        due(NO, x.word(0, 0, 1));
        int come = arrived(x, 0, 0);
        due(NO, x.word(come, 0, 1));
        due(BAD, x.word(come, 3, 1));
    }

    private static void promise17() {
        CabinetTable x = house();
        for (int i = 1; i <= 8; i++) {
            due(12 * i, x.feed(0x20202020, 0x20202020, 0x20202020));
        }
        due(FULL, x.feed(0, 0, 0));
        due(96, x.count(13));
        x.trim(85);
        due(FULL, x.feed(0, 0, 0));
        x.trim(84);
        due(96, x.feed(0, 0, 0));
        due(-184, x.rule(0));
        due(0, x.count(13));
        for (int i = 1; i <= 8; i++) {
            x.feed(0x28282828, 0x28282828, 0x28282828);
        }
        due(-100, x.rule(0));
        type(x, "ahead 0 1 if by 0 or by 0 or by 0 or by 0 or by 0 or by 0 or by 0 or by 0 or by 0 or by 0 or by1");
        due(-195, x.rule(0));
        // Bytes above 127 are no letters, and the highest byte of a number is the first.
        x.feed(0x74616274, 0x61626C65, 0x20302030);
        due(-100, x.rule(0));
        x.feed(0x20202020, 0x7461626C, 0x652030FF);
        due(-111, x.rule(0));
        x.feed(0x7461626C, 0x65203020, 0x30202020);
        due(0, x.rule(0));
    }

    private static void promise18() {
        CabinetTable x = house();
        due(0, x.trim(0));
        due(BAD, x.trim(1));
        due(BAD, x.trim(-1));
        x.feed(0, 0, 0);
        due(BAD, x.trim(13));
        due(BAD, x.trim(-1));
        due(12, x.trim(12));
        due(5, x.trim(5));
        due(BAD, x.trim(6));
        due(5, x.count(13));
        due(17, x.feed(0, 0, 0));
    }

    private static void promise19() {
        CabinetTable x = house();
        due(-100, x.rule(0));
        due(BAD, x.rule(-1));
        type(x, "table 0 1");
        due(BAD, x.rule(1000));
        due(0, x.count(13));
        type(x, "tabl 0 1");
        due(BAD, x.rule(1000));
        type(x, "table 0 1");
        due(0, x.rule(999));
        due(0, x.count(13));
        promise19OfFaults(x);
        promise19OfNesting(x);
        promise19OfWrong();
        CabinetTable y = house();
        for (int i = 0; i < 16; i++) {
            due(i, rule(y, "shut 4 999"));
        }
        due(FULL, rule(y, "shut 4 999"));
        due(NO, rule(y, "shut 5 999"));
        due(-104, rule(y, "shut"));
        due(16, y.count(5));
    }

    private static void promise19OfFaults(CabinetTable x) {
        String[] faulty = {
            "^", "     ^", "^foo", "^5", "^if by 0", "^Table 0 1", "^tables 0 1", "^tablez 0 1", "^atable 0 1", "^tab 0 1", "^tabl 0 1", "table^", "table ^", "table^0 1",
            "table ^if", "table 0^", "table 0 ^if", "table 0 1 ^2", "table 0 1^if by 0", "table 0 1 ^by 0", "table 0 ^000001",
            "table ^123456 1", "strike 0 ^1", "strike^", "^strik 0", "table 0 1 if^", "table 0 1 if ^unless by 0",
            "table 0 1 if ^if", "table 0 1 if sum ^5", "table 0 1 if sum <^", "table 0 1 if sum < ^<", "table 0 1 if sum<5^and",
            "table 0 1 if by ^< 5", "table 0 1 if by^0", "table 0 1 if by 0 ^by 1", "table 0 1 if by 0 and^", "table 0 1 if by 0 and ^or by 1",
            "table 0 1 if by 0 ^)", "table 0 1 if ( by 0^", "table 0 1 if ( by 0 ^unless by 1", "table 0 1 if (^)", "table 0 1 if not^",
            "table 0 1 if not ^and", "table 0 1 unless by 0 ^if by 1", "table 0 1 unless by 0 ^unless by 1", "table 0 1 if by 0 ^if by 1",
            "table 0 1 if by 0^or by 1", "table 0 1 if by 0 or(by 1^", "table 0 1^,", "table 0 ^-1", "table 0 1 if (by 0)^5",
            "table 0 1 if (by 0) ^(by 0)", "table 0 1 if sum ^= 5", "table 0 1 if ^nots by 0", "need 0 0^\t", "need 0 0 ^\0", "need 0 0 if thing 1 ^thing 2",
        };
        for (String one : faulty) {
            int place = one.indexOf('^');
            due(-100 - place, rule(x, one.substring(0, place) + one.substring(place + 1)));
        }
        due(1, rule(x, "  table   0 1 if sum<5 and(by 0)or(by 1)and not(thing 99999)unless gov>00003  "));
        due(2, x.count(5));
    }

    private static void promise19OfNesting(CabinetTable x) {
        due(2, rule(x, "ahead 0 1 if ((((((((by 0)))))))) or ((((((((by 1))))))))"));
        due(-100 - 21, rule(x, "ahead 0 1 if (((((((((by 0)))))))))"));
        due(3, rule(x, "ahead 0 1 if not not not not not not not not by 0"));
        due(-100 - 45, rule(x, "ahead 0 1 if not not not not not not not not not by 0"));
        due(4, rule(x, "ahead 0 1 if not(not(not(not(not(not(not(not(by 0))))))))"));
        due(-100 - 45, rule(x, "ahead 0 1 if not(not(not(not(not(not(not(not(not by 0))))))))"));
        due(5, rule(x, "ahead 0 1 if not not not not not not not not by 0 and not by 1 unless not by 2"));
        due(6, rule(x, "ahead 0 1 unless ((((((((not not not not not not not not by 0))))))))"));
        due(-100 - 25, rule(x, "ahead 0 1 unless (((((((((by 0)))))))))"));
        due(-100 - 57, rule(x, "ahead 0 1 unless ((((((((not not not not not not not not not by 0))))))))"));
    }

    private static void promise19OfWrong() {
        CabinetTable x = house();
        String[] wrongOnes = {
            "table 5 0", "ahead 5 0", "need 5 0", "silent 5 0", "shut 5 0", "table 0 2", "table 0 99999", "ahead 0 100", "silent 0 100",
            "shut 0 1000", "need 0 3", "strike 0", "strike 99999", "table 0 0 if by 3", "table 0 0 if agreed 3", "table 0 0 unless by 3",
            "table 0 0 if by 0 or not agreed 8", "table 0 0 if by 99999",
        };
        for (String one : wrongOnes) {
            due(NO, rule(x, one));
        }
        due(0, x.count(5));
        // A fault is told ahead of what is wrong.
        due(-110, rule(x, "table 9 9 foo"));
        String[] right = {
            "table 4 1", "ahead 4 99", "need 4 2", "silent 4 99", "shut 4 999", "strike 4", "table 0 0 if by 2 unless agreed 2",
            "table 0 0 if thing 99999 or sum > 99999 or day < 99999 and gov > 99999", "table 00004 00001",
        };
        for (int i = 0; i < right.length; i++) {
            due(i, rule(x, right[i]));
        }
        due(NO, rule(x, "strike 9"));
        due(9, rule(x, "strike 8"));
    }

    private static void promise20() {
        CabinetTable x = house();
        rule(x, "table 1 0");
        rule(x, "ahead 2 7 if by 0");
        rule(x, "need 3 2 if by 0 and (by 1 or not sum < 3)");
        type(x, "silent 4 99 if by 0 unless by 1 or thing 2");
        x.rule(999);
        rule(x, "shut 0 999 unless not not agreed 1");
        type(x, "strike 3 if day > 3");
        x.rule(5);
        int[][] want = {{0, 1, 0, 0, 0}, {1, 2, 7, 0, 1}, {2, 3, 2, 0, 3}, {3, 4, 99, 999, 3}, {4, 0, 999, 0, 1}, {5, 3, NONE, 5, 1}};
        for (int rule = 0; rule < want.length; rule++) {
            for (int what = 0; what < 5; what++) {
                due(want[rule][what], x.of(rule, what));
            }
        }
        due(BAD, x.of(6, 0));
        due(BAD, x.of(-1, 0));
        due(BAD, x.of(0, 5));
        due(BAD, x.of(0, -1));
    }

    private static void promise21() {
        promise21OfConditions();
        CabinetTable x = house();
        // Each kind's rule counts for it and for those under it.
        int[][] under = {{1, 0, 0, 0, 0}, {1, 1, 0, 0, 0}, {1, 0, 1, 0, 0}, {1, 0, 1, 1, 0}, {1, 1, 0, 0, 1}};
        for (int kind = 0; kind < 5; kind++) {
            x.paper(kind, 0, 0, 0, 0);
            rule(x, "ahead " + kind + " 1");
        }
        for (int paper = 0; paper < 5; paper++) {
            for (int kind = 0; kind < 5; kind++) {
                due(under[paper][kind], x.counts(kind, paper));
            }
        }
        // A struck strike strikes nothing; which are struck differs from paper to paper.
        rule(x, "strike 0 if sum > 0");
        rule(x, "strike 5 if sum > 10");
        rule(x, "strike 6 if sum > 20");
        x.paper(0, 0, 0, 5, 0);
        x.paper(0, 0, 0, 15, 0);
        x.paper(0, 0, 0, 25, 0);
        int[][] want = {{0, 1, 0, 0}, {1, 0, 1, 0}, {0, 1, 0, 1}};
        for (int i = 0; i < 3; i++) {
            due(want[i][0], x.counts(0, 5 + i));
            due(want[i][1], x.counts(5, 5 + i));
            due(want[i][2], x.counts(6, 5 + i));
            due(want[i][3], x.counts(7, 5 + i));
        }
        rule(x, "strike 1");
        rule(x, "strike 2");
        due(0, x.counts(1, 1));
        due(0, x.counts(2, 2));
        due(BAD, x.counts(10, 0));
        due(BAD, x.counts(-1, 0));
        due(BAD, x.counts(0, 8));
        due(BAD, x.counts(0, -1));
    }

    private static void promise21OfConditions() {
        CabinetTable x = house();
        x.paper(0, 1, 4, 50, 0);
        x.send(0);
        x.word(0, 2, 1);
        x.word(0, 0, 0);
        x.govern();
        x.run(6);
        String[] so = {
            "if sum < 51", "if sum > 49", "if day > 5", "if day < 7", "if gov > 0", "if gov < 2", "if by 1", "if thing 4", "if agreed 2",
            "unless sum < 50", "unless sum > 50", "unless agreed 0", "if not agreed 0", "if by 1 or by 0 and by 2", "if not by 0 and by 1",
            "if not (by 1 and by 0)", "if by 1 unless by 0",
        };
        String[] notSo = {
            "if sum < 50", "if sum > 50", "if day > 6", "if day < 6", "if gov > 1", "if gov < 1", "if by 0", "if thing 3", "if agreed 1",
            "unless by 1", "if by 0 unless by 0", "if by 1 unless by 1", "if (by 1 or by 0) and by 2", "if not by 1 or by 0", "if not (by 1 or by 0)",
        };
        for (String one : so) {
            x.keep();
            due(1, x.counts(rule(x, "shut 0 1 " + one), 0));
            x.back();
        }
        for (String one : notSo) {
            x.keep();
            due(0, x.counts(rule(x, "shut 0 1 " + one), 0));
            x.back();
        }
        type(x, "shut 0 1");
        due(0, x.counts(x.rule(7), 0));
        x.run(1);
        due(1, x.counts(0, 0));
    }

    private static void promise22() {
        CabinetTable x = house();
        x.paper(0, 0, 0, 0, 30);
        int[] plain = {0, 8, 0, 0, 300};
        for (int what = 0; what < 5; what++) {
            due(plain[what], x.due(0, what));
        }
        rule(x, "table 0 1");
        rule(x, "ahead 0 3");
        rule(x, "need 0 2");
        rule(x, "silent 0 4");
        rule(x, "shut 0 5");
        rule(x, "need 0 0");
        rule(x, "ahead 0 2 if by 1");
        int[] ruled = {1, 3, 5, 4, 5};
        for (int what = 0; what < 5; what++) {
            due(ruled[what], x.due(0, what));
        }
        rule(x, "ahead 0 0");
        rule(x, "table 0 0");
        rule(x, "strike 4");
        due(0, x.due(0, 1));
        due(0, x.due(0, 0));
        due(300, x.due(0, 4));
        CabinetTable y = house();
        y.paper(0, 0, 0, 0, 0);
        rule(y, "need 0 1");
        due(2, y.due(0, 2));
        due(BAD, x.due(0, 5));
        due(BAD, x.due(0, -1));
        due(BAD, x.due(1, 0));
        due(BAD, x.due(-1, 0));
    }

    private static void promise23() {
        CabinetTable x = house();
        x.paper(0, 0, 0, 0, 0);
        for (int what = 0; what < 5; what++) {
            due(NONE, x.why(0, what));
        }
        rule(x, "table 0 0");
        rule(x, "need 0 2");
        rule(x, "need 0 1");
        rule(x, "need 0 0 if by 1");
        rule(x, "table 0 1 if by 1");
        due(0, x.why(0, 0));
        due(2, x.why(0, 2));
        due(NONE, x.why(0, 1));
        rule(x, "strike 2");
        due(1, x.why(0, 2));
        due(BAD, x.why(0, 5));
        due(BAD, x.why(0, -1));
        due(BAD, x.why(1, 0));
        due(BAD, x.why(-1, 0));
    }

    private static void promise24() {
        CabinetTable x = house();
        x.paper(0, 0, 0, 10, 0);
        x.paper(2, 0, 0, 20, 0);
        x.paper(3, 0, 0, 30, 0);
        rule(x, "ahead 2 1");
        rule(x, "ahead 0 2 if sum > 20");
        rule(x, "ahead 0 1");
        rule(x, "need 0 1");
        rule(x, "strike 0");
        rule(x, "silent 0 2");
        rule(x, "need 0 2");
        type(x, "ahead 0 9");
        x.rule(1);
        rule(x, "ahead 1 5");
        due(2, x.quarrel(0, 1));
        due(2, x.quarrel(1, 0));
        due(NONE, x.quarrel(0, 2));
        due(2, x.quarrel(1, 2));
        due(KIND, x.quarrel(3, 6));
        due(KIND, x.quarrel(0, 3));
        due(KIND, x.quarrel(4, 0));
        due(KIND, x.quarrel(0, 5));
        due(NONE, x.quarrel(2, 7));
        due(NONE, x.quarrel(0, 8));
        x.run(1);
        due(0, x.quarrel(2, 7));
        due(BAD, x.quarrel(0, 0));
        due(BAD, x.quarrel(3, 3));
        due(BAD, x.quarrel(0, 9));
        due(BAD, x.quarrel(-1, 0));
        CabinetTable y = house();
        y.paper(0, 0, 0, 0, 0);
        rule(y, "strike 0");
        rule(y, "strike 0");
        due(BAD, y.quarrel(0, 1));
        rule(y, "shut 0 1");
        rule(y, "strike 0");
        rule(y, "strike 0");
        due(KIND, y.quarrel(1, 2));
    }

    private static void promise25() {
        CabinetTable x = house();
        x.paper(0, 0, 0, 0, 0);
        rule(x, "table 0 1");
        rule(x, "need 0 2");
        rule(x, "need 0 1");
        due(1, x.lacks(0, 1));
        x.send(0);
        due(2, x.lacks(0, 0));
        due(3, x.lacks(0, 1));
        x.run(4);
        due(4, x.lacks(0, 1));
        x.run(2);
        due(3, x.lacks(0, 1));
        x.run(1);
        due(11, x.lacks(0, 1));
        x.word(0, 1, 1);
        due(12, x.lacks(0, 1));
        x.word(0, 2, 1);
        due(0, x.lacks(0, 1));
        x.word(0, 1, 0);
        due(11, x.lacks(0, 1));
        x.keep();
        x.take(0);
        due(1, x.lacks(0, 1));
        x.back();
        x.come(0, 1, 0);
        due(1, x.lacks(0, 1));
        due(BAD, x.lacks(1, 0));
        due(BAD, x.lacks(-1, 0));
        due(BAD, x.lacks(0, 2));
        due(BAD, x.lacks(0, -1));
        // Five days went by, and AHEAD is 5.
        CabinetTable y = house();
        y.paper(0, 0, 0, 0, 0);
        y.run(9);
        y.send(0);
        y.run(4);
        due(4, y.lacks(0, 0));
        y.run(1);
        due(0, y.lacks(0, 0));
    }

    private static void promise26() {
        CabinetTable x = house();
        x.paper(0, 0, 0, 0, 0);
        x.paper(0, 0, 0, 0, 0);
        x.paper(0, 0, 0, 0, 0);
        due(NO, x.come(0, 0, 0));
        x.send(0);
        x.send(1);
        x.send(2);
        due(BAD, x.come(3, 0, NONE));
        due(BAD, x.come(-1, 0, NONE));
        due(BAD, x.come(0, 2, NONE));
        due(BAD, x.come(0, -1, NONE));
        due(BAD, x.come(0, 0, 3));
        due(BAD, x.come(0, 0, -1));
        due(NO, x.come(0, 0, NONE));
        due(NO, x.come(0, 0, 2));
        due(NONE, x.told(0, 9));
        due(2, x.come(0, 1, 2));
        due(1, x.told(0, 9));
        due(0, x.told(0, 10));
        due(2, x.told(0, 11));
        due(NO, x.come(0, 0, 0));
        x.run(5);
        due(0, x.come(1, 0, 2));
        due(NONE, x.told(1, 11));
        due(5, x.told(1, 10));
        due(0, x.told(1, 9));
        x.take(2);
        due(NO, x.come(2, 0, 0));
        due(2, x.count(4));
        for (int i = 3; i < 8; i++) {
            x.office();
        }
        x.seats(0, 128);
        x.paper(0, 0, 0, 0, 0);
        x.send(3);
        due(NO, x.come(3, 0, 6));
        due(4, x.come(3, 0, 7));
        due(7, x.told(3, 11));
    }

    private static void promise27() {
        CabinetTable x = house();
        int paper = arrived(x, 0, 3);
        due(BAD, x.decide(1, 0, 0));
        due(BAD, x.decide(-1, 0, 0));
        due(BAD, x.decide(paper, 100, 0));
        due(BAD, x.decide(paper, -1, 0));
        due(BAD, x.decide(paper, 0, 1));
        due(BAD, x.decide(paper, 0, -1));
        due(BAD, x.decide(paper, 0, MIN));
        due(0, x.decide(paper, 99, 0));
        due(NO, x.decide(paper, 99, 0));
        due(NO, x.decide(paper, 99, 1));
        int note = arrived(x, 1, 3);
        due(KIND, x.decide(note, 1, 0));
        due(BAD, x.decide(note, 1, 2));
        int unsentNote = x.paper(1, 0, 0, 0, 0);
        due(KIND, x.decide(unsentNote, 1, 0));
        int unsent = x.paper(0, 0, 0, 0, 0);
        due(NO, x.decide(unsent, 1, 0));
        int oral = arrived(x, 4, 3);
        due(1, x.decide(oral, 1, 1));
        int late = arrived(x, 0, 3);
        x.run(1);
        due(NO, x.decide(late, 1, 0));
        x.reopen(1);
        due(2, x.decide(arrived(x, 0, 3), 1, 3));
        CabinetTable y = house();
        for (int i = 0; i < 24; i++) {
            due(i, y.decide(arrived(y, 0, 0), 0, (1 << i) - 1));
        }
        due(BAD, y.decide(0, 0, 1 << 24));
        due(NO, y.decide(0, 0, (1 << 24) - 1));
        promise27WhenFull();
    }

    /** There are as many papers as decisions, so the docket is full only when each paper has one: NO comes first. */
    private static void promise27WhenFull() {
        CabinetTable x = house();
        for (int i = 0; i < 24; i++) {
            decided(x, 0, 0, 0);
        }
        due(24, x.count(6));
        due(NO, x.decide(23, 0, 0));
        due(FULL, x.paper(0, 0, 0, 0, 0));
    }

    private static void promise28() {
        CabinetTable x = house();
        x.govern();
        x.run(2);
        decided(x, 3, 9, 0);
        x.govern();
        x.seats(0, 133);
        decided(x, 4, 8, 1);
        x.seats(0, 2);
        x.run(1);
        int[][] want = {{0, 3, 9, 2, 3, 0, NONE, 1, 1}, {1, 4, 8, 2, 133, 1, NONE, 2, 1}};
        for (int decision = 0; decision < 2; decision++) {
            for (int what = 0; what < 9; what++) {
                due(want[decision][what], x.is(decision, what));
            }
        }
        x.reopen(0);
        due(3, x.is(0, 6));
        due(0, x.is(0, 8));
        due(NONE, x.is(1, 6));
        due(0, x.is(1, 8));
        due(BAD, x.is(2, 0));
        due(BAD, x.is(-1, 0));
        due(BAD, x.is(0, 9));
        due(BAD, x.is(0, -1));
    }

    private static void promise29() {
        CabinetTable x = house();
        decided(x, 0, 0, 0);
        decided(x, 0, 0, 1);
        decided(x, 0, 0, 2);
        decided(x, 0, 0, 0);
        decided(x, 0, 0, 9);
        due(BAD, x.reopen(5));
        due(BAD, x.reopen(-1));
        x.run(4);
        due(6, x.reopen(1));
        due(NO, x.reopen(1));
        due(NO, x.reopen(2));
        due(NONE, x.is(2, 6));
        due(4, x.is(1, 6));
        due(3, x.count(7));
        due(17, x.reopen(0));
        due(8, x.reopen(3));
        due(0, x.count(7));
    }

    private static void promise30() {
        CabinetTable x = house();
        decided(x, 0, 0, 0);
        decided(x, 0, 0, 1);
        decided(x, 0, 0, 2);
        decided(x, 0, 0, 0);
        decided(x, 0, 0, 9);
        due(23, x.falls(0));
        due(6, x.falls(1));
        due(4, x.falls(2));
        due(24, x.falls(3));
        due(5, x.count(7));
        x.reopen(3);
        due(7, x.falls(0));
        due(NO, x.falls(3));
        due(NO, x.falls(4));
        due(BAD, x.falls(5));
        due(BAD, x.falls(-1));
    }

    private static void promise31() {
        CabinetTable x = house();
        decided(x, 0, 1, 0);
        x.run(2);
        decided(x, 0, 2, 0);
        decided(x, 5, 2, 0);
        x.run(2);
        decided(x, 0, 3, 2);
        x.run(2);
        x.reopen(1);
        int[] want = {0, 0, 1, 1, 3, 3, 0, 0};
        for (int day = 0; day < want.length; day++) {
            due(want[day], x.current(0, day));
        }
        due(0, x.current(0, 999));
        due(NONE, x.current(5, 1));
        due(2, x.current(5, 2));
        due(NONE, x.current(9, 0));
        due(BAD, x.current(10, 0));
        due(BAD, x.current(-1, 0));
        due(BAD, x.current(0, -1));
        due(BAD, x.current(0, 1000));
    }

    private static void promise32() {
        CabinetTable x = house();
        decided(x, 0, 1, 0);
        x.seats(0, 1);
        decided(x, 0, 2, 0);
        decided(x, 1, 2, 0);
        due(1, x.bound(0, 0));
        due(0, x.bound(1, 0));
        due(NONE, x.bound(2, 0));
        due(2, x.bound(0, 1));
        due(NONE, x.bound(1, 1));
        x.reopen(1);
        due(0, x.bound(0, 0));
        due(BAD, x.bound(3, 0));
        due(BAD, x.bound(-1, 0));
        due(BAD, x.bound(0, 10));
        due(BAD, x.bound(0, -1));
    }

    private static void promise33() {
        CabinetTable x = house();
        decided(x, 7, 1, 0);
        decided(x, 0, 1, 0);
        decided(x, 0, 1, 0);
        due(0, x.against(0));
        due(NONE, x.against(1));
        due(NONE, x.against(2));
        decided(x, 0, 2, 0);
        decided(x, 0, 3, 0);
        due(5, x.against(0));
        due(1, x.against(1));
        due(3, x.against(2));
        x.reopen(1);
        due(3, x.against(0));
        due(2, x.against(1));
        due(3, x.against(2));
        x.reopen(2);
        x.reopen(3);
        due(0, x.against(0));
        // No office is bound by both.
        x.seats(0, 4);
        x.paper(0, 0, 0, 0, 0);
        x.send(5);
        x.come(5, 0, 2);
        x.decide(5, 9, 0);
        due(0, x.against(0));
        decided(x, 7, 2, 0);
        due(0, x.against(0));
        x.seats(0, 3);
        decided(x, 7, 2, 0);
        due(1, x.against(0));
        due(0, x.against(1));
        due(6, x.against(2));
        due(BAD, x.against(3));
        due(BAD, x.against(-1));
    }

    private static void promise34() {
        CabinetTable x = house();
        due(NONE, x.law(9, 99));
        due(99, x.law(9, 0));
        due(0, x.law(9, NONE));
        due(NONE, x.law(9, NONE));
        due(NONE, x.law(0, 5));
        due(BAD, x.law(10, 0));
        due(BAD, x.law(-1, 0));
        due(BAD, x.law(0, 100));
        due(BAD, x.law(0, -1));
        due(5, x.law(0, 5));
    }

    private static void promise35() {
        CabinetTable x = house();
        due(NONE, x.more(0));
        x.law(0, 10);
        due(NONE, x.more(0));
        decided(x, 0, 99, 0);
        due(-89, x.more(0));
        decided(x, 0, 4, 0);
        due(6, x.more(0));
        decided(x, 1, 4, 0);
        due(NONE, x.more(1));
        x.law(0, NONE);
        due(NONE, x.more(0));
        x.law(0, 99);
        x.reopen(1);
        due(0, x.more(0));
        due(BAD, x.more(10));
        due(BAD, x.more(-1));
    }

    private static void promise36() {
        CabinetTable x = house();
        due(BAD, x.run(0));
        due(BAD, x.run(-1));
        due(BAD, x.run(61));
        for (int i = 1; i <= 16; i++) {
            due(60 * i, x.run(60));
        }
        due(FULL, x.run(40));
        due(BAD, x.run(61));
        due(999, x.run(39));
        due(FULL, x.run(1));
        due(999, x.count(14));
        promise36OfSilence();
        promise36WithoutRoom();
    }

    private static void promise36OfSilence() {
        CabinetTable x = house();
        for (int kind = 0; kind < 5; kind++) {
            x.paper(kind, 2, 6, 0, 20 + kind);
            x.send(kind);
        }
        x.paper(2, 0, 6, 0, 50);
        x.send(5);
        x.word(5, 1, 0);
        x.paper(2, 0, 6, 0, 50);
        x.send(6);
        x.take(6);
        x.paper(2, 0, 6, 0, 50);
        rule(x, "silent 0 3");
        rule(x, "table 3 1");
        x.govern();
        x.run(3);
        due(0, x.count(6));
        x.run(1);
        due(2, x.count(6));
        int[][] want = {{2, 6, 22, 3, 3, 0, NONE, 1, 1}, {3, 6, 23, 3, 7, 0, NONE, 1, 1}};
        for (int decision = 0; decision < 2; decision++) {
            for (int what = 0; what < 9; what++) {
                due(want[decision][what], x.is(decision, what));
            }
        }
        due(0, x.told(2, 9));
        due(1, x.told(3, 9));
        due(3, x.told(3, 10));
        due(NONE, x.told(3, 11));
        x.word(5, 1, 1);
        due(5, x.run(1));
        due(3, x.count(6));
        due(4, x.is(2, 3));
        due(0, x.beside(99));
        // The rule is as it is on the day that goes by.
        CabinetTable y = house();
        y.paper(2, 0, 0, 0, 0);
        y.send(0);
        rule(y, "silent 2 1 if day > 3");
        y.run(10);
        due(4, y.told(0, 10));
    }

    private static void promise36WithoutRoom() {
        CabinetTable x = new CabinetTable();
        x.office();
        x.paper(2, 0, 0, 0, 0);
        x.send(0);
        x.table(1, 1, 0);
        x.keep();
        rule(x, "silent 2 1");
        x.run(5);
        due(1, x.told(0, 10));
        CabinetTable y = new CabinetTable();
        y.office();
        y.paper(2, 0, 0, 0, 0);
        y.send(0);
        rule(y, "silent 2 1");
        y.run(5);
        due(NONE, y.told(0, 9));
        due(0, y.count(6));
        y.table(1, 1, 0);
        y.run(1);
        due(5, y.told(0, 10));
        due(1, y.count(6));
    }

    private static void promise37() {
        CabinetTable x = house();
        for (int i = 0; i < 4; i++) {
            x.paper(0, 0, 0, 0, 0);
            x.send(i);
        }
        x.paper(2, 0, 0, 0, 0);
        x.send(4);
        x.come(0, 0, 0);
        rule(x, "silent 2 1");
        x.run(7);
        x.come(1, 0, 0);
        x.run(3);
        x.come(2, 0, NONE);
        due(0, x.beside(0));
        due(0, x.beside(2));
        due(1, x.beside(3));
        due(1, x.beside(5));
        due(2, x.beside(6));
        due(2, x.beside(99));
        // What AHEAD became later does not matter.
        rule(x, "ahead 0 1");
        due(1, x.beside(3));
        due(1, x.beside(5));
        CabinetTable y = house();
        y.paper(0, 0, 0, 0, 0);
        y.run(4);
        y.send(0);
        y.run(6);
        y.come(0, 0, NONE);
        due(0, y.beside(1));
        due(1, y.beside(2));
        due(BAD, x.beside(100));
        due(BAD, x.beside(-1));
    }

    private static void promise38() {
        CabinetTable x = house();
        x.paper(0, 0, 0, 0, 0);
        due(BAD, x.copy(1, 0, 0));
        due(BAD, x.copy(-1, 0, 0));
        due(BAD, x.copy(0, 3, 0));
        due(BAD, x.copy(0, -1, 0));
        due(BAD, x.copy(0, 0, 65536));
        due(BAD, x.copy(0, 0, -1));
        for (int i = 0; i < 20; i++) {
            due(i, x.copy(0, 0, 65535));
        }
        due(FULL, x.copy(0, 0, 0));
        due(BAD, x.copy(0, 0, -1));
        due(20, x.count(8));
    }

    private static void promise39() {
        CabinetTable x = house();
        x.paper(0, 0, 0, 0, 0);
        due(BAD, x.comesBack(0));
        x.copy(0, 0, 0);
        x.copy(0, 0, 0);
        due(1, x.comesBack(1));
        due(0, x.comesBack(1));
        due(1, x.count(9));
        due(BAD, x.comesBack(2));
        due(BAD, x.comesBack(-1));
        due(1, x.comesBack(0));
        due(0, x.comesBack(1));
        due(0, x.count(9));
        due(0, x.out(0));
    }

    private static void promise40() {
        CabinetTable x = house();
        x.paper(0, 0, 0, 0, 0);
        due(0, x.out(0));
        x.copy(0, 0, 0);
        x.copy(0, 1, 0);
        x.copy(0, 0, 0);
        due(5, x.out(0));
        due(2, x.out(1));
        due(0, x.out(2));
        x.comesBack(0);
        due(4, x.out(0));
        due(BAD, x.out(3));
        due(BAD, x.out(-1));
    }

    private static void promise41() {
        CabinetTable x = house();
        x.paper(0, 0, 0, 0, 0);
        x.paper(0, 0, 0, 0, 0);
        x.copy(0, 0, 0xC001);
        x.copy(0, 1, 0x4002);
        x.copy(1, 1, 0xC001);
        x.copy(0, 1, 0xC005);
        due(11, x.suspect(0, 0, 65535));
        due(9, x.suspect(0, 128, 0xC000));
        due(2, x.suspect(0, 1, 2));
        due(9, x.suspect(0, 129, 0xC001));
        due(1, x.suspect(0, 131, 0xC001));
        due(0, x.suspect(0, 255, 0));
        due(8, x.suspect(0, 255, 0xC005));
        due(4, x.suspect(1, 1, 0xFFFD));
        x.comesBack(0);
        due(9, x.suspect(0, 128, 0xC000));
        due(BAD, x.suspect(2, 0, 0));
        due(BAD, x.suspect(-1, 0, 0));
        due(BAD, x.suspect(0, 256, 0));
        due(BAD, x.suspect(0, -1, 0));
        due(BAD, x.suspect(0, 0, 65536));
        due(BAD, x.suspect(0, 0, -1));
    }

    private static void promise42() {
        CabinetTable x = house();
        x.paper(0, 0, 0, 0, 0);
        due(0, x.look(0, 0, 0));
        due(3, x.look(0, 7, 0));
        due(NONE, x.look(0, 255, 0));
        // Place 0 tells 3 from 1, place 1 tells 2 from 2, place 2 tells all four; place 7 as place 1.
        x.copy(0, 0, 0x0000);
        x.copy(0, 0, 0x0010);
        x.copy(0, 0, 0x4024);
        x.copy(0, 0, 0x4035);
        due(2, x.look(0, 0, 0));
        due(2, x.look(0, 1, 0));
        due(0, x.look(0, 128, 0x4000));
        due(7, x.look(0, 127, 0));
        // Places 0, 1 and 7 each tell 2 from 2.
        x.paper(0, 0, 0, 0, 0);
        x.copy(1, 0, 0x0000);
        x.copy(1, 0, 0x0001);
        x.copy(1, 0, 0x4005);
        x.copy(1, 0, 0x4004);
        due(0, x.look(1, 0, 0));
        due(1, x.look(1, 1, 1));
        due(2, x.look(1, 3, 5));
        due(0, x.look(1, 64, 0));
        CabinetTable y = house();
        y.paper(0, 0, 0, 0, 0);
        for (int i = 0; i < 20; i++) {
            y.copy(0, 0, 0);
        }
        due(0, y.look(0, 0, 0));
        due(1, y.look(0, 1, 0));
        due(BAD, x.look(2, 0, 0));
        due(BAD, x.look(-1, 0, 0));
        due(BAD, x.look(0, 256, 0));
        due(BAD, x.look(0, -1, 0));
        due(BAD, x.look(0, 0, 65536));
        due(BAD, x.look(0, 0, -1));
    }

    private static void promise43() {
        CabinetTable x = house();
        x.paper(0, 1, 0, 0, 0);
        x.paper(0, 0, 0, 0, 0);
        x.paper(0, 0, 0, 0, 0);
        due(1, x.knows(1, 0));
        due(6, x.knows(0, 0));
        due(0, x.knows(2, 999));
        x.run(3);
        x.copy(1, 2, 0);
        x.comesBack(0);
        due(0, x.knows(2, 2));
        due(2, x.knows(2, 3));
        x.keep();
        x.copy(2, 2, 0);
        due(6, x.knows(2, 3));
        x.back();
        x.run(1);
        x.send(0);
        x.come(0, 0, 0);
        due(6, x.knows(0, 3));
        due(7, x.knows(0, 4));
        due(2, x.knows(2, 4));
        x.seats(0, 4);
        due(3, x.knows(2, 4));
        due(6, x.knows(0, 4));
        due(BAD, x.knows(3, 0));
        due(BAD, x.knows(-1, 0));
        due(BAD, x.knows(0, 1000));
        due(BAD, x.knows(0, -1));
    }

    private static void promise44() {
        CabinetTable x = house();
        x.paper(4, 0, 0, 0, 99);
        x.paper(4, 0, 0, 0, 98);
        x.paper(0, 0, 0, 0, 0);
        x.paper(4, 0, 0, 0, 99);
        x.send(0);
        x.send(1);
        x.send(2);
        x.take(0);
        x.run(60);
        x.run(6);
        due(0, x.open());
        x.run(1);
        due(3, x.open());
        rule(x, "shut 0 0 if thing 0");
        due(7, x.open());
        x.send(3);
        due(15, x.open());
        rule(x, "strike 0 if day > 67");
        x.run(1);
        due(3, x.open());
    }

    private static void promise45() {
        CabinetTable x = new CabinetTable();
        due(BAD, x.group(0));
        due(BAD, x.group(-1));
        due(BAD, x.group(16777216));
        due(0, x.group(16777215));
        for (int i = 1; i < 8; i++) {
            due(i, x.group(1));
        }
        due(FULL, x.group(1));
        due(BAD, x.group(0));
        due(8, x.count(10));
    }

    private static void promise46() {
        CabinetTable x = house();
        x.group(0b110000);
        due(0, x.reckoned());
        for (int i = 0; i < 5; i++) {
            x.paper(0, 0, 0, 0, 0);
        }
        // Paper 5 is not there, so the sum of 4 and 5 is that of 4 alone.
        due(0b10000, x.reckoned());
        x.group(0b1000 | 1 << 23);
        x.group(0b0111);
        due(0b11000, x.reckoned());
        x.group(0b1010);
        due(0b11010, x.reckoned());
        x.send(0);
        rule(x, "shut 0 0");
        due(0b11110, x.reckoned());
        x.send(3);
        due(0b10110, x.reckoned());
        x.paper(0, 0, 0, 0, 0);
        due(0b00110, x.reckoned());
    }

    private static void promise47() {
        CabinetTable x = new CabinetTable();
        due(BAD, x.register(-1, 0, 1));
        due(BAD, x.register(4, 0, 1));
        due(BAD, x.register(0, -2, 1));
        due(BAD, x.register(0, 2, 1));
        due(BAD, x.register(0, 0, 25));
        due(BAD, x.register(0, 2, -1));
        due(SIZE, x.register(0, 1, -1));
        due(SIZE, x.register(0, 0, MIN));
        due(NOTHING, x.note(0, 0, 0));
        due(24, x.register(0, 0, 24));
        due(0, x.note(0, 23, 5));
        due(SIZE, x.register(0, 1, -1));
        due(5, x.note(0, 23, 6));
        x.note(0, 0, 5);
        due(24, x.register(0, 0, 24));
        due(0, x.note(0, 23, 5));
        due(0, x.note(0, 0, 5));
        due(0, x.register(0, 1, 0));
        due(INDEX, x.note(0, 0, 5));
        due(0, x.register(0, -1, 99));
        due(NOTHING, x.note(0, 0, 5));
        due(0, x.register(3, -1, -99));
        due(BAD, x.register(4, -1, 0));
    }

    private static void promise48() {
        CabinetTable x = new CabinetTable();
        due(BAD, x.note(-1, 0, 0));
        due(BAD, x.note(4, 0, 0));
        due(NOTHING, x.note(0, -1, 0));
        x.register(0, 0, 2);
        x.register(1, 1, 2);
        due(INDEX, x.note(0, 2, 0));
        due(INDEX, x.note(0, -1, 0));
        due(0, x.note(0, 1, 0x12380));
        due(-128, x.note(0, 1, 127));
        due(127, x.note(0, 1, 256));
        due(0, x.note(0, 1, -1));
        due(-1, x.note(0, 1, 0));
        due(0, x.note(1, 1, 0x128000));
        due(-32768, x.note(1, 1, 0xFFFF));
        due(-1, x.note(1, 1, 32767));
        due(32767, x.note(1, 1, 0));
        due(0, x.note(1, 0, 0));
    }

    private static void promise49() {
        CabinetTable x = new CabinetTable();
        due(BAD, x.carry(-1, 0, 0, 0, 0));
        due(BAD, x.carry(4, 0, 0, 0, 0));
        due(BAD, x.carry(0, 0, -1, 0, 0));
        due(BAD, x.carry(0, 0, 4, 0, 0));
        due(NOTHING, x.carry(0, 0, 0, 0, 0));
        x.register(0, 0, 5);
        x.register(1, 1, 5);
        x.register(2, 0, 3);
        due(NOTHING, x.carry(0, -1, 3, 0, 0));
        due(NOTHING, x.carry(3, 0, 0, 0, 0));
        due(KIND, x.carry(0, -1, 1, 0, 99));
        due(INDEX, x.carry(0, -1, 2, 0, 1));
        due(INDEX, x.carry(0, 0, 2, -1, 1));
        due(INDEX, x.carry(0, 0, 2, 0, 4));
        due(INDEX, x.carry(0, 3, 2, 0, 3));
        due(INDEX, x.carry(0, 0, 2, 0, -1));
        due(INDEX, x.carry(0, 1, 2, 0, MAX));
        due(INDEX, x.carry(0, 6, 2, 0, 0));
        due(0, x.carry(0, 5, 2, 3, 0));
        for (int i = 0; i < 5; i++) {
            x.note(0, i, 10 + i);
        }
        due(2, x.carry(0, 3, 2, 1, 2));
        x.lay(0, 2, 2);
        due(0, x.item(0, 0));
        due(13, x.item(0, 1));
        due(14, x.item(0, 2));
        due(4, x.carry(0, 0, 0, 1, 4));
        x.lay(0, 2, 0);
        int[] moved = {10, 10, 11, 12, 13};
        for (int i = 0; i < 5; i++) {
            due(moved[i], x.item(0, i));
        }
        due(3, x.carry(0, 2, 0, 0, 3));
        x.lay(0, 2, 0);
        int[] movedBack = {11, 12, 13, 12, 13};
        for (int i = 0; i < 5; i++) {
            due(movedBack[i], x.item(0, i));
        }
    }

    private static void promise50() {
        CabinetTable x = house();
        x.paper(3, 0, 0, 250, 10);
        x.register(0, 1, 2);
        due(BAD, x.lay(-1, 0, 0));
        due(BAD, x.lay(6, 0, 0));
        due(BAD, x.lay(0, -1, 0));
        due(BAD, x.lay(0, 4, 0));
        due(BAD, x.lay(0, 1, 1));
        due(BAD, x.lay(0, 1, -1));
        due(BAD, x.lay(0, 2, 4));
        due(BAD, x.lay(0, 2, -1));
        due(NOTHING, x.lay(0, 2, 1));
        due(0, x.lay(0, 3, MIN));
        due(NOTHING, x.lay(0, 2, 1));
        due(3, x.lay(0, 1, 0));
        due(1, x.lay(0, 2, 0));
        due(2, x.lay(0, 0, -5));
        due(0, x.lay(0, 0, 0));
        due(0, x.lay(5, 2, 0));
        x.register(3, 0, 1);
        due(0, x.lay(4, 2, 3));
        // What lies there is a row of its own.
        x.note(0, 0, 9);
        due(0, x.item(5, 0));
        x.register(0, -1, 0);
        due(0, x.item(5, 1));
        // A paper lies there for good, even if it is not there any more.
        CabinetTable y = house();
        y.keep();
        y.paper(3, 0, 0, 250, 10);
        y.lay(0, 1, 0);
        y.back();
        due(649, y.ask(0, 0));
        due(0, y.count(2));
        y.paper(0, 0, 0, 0, 0);
        due(649, y.ask(0, 3));
    }

    private static void promise51() {
        CabinetTable x = house();
        int[][] under = {{1, 0, 0, 0, 0}, {1, 1, 0, 0, 0}, {1, 0, 1, 0, 0}, {1, 0, 1, 1, 0}, {1, 1, 0, 0, 1}};
        int[] weighs = {17, 17, 17, 674, 17};
        for (int kind = 0; kind < 5; kind++) {
            x.paper(kind, 0, 0, 299, 15);
            x.lay(kind, 1, kind);
            for (int as = 0; as < 5; as++) {
                due(under[kind][as] == 1 ? weighs[kind] : KIND, x.ask(kind, as));
            }
        }
        due(NOTHING, x.ask(5, 0));
        due(BAD, x.ask(5, 5));
        due(BAD, x.ask(0, -1));
        due(BAD, x.ask(6, 0));
        due(BAD, x.ask(-1, 0));
        x.lay(5, 3, 0);
        due(KIND, x.ask(5, 0));
        x.register(0, 0, 1);
        x.lay(5, 2, 0);
        due(KIND, x.ask(5, 0));
    }

    private static void promise52() {
        CabinetTable x = house();
        x.paper(0, 0, 0, 0, 0);
        x.register(2, 0, 2);
        x.note(2, 1, 200);
        x.lay(0, 2, 2);
        due(-56, x.item(0, 1));
        due(0, x.item(0, 0));
        due(INDEX, x.item(0, 2));
        due(INDEX, x.item(0, -1));
        due(BAD, x.item(6, 0));
        due(BAD, x.item(-1, 0));
        due(NOTHING, x.item(1, -1));
        x.lay(1, 3, 0);
        due(KIND, x.item(1, -1));
        x.lay(1, 1, 0);
        due(KIND, x.item(1, 0));
        x.register(2, 1, 0);
        x.lay(1, 2, 2);
        due(INDEX, x.item(1, 0));
    }

    private static void promise53() {
        CabinetTable x = house();
        x.paper(0, 0, 0, 0, 0);
        x.register(0, 0, 1);
        x.lay(0, 3, -17);
        due(-2, x.rest(0, 5));
        due(-2, x.rest(0, -5));
        due(NO, x.rest(0, 0));
        x.lay(0, 3, MIN);
        due(0, x.rest(0, -1));
        due(-8, x.rest(0, 10));
        x.lay(0, 3, 17);
        due(2, x.rest(0, -5));
        due(17, x.rest(0, MIN));
        due(BAD, x.rest(6, 0));
        due(BAD, x.rest(-1, 1));
        due(NOTHING, x.rest(1, 0));
        x.lay(1, 1, 0);
        due(KIND, x.rest(1, 0));
        x.lay(1, 2, 0);
        due(KIND, x.rest(1, 1));
    }

    private static void promise54() {
        CabinetTable x = new CabinetTable();
        for (int i = 1; i <= 60; i++) {
            due(i, x.tell(MIN));
        }
        due(FULL, x.tell(0));
        due(60, x.count(12));
    }

    private static void promise55() {
        CabinetTable x = house();
        x.tell(1);
        due(BAD, x.check(0));
        due(0, x.count(12));
        due(BAD, x.check(29));
        x.tell(1);
        due(NO, x.check(1));
        due(0, x.count(12));
        x.paper(2, 0, 0, 0, 0);
        x.send(0);
        rule(x, "silent 2 2");
        rule(x, "shut 2 4");
        x.run(1);
        x.keep();
        int[] rows = {0, 0, 1, 0, 1, 1, 1, 1};
        checkRow(x, 4, rows, rows.length, 0);
        checkRow(x, 3, rows, rows.length, 7);
        checkRow(x, 4, rows, 7, 8);
        checkRow(x, 4, rows, 0, 1);
        for (int place = 0; place < rows.length; place++) {
            int[] other = rows.clone();
            other[place]++;
            checkRow(x, 4, other, other.length, place + 1);
        }
        // The image stays as it is, and so does what is open now.
        due(1, x.count(14));
        due(0, x.count(6));
        x.reopen(0);
        x.run(60);
        x.reopen(0);
        checkRow(x, 4, rows, rows.length, 0);
        due(61, x.count(14));
        due(BAD, x.check(-1));
        promise55OfAllThatMatters();
        promise55BeyondTheLastDay();
    }

    private static void checkRow(CabinetTable x, int n, int[] row, int many, int want) {
        for (int i = 0; i < many; i++) {
            x.tell(row[i]);
        }
        due(want, x.check(n));
        due(0, x.count(12));
    }

    private static void promise55OfAllThatMatters() {
        CabinetTable x = house();
        x.govern();
        decided(x, 5, 1, 0);
        decided(x, 5, 1, 1);
        decided(x, 5, 1, 0);
        x.reopen(0);
        // Papers 3, 4, 5 are open from day 2 on, each for another cause: by whom, the thing, who agreed; all others from day 3 on.
        for (int i = 0; i < 5; i++) {
            x.paper(0, i == 0 ? 1 : 0, i == 1 ? 2 : 5, 0, 0);
            x.send(3 + i);
        }
        x.word(5, 1, 1);
        type(x, "shut 0 1 if by 1 or thing 2 or agreed 1 and gov > 0");
        x.rule(2);
        type(x, "shut 0 3 if not thing 2");
        x.rule(0);
        rule(x, "strike 1 if by 1 or agreed 1");
        x.take(6);
        x.take(7);
        rule(x, "need 0 1");
        // No silence for one that is taken back, nor one with a no of anybody.
        for (int i = 8; i < 12; i++) {
            x.paper(i == 8 ? 0 : 2, 0, 9, 0, 0);
            x.send(i);
        }
        x.take(9);
        x.word(10, 2, 0);
        rule(x, "silent 0 1 if thing 9");
        x.keep();
        x.run(30);
        checkRow(x, 3, new int[] {1, 0, 2, 3, 2, 12}, 6, 0);
    }

    private static void promise55BeyondTheLastDay() {
        CabinetTable x = house();
        x.paper(2, 0, 0, 0, 0);
        rule(x, "silent 2 20 if day > 1005");
        rule(x, "shut 0 27");
        for (int i = 0; i < 16; i++) {
            x.run(60);
        }
        x.run(39);
        x.send(0);
        x.keep();
        int[] row = new int[56];
        for (int i = 0; i < 28; i++) {
            row[2 * i] = i >= 20 ? 1 : 0;
            row[2 * i + 1] = i >= 26 ? 1 : 0;
        }
        checkRow(x, 28, row, 56, 0);
        row[40]--;
        checkRow(x, 28, row, 56, 41);
        due(999, x.back());
    }

    private static void promise56() {
        CabinetTable x = house();
        x.run(7);
        due(7, x.keep());
        x.run(1);
        due(8, x.keep());
        x.run(1);
        due(8, x.back());
        due(8, x.count(14));
    }

    private static void promise57() {
        CabinetTable x = house();
        due(NO, x.back());
        x.hold(0, 5);
        x.pass(0, 1, 1);
        decided(x, 3, 9, 0);
        x.copy(0, 1, 77);
        x.law(3, 10);
        x.group(1);
        rule(x, "shut 0 5");
        x.keep();
        x.run(2);
        x.office();
        x.hold(0, 6);
        x.govern();
        x.table(1, 1, 1);
        x.seats(0, 255);
        x.pass(0, 1, 0);
        x.reopen(0);
        x.copy(0, 2, 78);
        x.comesBack(0);
        x.law(3, NONE);
        x.group(2);
        rule(x, "shut 0 6");
        x.paper(1, 1, 1, 1, 1);
        x.send(1);
        x.register(0, 0, 3);
        x.lay(0, 3, 44);
        x.tell(8);
        x.feed(0, 0, 0);
        for (int again = 0; again < 2; again++) {
            due(0, x.back());
            int[] counts = {3, 2, 1, 1, 1, 1, 1, 1, 1, 1, 1, 1, 1, 12, 0, 0};
            for (int what = 0; what < counts.length; what++) {
                due(counts[what], x.count(what));
            }
            due(5, x.held(0, 999));
            due(0, x.told(0, 5));
            due(0, x.told(0, 11));
            due(1, x.pass(0, 1, 1));
            due(3, x.seats(0, 3));
            due(1, x.is(0, 8));
            due(NONE, x.is(0, 6));
            due(10, x.law(3, 10));
            due(1, x.out(1));
            due(5, x.due(0, 4));
            due(0, x.note(0, 2, 0));
            due(44, x.rest(0, 100));
            // A paper made again in the same place has nothing of the one that was there.
            due(1, x.paper(0, 0, 0, 0, 0));
            due(NONE, x.told(1, 5));
            x.send(1);
            x.come(1, 0, 0);
        }
        promise57OfPapers();
    }

    private static void promise57OfPapers() {
        CabinetTable x = house();
        x.paper(2, 0, 0, 0, 9);
        x.paper(2, 0, 0, 0, 9);
        x.paper(2, 0, 0, 0, 9);
        x.send(0);
        x.send(1);
        x.word(0, 0, 1);
        x.word(0, 1, 0);
        rule(x, "silent 2 7");
        x.run(6);
        x.keep();
        x.word(0, 0, 0);
        x.word(0, 1, 1);
        x.word(0, 2, 1);
        x.take(0);
        x.send(2);
        x.come(1, 0, NONE);
        due(1, x.beside(1));
        x.back();
        int[] want = {6, 0, 1, 2, NONE, NONE, NONE};
        for (int what = 6; what <= 11; what++) {
            due(want[what - 5], x.told(0, what));
        }
        due(NONE, x.told(2, 5));
        for (int what = 9; what <= 11; what++) {
            due(NONE, x.told(1, what));
        }
        due(0, x.beside(99));
        // Let in at first, then by silence, then in time: each time it is as if the other had never been.
        x.come(1, 1, 0);
        due(0, x.told(1, 11));
        x.back();
        x.run(2);
        due(7, x.told(1, 10));
        due(NONE, x.told(1, 11));
        due(0, x.beside(99));
        x.back();
        x.come(1, 0, NONE);
        due(6, x.told(1, 10));
        due(1, x.beside(1));
        x.keep();
        x.run(1);
        x.back();
        due(0, x.beside(0));
        due(1, x.beside(1));
    }

    private static void promise58() {
        CabinetTable x = house();
        arrived(x, 0, 0);
        arrived(x, 0, 0);
        x.decide(0, 1, 0);
        x.decide(1, 1, 1);
        x.paper(0, 0, 0, 0, 0);
        x.paper(0, 0, 0, 0, 0);
        x.paper(0, 0, 0, 0, 0);
        x.send(2);
        x.send(3);
        x.take(3);
        x.copy(0, 0, 0);
        x.copy(0, 0, 0);
        x.copy(0, 0, 0);
        x.comesBack(1);
        x.group(1);
        x.hold(0, 0);
        x.hold(0, 0);
        rule(x, "shut 0 0");
        x.tell(0);
        x.feed(0, 0, 0);
        x.trim(9);
        x.run(3);
        x.govern();
        x.reopen(1);
        int[] want = {3, 2, 5, 4, 2, 1, 2, 1, 3, 2, 1, 2, 1, 9, 3, 1};
        for (int what = 0; what < want.length; what++) {
            due(want[what], x.count(what));
        }
        due(BAD, x.count(16));
        due(BAD, x.count(-1));
    }
}
