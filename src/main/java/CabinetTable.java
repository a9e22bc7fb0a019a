/** Cabinet papers, as the project's document tells them; README.md says how to use the class. */
public final class CabinetTable {
    public static final int BAD = -1000000001, NO = -1000000002, FULL = -1000000003, NONE = -1000000005, NOTHING = -1000000011, KIND = -1000000012, INDEX = -1000000013, SIZE = -1000000014;

    private static final int LAST_DAY = 999;
    private static final int MOST_OFFICES = 8;
    private static final int MOST_CHANGES = 40;
    private static final int MOST_TABLES = 6;
    private static final int MOST_PAPERS = 24;
    private static final int MOST_RULES = 16;
    private static final int MOST_BYTES = 96;
    private static final int MOST_DECISIONS = 24;
    private static final int MOST_COPIES = 20;
    private static final int MOST_GROUPS = 8;
    private static final int MOST_WAITING = 60;
    private static final int MOST_PLACES = 24;
    private static final int REGISTERS = 4;
    private static final int ROOM_SEATS = 6;
    private static final int THINGS = 10;
    private static final int KINDS = 5;
    private static final int MARK_PLACES = 8;

    private final State now = new State();
    private final State image = new State();
    // check() plays the days behind the image here, so that neither it nor the open day is touched.
    private final State trial = new State();
    private final WayFinder wayFinder = new WayFinder();
    private final Tape tape = new Tape();
    private final int[] waiting = new int[MOST_WAITING];
    private final Register[] registers = new Register[REGISTERS];
    private final Seat[] room = new Seat[ROOM_SEATS];
    private boolean imageKept;
    private int waitingCount;

    public CabinetTable() {
        for (int i = 0; i < REGISTERS; i++) {
            registers[i] = new Register();
        }
        for (int i = 0; i < ROOM_SEATS; i++) {
            room[i] = new Seat();
        }
    }

    // ---- offices, tables

    public int office() {
        return now.holders.addOffice();
    }

    public int hold(int office, int person) {
        if (!isOffice(office) || !isNoneOrWithin(person, 99)) {
            return BAD;
        }
        return now.holders.change(office, person, now.day);
    }

    public int held(int office, int day) {
        if (!isOffice(office) || !isDay(day)) {
            return BAD;
        }
        return now.holders.holderOn(office, day);
    }

    public int govern() {
        if (now.government >= 99) {
            return FULL;
        }
        now.government++;
        return now.government;
    }

    public int table(int seats, int period, int offset) {
        if (!isWithin(seats, 0, 255) || !isWithin(period, 1, 30) || !isWithin(offset, 0, 29)) {
            return BAD;
        }
        return now.tables.add(seats, period, offset);
    }

    public int seats(int table, int set) {
        if (!isTable(table) || !isWithin(set, 0, 255)) {
            return BAD;
        }
        return now.tables.changeSeats(table, set);
    }

    public int sits(int table, int day) {
        if (!isTable(table) || !isWithin(day, 0, 9999)) {
            return BAD;
        }
        return bit(now.tables.sitsOn(table, day));
    }

    public int pass(int one, int other, int on) {
        if (!isTable(one) || !isTable(other) || one == other || !isWithin(on, 0, 1)) {
            return BAD;
        }
        return bit(now.tables.changePass(one, other, on == 1));
    }

    public int way(int tables, int day, int n, int what) {
        if (tables < 0 || !isTable(tables / 10) || !isTable(tables % 10)) {
            return BAD;
        }
        if (!isDay(day) || !isWithin(n, 0, 30) || what < 0) {
            return BAD;
        }
        wayFinder.seek(now.tables, tables / 10, tables % 10, day, n);
        return wayFinder.answer(what);
    }

    // ---- papers

    public int paper(int kind, int office, int thing, int sum, int a) {
        if (!isKind(kind) || !isOffice(office) || !isThing(thing)) {
            return BAD;
        }
        if (!isWithin(sum, 0, 9999) || !isWithin(a, 0, 99)) {
            return BAD;
        }
        if (now.paperCount >= MOST_PAPERS) {
            return FULL;
        }
        now.papers[now.paperCount].begin(kind, office, thing, sum, a);
        now.paperCount++;
        return now.paperCount - 1;
    }

    public int told(int paper, int what) {
        if (!isPaper(paper) || !isWithin(what, 0, 15)) {
            return BAD;
        }
        Paper one = now.papers[paper];
        return what < 9 ? one.ofItself(what) : one.ofItsCourse(what);
    }

    public int as(int paper, int kind) {
        if (!isPaper(paper) || !isKind(kind)) {
            return BAD;
        }
        Paper one = now.papers[paper];
        return one.isOfKind(kind) ? one.sum : KIND;
    }

    public int send(int paper) {
        if (!isPaper(paper)) {
            return BAD;
        }
        Paper one = now.papers[paper];
        if (one.isSent()) {
            return NO;
        }
        one.sentDay = now.day;
        return 1;
    }

    public int take(int paper) {
        if (!isPaper(paper)) {
            return BAD;
        }
        Paper one = now.papers[paper];
        if (!one.isUnderWay()) {
            return NO;
        }
        one.taken = true;
        return 1;
    }

    public int word(int paper, int office, int yes) {
        if (!isPaper(paper) || !isOffice(office) || !isWithin(yes, 0, 1)) {
            return BAD;
        }
        Paper one = now.papers[paper];
        return one.isUnderWay() ? one.hear(office, yes == 1) : NO;
    }

    // ---- rules

    public int feed(int a, int b, int c) {
        return tape.append(a, b, c);
    }

    public int trim(int n) {
        return tape.shorten(n);
    }

    public int rule(int day) {
        boolean whole = tape.readRule();
        tape.shorten(0);
        if (!isDay(day)) {
            return BAD;
        }
        if (!whole) {
            return -100 - tape.placeOfFault();
        }
        if (tape.draft.isWrong(now.holders.offices, now.tables.count, now.ruleCount)) {
            return NO;
        }
        if (now.ruleCount >= MOST_RULES) {
            return FULL;
        }
        now.rules[now.ruleCount].become(tape.draft);
        now.rules[now.ruleCount].fromDay = day;
        now.ruleCount++;
        return now.ruleCount - 1;
    }

    public int of(int rule, int what) {
        if (!isRule(rule) || !isWithin(what, 0, 4)) {
            return BAD;
        }
        return now.rules[rule].part(what);
    }

    public int counts(int rule, int paper) {
        if (!isRule(rule) || !isPaper(paper)) {
            return BAD;
        }
        return (now.countingRules(now.papers[paper]) >> rule) & 1;
    }

    public int due(int paper, int what) {
        if (!isPaper(paper) || !isWithin(what, Rule.TABLE, Rule.SHUT)) {
            return BAD;
        }
        return now.dueOf(now.papers[paper], what);
    }

    public int why(int paper, int what) {
        if (!isPaper(paper) || !isWithin(what, Rule.TABLE, Rule.SHUT)) {
            return BAD;
        }
        return now.greatestRule(now.countingRules(now.papers[paper]), what);
    }

    public int quarrel(int one, int other) {
        if (!isRule(one) || !isRule(other) || one == other) {
            return BAD;
        }
        Rule first = now.rules[one];
        Rule second = now.rules[other];
        if (first.head != second.head || first.head == Rule.NEED || first.head == Rule.STRIKE) {
            return KIND;
        }
        return first.number == second.number ? NONE : now.leastPaperOfBoth(first, second);
    }

    // ---- what comes, what is decided

    public int lacks(int paper, int table) {
        if (!isPaper(paper) || !isTable(table)) {
            return BAD;
        }
        return now.whatLacks(now.papers[paper], table);
    }

    public int come(int paper, int table, int office) {
        if (!isPaper(paper) || !isTable(table) || (office != NONE && !isOffice(office))) {
            return BAD;
        }
        Paper one = now.papers[paper];
        int lack = now.whatLacks(one, table);
        if (lack == 1 || (lack != 0 && !now.tables.hasSeat(table, office))) {
            return NO;
        }
        one.slack = now.day - one.sentDay - now.dueOf(one, Rule.AHEAD);
        one.letBy = lack == 0 ? NONE : office;
        one.arrive(table, now.day);
        return lack;
    }

    public int decide(int paper, int value, int leans) {
        if (!isPaper(paper) || !isWithin(value, 0, 99) || !now.docket.hasAll(leans)) {
            return BAD;
        }
        Paper one = now.papers[paper];
        if (one.binds() == 0) {
            return KIND;
        }
        if (!one.hasCome() || one.cameDay != now.day || now.docket.hasOneBy(paper)) {
            return NO;
        }
        if (now.docket.isFull()) {
            return FULL;
        }
        return now.addDecision(paper, value, leans);
    }

    public int is(int decision, int what) {
        if (!isDecision(decision) || !isWithin(what, 0, 8)) {
            return BAD;
        }
        if (what == 8) {
            return bit(now.docket.standsOn(decision, now.day));
        }
        return now.docket.part(decision, what);
    }

    public int reopen(int decision) {
        int fallen = falls(decision);
        if (fallen >= 0) {
            now.docket.undo(decision, now.day);
        }
        return fallen;
    }

    public int falls(int decision) {
        if (!isDecision(decision)) {
            return BAD;
        }
        if (!now.docket.standsOn(decision, now.day)) {
            return NO;
        }
        return now.docket.fallingWith(decision, now.day);
    }

    public int current(int thing, int day) {
        if (!isThing(thing) || !isDay(day)) {
            return BAD;
        }
        return now.docket.greatestOn(thing, day);
    }

    public int bound(int office, int thing) {
        if (!isOffice(office) || !isThing(thing)) {
            return BAD;
        }
        return now.docket.greatestBinding(office, thing, now.day);
    }

    public int against(int what) {
        if (!isWithin(what, 0, 2)) {
            return BAD;
        }
        return now.docket.opposed(what, now.day);
    }

    public int law(int thing, int v) {
        if (!isThing(thing) || !isNoneOrWithin(v, 99)) {
            return BAD;
        }
        int before = now.laws[thing];
        now.laws[thing] = v;
        return before;
    }

    public int more(int thing) {
        if (!isThing(thing)) {
            return BAD;
        }
        int decision = now.docket.greatestOn(thing, now.day);
        if (now.laws[thing] == NONE || !isDecision(decision)) {
            return NONE;
        }
        return now.laws[thing] - now.docket.values[decision];
    }

    public int run(int n) {
        if (!isWithin(n, 1, 60)) {
            return BAD;
        }
        if (now.day + n > LAST_DAY) {
            return FULL;
        }
        for (int i = 0; i < n; i++) {
            now.letDayGoBy();
        }
        return now.day;
    }

    public int beside(int n) {
        return isWithin(n, 0, 99) ? now.tooLateBy(n) : BAD;
    }

    // ---- copies, what is shut

    public int copy(int paper, int office, int marks) {
        if (!isPaper(paper) || !isOffice(office) || !isWithin(marks, 0, 65535)) {
            return BAD;
        }
        return now.copies.add(paper, office, marks, now.day);
    }

    public int comesBack(int copy) {
        return isWithin(copy, 0, now.copies.count - 1) ? bit(now.copies.giveBack(copy)) : BAD;
    }

    public int out(int office) {
        return isOffice(office) ? now.copies.outTo(office) : BAD;
    }

    public int suspect(int paper, int places, int marks) {
        if (!isPaper(paper) || !isWithin(places, 0, 255) || !isWithin(marks, 0, 65535)) {
            return BAD;
        }
        return now.copies.alike(paper, places, marks);
    }

    public int look(int paper, int places, int marks) {
        if (!isPaper(paper) || !isWithin(places, 0, 255) || !isWithin(marks, 0, 65535)) {
            return BAD;
        }
        return now.copies.bestPlace(now.copies.alike(paper, places, marks), places);
    }

    public int knows(int office, int day) {
        if (!isOffice(office) || !isDay(day)) {
            return BAD;
        }
        return now.papersKnownTo(office, day);
    }

    public int open() {
        return now.openPapers();
    }

    public int group(int set) {
        if (!isWithin(set, 1, 16777215)) {
            return BAD;
        }
        if (now.groupCount >= MOST_GROUPS) {
            return FULL;
        }
        now.groups[now.groupCount] = set;
        now.groupCount++;
        return now.groupCount - 1;
    }

    public int reckoned() {
        return now.reckonedFrom(now.openPapers());
    }

    // ---- registers, the room

    public int register(int register, int sort, int n) {
        if (!isWithin(register, 0, REGISTERS - 1) || !isWithin(sort, Register.MISSING, Register.SHORTS)) {
            return BAD;
        }
        if (sort == Register.MISSING) {
            registers[register].begin(sort, 0);
            return 0;
        }
        if (n > MOST_PLACES) {
            return BAD;
        }
        if (n < 0) {
            return SIZE;
        }
        registers[register].begin(sort, n);
        return n;
    }

    public int note(int register, int place, int v) {
        if (!isWithin(register, 0, REGISTERS - 1)) {
            return BAD;
        }
        Register row = registers[register];
        if (row.isMissing()) {
            return NOTHING;
        }
        return row.hasPlace(place) ? row.put(place, v) : INDEX;
    }

    public int carry(int from, int place, int to, int at, int many) {
        if (!isWithin(from, 0, REGISTERS - 1) || !isWithin(to, 0, REGISTERS - 1)) {
            return BAD;
        }
        Register source = registers[from];
        Register target = registers[to];
        if (source.isMissing() || target.isMissing()) {
            return NOTHING;
        }
        if (source.sort != target.sort) {
            return KIND;
        }
        if (!source.hasPlaces(place, many) || !target.hasPlaces(at, many)) {
            return INDEX;
        }
        System.arraycopy(source.values, place, target.values, at, many);
        return many;
    }

    public int lay(int seat, int thing, int k) {
        if (!isRoomSeat(seat) || !isWithin(thing, Seat.EMPTY, Seat.NUMBER)) {
            return BAD;
        }
        if (thing == Seat.PAPER && !isPaper(k)) {
            return BAD;
        }
        if (thing == Seat.REGISTER && !isWithin(k, 0, REGISTERS - 1)) {
            return BAD;
        }
        if (thing == Seat.REGISTER && registers[k].isMissing()) {
            return NOTHING;
        }
        int before = room[seat].holding;
        layDown(room[seat], thing, k);
        return before;
    }

    public int ask(int seat, int kind) {
        if (!isRoomSeat(seat) || !isKind(kind)) {
            return BAD;
        }
        Seat one = room[seat];
        if (one.holding == Seat.EMPTY) {
            return NOTHING;
        }
        if (one.holding != Seat.PAPER || !one.paper.isOfKind(kind)) {
            return KIND;
        }
        return one.paper.weighs();
    }

    public int item(int seat, int place) {
        if (!isRoomSeat(seat)) {
            return BAD;
        }
        Seat one = room[seat];
        if (one.holding == Seat.EMPTY) {
            return NOTHING;
        }
        if (one.holding != Seat.REGISTER) {
            return KIND;
        }
        return one.register.hasPlace(place) ? one.register.values[place] : INDEX;
    }

    public int rest(int seat, int n) {
        if (!isRoomSeat(seat)) {
            return BAD;
        }
        Seat one = room[seat];
        if (one.holding == Seat.EMPTY) {
            return NOTHING;
        }
        if (one.holding != Seat.NUMBER) {
            return KIND;
        }
        return n == 0 ? NO : one.number % n;
    }

    // ---- rows, images

    public int tell(int v) {
        if (waitingCount >= MOST_WAITING) {
            return FULL;
        }
        waiting[waitingCount] = v;
        waitingCount++;
        return waitingCount;
    }

    public int check(int n) {
        int waited = waitingCount;
        waitingCount = 0;
        if (!isWithin(n, 1, 28)) {
            return BAD;
        }
        if (!imageKept) {
            return NO;
        }
        trial.become(image);
        for (int i = 0; i < 2 * n; i++) {
            if (i % 2 == 0) {
                trial.letDayGoBy();
            }
            int told = i % 2 == 0 ? trial.docket.standing(trial.day) : trial.openPapers();
            if (i >= waited || waiting[i] != Integer.bitCount(told)) {
                return i + 1;
            }
        }
        return waited > 2 * n ? 2 * n + 1 : 0;
    }

    public int keep() {
        image.become(now);
        imageKept = true;
        return now.day;
    }

    public int back() {
        if (!imageKept) {
            return NO;
        }
        now.become(image);
        return now.day;
    }

    public int count(int what) {
        switch (what) {
            case 0: return now.holders.offices;
            case 1: return now.tables.count;
            case 2: return now.paperCount;
            case 3: return now.sentPapers();
            case 4: return now.papersThatCame();
            case 5: return now.ruleCount;
            case 6: return now.docket.count;
            case 7: return Integer.bitCount(now.docket.standing(now.day));
            case 8: return now.copies.count;
            case 9: return now.copies.howManyOut();
            case 10: return now.groupCount;
            case 11: return now.holders.changes;
            case 12: return waitingCount;
            case 13: return tape.length;
            case 14: return now.day;
            case 15: return now.government;
            default: return BAD;
        }
    }

    // ---- what several of the calls need

    private static boolean isWithin(int v, int least, int most) {
        return v >= least && v <= most;
    }

    private static boolean isNoneOrWithin(int v, int most) {
        return v == NONE || isWithin(v, 0, most);
    }

    private static boolean isDay(int day) {
        return isWithin(day, 0, LAST_DAY);
    }

    private static boolean isThing(int thing) {
        return isWithin(thing, 0, THINGS - 1);
    }

    private static boolean isKind(int kind) {
        return isWithin(kind, 0, KINDS - 1);
    }

    private static boolean isRoomSeat(int seat) {
        return isWithin(seat, 0, ROOM_SEATS - 1);
    }

    private static int bit(boolean so) {
        return so ? 1 : 0;
    }

    private boolean isOffice(int office) {
        return isWithin(office, 0, now.holders.offices - 1);
    }

    private boolean isTable(int table) {
        return isWithin(table, 0, now.tables.count - 1);
    }

    private boolean isPaper(int paper) {
        return isWithin(paper, 0, now.paperCount - 1);
    }

    private boolean isRule(int rule) {
        return isWithin(rule, 0, now.ruleCount - 1);
    }

    private boolean isDecision(int decision) {
        return isWithin(decision, 0, now.docket.count - 1);
    }

    private void layDown(Seat seat, int thing, int k) {
        seat.holding = thing;
        if (thing == Seat.PAPER) {
            seat.paper.become(now.papers[k]);
        } else if (thing == Seat.REGISTER) {
            seat.register.become(registers[k]);
        } else if (thing == Seat.NUMBER) {
            seat.number = k;
        }
    }

    /** All that an image keeps. */
    private static final class State {
        final Holders holders = new Holders();
        final Tables tables = new Tables();
        final Paper[] papers = new Paper[MOST_PAPERS];
        final Rule[] rules = new Rule[MOST_RULES];
        final Docket docket = new Docket();
        final Copies copies = new Copies();
        final int[] groups = new int[MOST_GROUPS];
        final int[] laws = new int[THINGS];
        int day;
        int government;
        int paperCount;
        int ruleCount;
        int groupCount;

        State() {
            for (int i = 0; i < MOST_PAPERS; i++) {
                papers[i] = new Paper();
            }
            for (int i = 0; i < MOST_RULES; i++) {
                rules[i] = new Rule();
            }
            for (int i = 0; i < THINGS; i++) {
                laws[i] = NONE;
            }
        }

        void become(State other) {
            holders.become(other.holders);
            tables.become(other.tables);
            for (int i = 0; i < MOST_PAPERS; i++) {
                papers[i].become(other.papers[i]);
            }
            for (int i = 0; i < MOST_RULES; i++) {
                rules[i].become(other.rules[i]);
            }
            docket.become(other.docket);
            copies.become(other.copies);
            System.arraycopy(other.groups, 0, groups, 0, MOST_GROUPS);
            System.arraycopy(other.laws, 0, laws, 0, THINGS);
            day = other.day;
            government = other.government;
            paperCount = other.paperCount;
            ruleCount = other.ruleCount;
            groupCount = other.groupCount;
        }

        /** The rules that count, as bits. A strike's target is always older, so one pass from the newest settles all. */
        int countingRules(Paper paper) {
            int counting = 0;
            int struck = 0;
            for (int i = ruleCount - 1; i >= 0; i--) {
                Rule rule = rules[i];
                if (((struck >> i) & 1) == 0 && rule.fits(paper, day, government)) {
                    counting |= 1 << i;
                    if (rule.head == Rule.STRIKE) {
                        struck |= 1 << rule.target;
                    }
                }
            }
            return counting;
        }

        int greatestRule(int counting, int head) {
            for (int i = ruleCount - 1; i >= 0; i--) {
                if (((counting >> i) & 1) == 1 && rules[i].head == head) {
                    return i;
                }
            }
            return NONE;
        }

        /** TABLE, AHEAD, NEED, SILENT or SHUT: each is asked for by the number of its head. */
        int dueOf(Paper paper, int head) {
            return dueBy(countingRules(paper), paper, head);
        }

        private int dueBy(int counting, Paper paper, int head) {
            if (head == Rule.NEED) {
                return neededOffices(counting);
            }
            int rule = greatestRule(counting, head);
            if (rule >= 0 && rule < ruleCount) {
                return rules[rule].number;
            }
            if (head == Rule.AHEAD) {
                return paper.reach();
            }
            return head == Rule.SHUT ? paper.shuts() : 0;
        }

        private int neededOffices(int counting) {
            int needed = 0;
            for (int i = 0; i < ruleCount; i++) {
                if (((counting >> i) & 1) == 1 && rules[i].head == Rule.NEED) {
                    needed |= 1 << rules[i].number;
                }
            }
            return needed;
        }

        int leastPaperOfBoth(Rule one, Rule other) {
            for (int i = 0; i < paperCount; i++) {
                if (one.fits(papers[i], day, government) && other.fits(papers[i], day, government)) {
                    return i;
                }
            }
            return NONE;
        }

        int whatLacks(Paper paper, int table) {
            if (!paper.isUnderWay()) {
                return 1;
            }
            int counting = countingRules(paper);
            if (dueBy(counting, paper, Rule.TABLE) != table) {
                return 2;
            }
            if (!tables.sitsOn(table, day)) {
                return 3;
            }
            if (day - paper.sentDay < dueBy(counting, paper, Rule.AHEAD)) {
                return 4;
            }
            int wanting = neededOffices(counting) & ~paper.agreed;
            return wanting == 0 ? 0 : 10 + Integer.numberOfTrailingZeros(wanting);
        }

        int addDecision(int paper, int value, int leans) {
            int number = docket.begin(paper, papers[paper].thing, value, day);
            docket.tie(number, tables.seatsAt(papers[paper].cameTable), leans, government);
            return number;
        }

        void letDayGoBy() {
            for (int i = 0; i < paperCount; i++) {
                settleBySilence(i);
            }
            day++;
        }

        private void settleBySilence(int number) {
            Paper paper = papers[number];
            if (!paper.isOfKind(Paper.ASKED) || !paper.isUnderWay() || paper.noes != 0) {
                return;
            }
            int counting = countingRules(paper);
            int silent = dueBy(counting, paper, Rule.SILENT);
            if (silent <= 0 || silent > day - paper.sentDay) {
                return;
            }
            int table = dueBy(counting, paper, Rule.TABLE);
            if (docket.isFull() || table >= tables.count) {
                return;
            }
            paper.bySilence = true;
            paper.arrive(table, day);
            addDecision(number, paper.a, 0);
        }

        int tooLateBy(int n) {
            int many = 0;
            for (int i = 0; i < paperCount; i++) {
                Paper paper = papers[i];
                if (paper.hasCome() && paper.letBy == NONE && !paper.bySilence && paper.slack < n) {
                    many++;
                }
            }
            return many;
        }

        int papersKnownTo(int office, int until) {
            int known = copies.papersSentTo(office, until);
            for (int i = 0; i < paperCount; i++) {
                Paper paper = papers[i];
                boolean seen = paper.hasCome() && paper.cameDay <= until && tables.hasSeat(paper.cameTable, office);
                if (seen || paper.office == office) {
                    known |= 1 << i;
                }
            }
            return known;
        }

        int openPapers() {
            int open = 0;
            for (int i = 0; i < paperCount; i++) {
                Paper paper = papers[i];
                if (paper.isSent() && day - paper.sentDay >= dueOf(paper, Rule.SHUT)) {
                    open |= 1 << i;
                }
            }
            return open;
        }

        int reckonedFrom(int open) {
            int there = (1 << paperCount) - 1;
            int known = open;
            // Each useful round makes one more paper known, so there are no more rounds than papers.
            for (int round = 0; round < MOST_PAPERS; round++) {
                for (int i = 0; i < groupCount; i++) {
                    int unknown = groups[i] & there & ~known;
                    if (Integer.bitCount(unknown) == 1) {
                        known |= unknown;
                    }
                }
            }
            return known & ~open;
        }

        int sentPapers() {
            int many = 0;
            for (int i = 0; i < paperCount; i++) {
                many += bit(papers[i].isSent());
            }
            return many;
        }

        int papersThatCame() {
            int many = 0;
            for (int i = 0; i < paperCount; i++) {
                many += bit(papers[i].hasCome());
            }
            return many;
        }
    }

    /** The offices, and who holds them from which day on. */
    private static final class Holders {
        private final int[] changedOffices = new int[MOST_CHANGES];
        private final int[] persons = new int[MOST_CHANGES];
        private final int[] days = new int[MOST_CHANGES];
        int offices;
        int changes;

        void become(Holders other) {
            System.arraycopy(other.changedOffices, 0, changedOffices, 0, MOST_CHANGES);
            System.arraycopy(other.persons, 0, persons, 0, MOST_CHANGES);
            System.arraycopy(other.days, 0, days, 0, MOST_CHANGES);
            offices = other.offices;
            changes = other.changes;
        }

        int addOffice() {
            if (offices >= MOST_OFFICES) {
                return FULL;
            }
            offices++;
            return offices - 1;
        }

        int change(int office, int person, int day) {
            if (changes >= MOST_CHANGES) {
                return FULL;
            }
            int before = holderOn(office, day);
            changedOffices[changes] = office;
            persons[changes] = person;
            days[changes] = day;
            changes++;
            return before;
        }

        int holderOn(int office, int day) {
            int holder = NONE;
            for (int i = 0; i < changes; i++) {
                if (changedOffices[i] == office && days[i] <= day) {
                    holder = persons[i];
                }
            }
            return holder;
        }
    }

    private static final class Tables {
        private final int[] seats = new int[MOST_TABLES];
        private final int[] periods = new int[MOST_TABLES];
        private final int[] offsets = new int[MOST_TABLES];
        private final int[] passes = new int[MOST_TABLES];
        int count;

        void become(Tables other) {
            System.arraycopy(other.seats, 0, seats, 0, MOST_TABLES);
            System.arraycopy(other.periods, 0, periods, 0, MOST_TABLES);
            System.arraycopy(other.offsets, 0, offsets, 0, MOST_TABLES);
            System.arraycopy(other.passes, 0, passes, 0, MOST_TABLES);
            count = other.count;
        }

        int add(int set, int period, int offset) {
            if (count >= MOST_TABLES) {
                return FULL;
            }
            seats[count] = set;
            periods[count] = period;
            offsets[count] = offset;
            passes[count] = 0;
            count++;
            return count - 1;
        }

        int changeSeats(int table, int set) {
            int before = seats[table];
            seats[table] = set;
            return before;
        }

        int seatsAt(int table) {
            return isWithin(table, 0, count - 1) ? seats[table] : 0;
        }

        boolean hasSeat(int table, int office) {
            return isWithin(office, 0, MOST_OFFICES - 1) && ((seatsAt(table) >> office) & 1) == 1;
        }

        boolean sitsOn(int table, int day) {
            return firstSitting(table, day) == day;
        }

        /** The first day, this one or later, on which the table sits. */
        int firstSitting(int table, int day) {
            int period = periods[table];
            if (day <= offsets[table] || period <= 0) {
                return offsets[table];
            }
            int over = (day - offsets[table]) % period;
            return over == 0 ? day : day + period - over;
        }

        boolean mayPass(int one, int other) {
            return ((passes[one] >> other) & 1) == 1;
        }

        boolean changePass(int one, int other, boolean on) {
            boolean before = mayPass(one, other);
            passes[one] = on ? passes[one] | (1 << other) : passes[one] & ~(1 << other);
            return before;
        }
    }

    /** Tries all ways between two tables; with six tables at most there are few. */
    private static final class WayFinder {
        private final int[] path = new int[MOST_TABLES];
        private final int[] best = new int[MOST_TABLES];
        private int bestLength;
        private int bestDay;
        private int goal;
        private int ahead;

        void seek(Tables tables, int from, int to, int day, int n) {
            bestLength = 0;
            goal = to;
            ahead = n;
            stepTo(tables, from, day, 0, 0);
        }

        int answer(int what) {
            if (bestLength == 0) {
                return NONE;
            }
            if (what == 0) {
                return bestDay;
            }
            if (what == 1) {
                return bestLength;
            }
            return what - 2 < bestLength ? best[what - 2] : NONE;
        }

        private void stepTo(Tables tables, int table, int day, int depth, int visited) {
            if (depth >= MOST_TABLES) {
                return;
            }
            path[depth] = table;
            if (table == goal) {
                rememberIfBetter(day, depth + 1);
                return;
            }
            int seen = visited | (1 << table);
            for (int next = 0; next < tables.count; next++) {
                if (((seen >> next) & 1) == 0 && tables.mayPass(table, next)) {
                    stepTo(tables, next, tables.firstSitting(next, day + ahead), depth + 1, seen);
                }
            }
        }

        /** Ways are met in the order of their tables, so that of two alike the one met first stays. */
        private void rememberIfBetter(int day, int length) {
            boolean better = bestLength == 0 || day < bestDay || (day == bestDay && length < bestLength);
            if (better) {
                System.arraycopy(path, 0, best, 0, length);
                bestLength = length;
                bestDay = day;
            }
        }
    }

    private static final class Paper {
        static final int NOTE = 1, ASKED = 2, LETTER = 3, ORAL = 4;
        private static final int[] KIND_ABOVE = {-1, 0, 0, 2, 1};

        int kind;
        int office;
        int thing;
        int sum;
        int a;
        int sentDay = NONE;
        boolean taken;
        int agreed;
        int noes;
        int cameTable = NONE;
        int cameDay = NONE;
        int letBy = NONE;
        boolean bySilence;
        // By how many days it was early when it came: what counts is AHEAD as it was on that day.
        int slack;

        void begin(int kind, int office, int thing, int sum, int a) {
            this.kind = kind;
            this.office = office;
            this.thing = thing;
            this.sum = sum;
            this.a = a;
            sentDay = NONE;
            taken = false;
            agreed = 0;
            noes = 0;
            cameTable = NONE;
            cameDay = NONE;
            letBy = NONE;
            bySilence = false;
            slack = 0;
        }

        void become(Paper other) {
            kind = other.kind;
            office = other.office;
            thing = other.thing;
            sum = other.sum;
            a = other.a;
            sentDay = other.sentDay;
            taken = other.taken;
            agreed = other.agreed;
            noes = other.noes;
            cameTable = other.cameTable;
            cameDay = other.cameDay;
            letBy = other.letBy;
            bySilence = other.bySilence;
            slack = other.slack;
        }

        boolean isSent() {
            return sentDay != NONE;
        }

        boolean hasCome() {
            return cameTable != NONE;
        }

        boolean isUnderWay() {
            return isSent() && !taken && !hasCome();
        }

        boolean isOfKind(int wanted) {
            int one = kind;
            for (int step = 0; step < KINDS && one >= 0 && one < KINDS; step++) {
                if (one == wanted) {
                    return true;
                }
                one = KIND_ABOVE[one];
            }
            return false;
        }

        void arrive(int table, int day) {
            cameTable = table;
            cameDay = day;
        }

        int hear(int speaker, boolean yes) {
            int mask = 1 << speaker;
            int before = NONE;
            if ((agreed & mask) != 0) {
                before = 1;
            } else if ((noes & mask) != 0) {
                before = 0;
            }
            agreed = yes ? agreed | mask : agreed & ~mask;
            noes = yes ? noes & ~mask : noes | mask;
            return before;
        }

        int ofItself(int what) {
            switch (what) {
                case 0: return kind;
                case 1: return office;
                case 2: return thing;
                case 3: return sum;
                case 4: return a;
                case 5: return sentDay;
                case 6: return bit(taken);
                case 7: return agreed;
                default: return noes;
            }
        }

        int ofItsCourse(int what) {
            switch (what) {
                case 9: return cameTable;
                case 10: return cameDay;
                case 11: return letBy;
                case 12: return reach();
                case 13: return shuts();
                case 14: return binds();
                default: return weighs();
            }
        }

        int reach() {
            int asPaper = 5 + a / 10;
            switch (kind) {
                case NOTE: return asPaper - 2;
                case ASKED: return asPaper + 1;
                case LETTER: return (asPaper + 1) / 2;
                case ORAL: return Math.max(0, asPaper - 2 - 4);
                default: return asPaper;
            }
        }

        int shuts() {
            int asNote = 300 - a;
            int asAsked = 300 + 2 * a;
            switch (kind) {
                case NOTE: return asNote;
                case ASKED: return asAsked;
                case LETTER: return 2 * asAsked - reach();
                case ORAL: return asNote / 3;
                default: return 300;
            }
        }

        int binds() {
            return kind == NOTE ? 0 : 1;
        }

        int weighs() {
            int asPaper = sum / 100 + a;
            switch (kind) {
                case LETTER: return asPaper + shuts();
                case ORAL: return asPaper - reach() * 2;
                default: return asPaper;
            }
        }
    }

    private static final class Rule {
        static final int TABLE = 0, AHEAD = 1, NEED = 2, SILENT = 3, SHUT = 4, STRIKE = 5;
        static final int SUM_BELOW = 0, SUM_ABOVE = 1, DAY_BELOW = 2, DAY_ABOVE = 3, GOV_BELOW = 4, GOV_ABOVE = 5;
        static final int BY = 6, ON_THING = 7, AGREED = 8, NOT = 9, AND = 10, OR = 11;
        // A step is told as its sort times this, and its number (an atom's; else 0).
        static final int STEP = 100000;

        int head;
        // K, or R of a strike.
        int target;
        // N, or O of a need; NONE of a strike.
        int number;
        int fromDay;
        int atoms;
        // The steps of the if stand ahead of those of the unless, each said behind what it works on.
        int ifSteps;
        int allSteps;
        final int[] steps = new int[MOST_BYTES];

        void become(Rule other) {
            head = other.head;
            target = other.target;
            number = other.number;
            fromDay = other.fromDay;
            atoms = other.atoms;
            ifSteps = other.ifSteps;
            allSteps = other.allSteps;
            System.arraycopy(other.steps, 0, steps, 0, MOST_BYTES);
        }

        void clear() {
            head = TABLE;
            target = 0;
            number = NONE;
            fromDay = 0;
            atoms = 0;
            ifSteps = 0;
            allSteps = 0;
        }

        /** A tape has more bytes than a rule of it has steps, so there is always room. */
        void addStep(int sort, int operand) {
            if (allSteps < MOST_BYTES) {
                steps[allSteps] = sort * STEP + operand;
                allSteps++;
                if (sort < NOT) {
                    atoms++;
                }
            }
        }

        int part(int what) {
            switch (what) {
                case 0: return head;
                case 1: return target;
                case 2: return number;
                case 3: return fromDay;
                default: return atoms;
            }
        }

        boolean isWrong(int offices, int tables, int rules) {
            if (head == STRIKE ? target >= rules : target >= KINDS) {
                return true;
            }
            for (int i = 0; i < allSteps; i++) {
                int sort = steps[i] / STEP;
                if ((sort == BY || sort == AGREED) && steps[i] % STEP >= offices) {
                    return true;
                }
            }
            switch (head) {
                case TABLE: return number >= tables;
                case NEED: return number >= offices;
                case SHUT: return number > 999;
                case STRIKE: return false;
                default: return number > 99;
            }
        }

        /** Whether it would count for the paper if no strike did. */
        boolean fits(Paper paper, int day, int government) {
            if (fromDay > day || (head != STRIKE && !paper.isOfKind(target))) {
                return false;
            }
            if (ifSteps > 0 && !isSo(0, ifSteps, paper, day, government)) {
                return false;
            }
            return allSteps == ifSteps || !isSo(ifSteps, allSteps, paper, day, government);
        }

        /** What is not yet worked on waits in the bits of one number, the latest lowest: eight open ( leave room enough. */
        private boolean isSo(int from, int to, Paper paper, int day, int government) {
            int pending = 0;
            for (int i = from; i < to && i < MOST_BYTES; i++) {
                int sort = steps[i] / STEP;
                int latest = pending & 1;
                int earlier = pending >>> 1;
                if (sort == NOT) {
                    pending ^= 1;
                } else if (sort == AND) {
                    pending = latest == 1 ? earlier : earlier & ~1;
                } else if (sort == OR) {
                    pending = earlier | latest;
                } else {
                    pending = (pending << 1) | (isAtomSo(steps[i], paper, day, government) ? 1 : 0);
                }
            }
            return (pending & 1) == 1;
        }

        private static boolean isAtomSo(int step, Paper paper, int day, int government) {
            int operand = step % STEP;
            switch (step / STEP) {
                case SUM_BELOW: return paper.sum < operand;
                case SUM_ABOVE: return paper.sum > operand;
                case DAY_BELOW: return day < operand;
                case DAY_ABOVE: return day > operand;
                case GOV_BELOW: return government < operand;
                case GOV_ABOVE: return government > operand;
                case BY: return paper.office == operand;
                case ON_THING: return paper.thing == operand;
                default: return operand < MOST_OFFICES && ((paper.agreed >> operand) & 1) == 1;
            }
        }
    }

    /** The tape, and the reading of a rule from it. */
    private static final class Tape {
        private static final int END = 0, NUMBER = 1, OPENING = 2, CLOSING = 3, BELOW = 4, ABOVE = 5;
        private static final int IF = 6, UNLESS = 7, OR = 8, AND = 9, NOT = 10;
        // The heads' words stand in the order of the heads, the atoms' words in the order of the atoms.
        private static final int FIRST_HEAD = 11, FIRST_ATOM = 17, FIRST_NAMING_ATOM = 20, STRANGE = 23;
        private static final int LETTER = 1, DIGIT = 2, SIGN = 3;
        private static final int MOST_DIGITS = 5;
        private static final int MOST_OPEN = 8;

        private final byte[] bytes = new byte[MOST_BYTES];
        // The words and signs of the tape, with the end as the last one.
        private final int[] tokens = new int[MOST_BYTES + 1];
        private final int[] places = new int[MOST_BYTES + 1];
        private final int[] numbers = new int[MOST_BYTES + 1];
        final Rule draft = new Rule();
        int length;
        private int last;
        private int at;
        private int token;

        int append(int a, int b, int c) {
            if (length > MOST_BYTES - 12) {
                return FULL;
            }
            appendFour(a);
            appendFour(b);
            appendFour(c);
            return length;
        }

        private void appendFour(int four) {
            for (int shift = 24; shift >= 0 && length < MOST_BYTES; shift -= 8) {
                bytes[length] = (byte) (four >> shift);
                length++;
            }
        }

        int shorten(int n) {
            if (!isWithin(n, 0, length)) {
                return BAD;
            }
            length = n;
            return n;
        }

        /** Reads the tape into the draft. Where that fails, the reading stops at the fault. */
        boolean readRule() {
            cut();
            draft.clear();
            at = 0;
            token = tokens[0];
            if (!readHead()) {
                return false;
            }
            if (token == IF) {
                advance();
                if (!readOr(0, 0)) {
                    return false;
                }
            }
            draft.ifSteps = draft.allSteps;
            if (token == UNLESS) {
                advance();
                if (!readOr(0, 0)) {
                    return false;
                }
            }
            return token == END;
        }

        int placeOfFault() {
            return places[at];
        }

        /** The end is never gone over, so that a reading cannot leave the row of tokens. */
        private void advance() {
            if (at < last) {
                at++;
                token = tokens[at];
            }
        }

        private boolean readHead() {
            if (!isWithin(token, FIRST_HEAD, FIRST_ATOM - 1)) {
                return false;
            }
            draft.head = token - FIRST_HEAD;
            advance();
            if (token != NUMBER) {
                return false;
            }
            draft.target = numbers[at];
            advance();
            if (draft.head == Rule.STRIKE) {
                return true;
            }
            if (token != NUMBER) {
                return false;
            }
            draft.number = numbers[at];
            advance();
            return true;
        }

        private boolean readOr(int brackets, int nots) {
            if (!readAnd(brackets, nots)) {
                return false;
            }
            for (int i = 0; i < MOST_BYTES && token == OR; i++) {
                advance();
                if (!readAnd(brackets, nots)) {
                    return false;
                }
                draft.addStep(Rule.OR, 0);
            }
            return true;
        }

        private boolean readAnd(int brackets, int nots) {
            if (!readNot(brackets, nots)) {
                return false;
            }
            for (int i = 0; i < MOST_BYTES && token == AND; i++) {
                advance();
                if (!readNot(brackets, nots)) {
                    return false;
                }
                draft.addStep(Rule.AND, 0);
            }
            return true;
        }

        private boolean readNot(int brackets, int nots) {
            if (token == NOT && nots < MOST_OPEN) {
                advance();
                if (!readNot(brackets, nots + 1)) {
                    return false;
                }
                draft.addStep(Rule.NOT, 0);
                return true;
            }
            if (token == OPENING && brackets < MOST_OPEN) {
                advance();
                if (!readOr(brackets + 1, nots) || token != CLOSING) {
                    return false;
                }
                advance();
                return true;
            }
            return readAtom();
        }

        private boolean readAtom() {
            if (!isWithin(token, FIRST_ATOM, STRANGE - 1)) {
                return false;
            }
            int atom = Rule.BY + token - FIRST_NAMING_ATOM;
            boolean compares = token < FIRST_NAMING_ATOM;
            if (compares) {
                atom = Rule.SUM_BELOW + 2 * (token - FIRST_ATOM);
            }
            advance();
            if (compares) {
                if (token != BELOW && token != ABOVE) {
                    return false;
                }
                atom += bit(token == ABOVE);
                advance();
            }
            if (token != NUMBER) {
                return false;
            }
            draft.addStep(atom, numbers[at]);
            advance();
            return true;
        }

        private void cut() {
            last = 0;
            int from = 0;
            int wordEnd = -1;
            for (int i = 0; i < MOST_BYTES && from < length; i++) {
                if (bytes[from] == ' ') {
                    from++;
                } else {
                    int sort = sortOf(bytes[from]);
                    int to = endOf(from, sort);
                    boolean glued = sort != SIGN && wordEnd == from;
                    putToken(glued ? STRANGE : tokenOf(from, to, sort), from);
                    from = to;
                    wordEnd = sort == SIGN ? -1 : to;
                }
            }
            tokens[last] = END;
            places[last] = length;
        }

        private void putToken(int one, int place) {
            if (last < MOST_BYTES) {
                tokens[last] = one;
                places[last] = place;
                last++;
            }
        }

        private static int sortOf(byte one) {
            if (one >= 'a' && one <= 'z') {
                return LETTER;
            }
            return one >= '0' && one <= '9' ? DIGIT : SIGN;
        }

        private int endOf(int from, int sort) {
            int to = from + 1;
            while (sort != SIGN && to < length && sortOf(bytes[to]) == sort) {
                to++;
            }
            return to;
        }

        private int tokenOf(int from, int to, int sort) {
            if (sort == LETTER) {
                return tokenOfWord(from, to);
            }
            if (sort == DIGIT) {
                return tokenOfNumber(from, to);
            }
            switch (bytes[from]) {
                case '(': return OPENING;
                case ')': return CLOSING;
                case '<': return BELOW;
                case '>': return ABOVE;
                default: return STRANGE;
            }
        }

        private int tokenOfNumber(int from, int to) {
            if (to - from > MOST_DIGITS) {
                return STRANGE;
            }
            numbers[last] = 0;
            for (int i = from; i < to; i++) {
                numbers[last] = numbers[last] * 10 + bytes[i] - '0';
            }
            return NUMBER;
        }

        private int tokenOfWord(int from, int to) {
            int word = placeAmong("if unless or and not ", from, to);
            if (word >= 0) {
                return IF + word;
            }
            word = placeAmong("table ahead need silent shut strike ", from, to);
            if (word >= 0) {
                return FIRST_HEAD + word;
            }
            word = placeAmong("sum day gov by thing agreed ", from, to);
            return word >= 0 ? FIRST_ATOM + word : STRANGE;
        }

        /** How many of the words, each with a blank behind it, stand ahead of the tape's; -1 if it is none of them. */
        private int placeAmong(String words, int from, int to) {
            int ahead = 0;
            int alike = 0;
            boolean same = true;
            for (int i = 0; i < words.length(); i++) {
                char letter = words.charAt(i);
                if (letter != ' ') {
                    same = same && from + alike < to && bytes[from + alike] == letter;
                    alike++;
                } else if (same && from + alike == to) {
                    return ahead;
                } else {
                    ahead++;
                    alike = 0;
                    same = true;
                }
            }
            return -1;
        }
    }

    /** The decisions. */
    private static final class Docket {
        private final int[] papers = new int[MOST_DECISIONS];
        private final int[] things = new int[MOST_DECISIONS];
        final int[] values = new int[MOST_DECISIONS];
        private final int[] days = new int[MOST_DECISIONS];
        private final int[] bindings = new int[MOST_DECISIONS];
        private final int[] leanings = new int[MOST_DECISIONS];
        private final int[] undoneDays = new int[MOST_DECISIONS];
        private final int[] governments = new int[MOST_DECISIONS];
        int count;

        void become(Docket other) {
            System.arraycopy(other.papers, 0, papers, 0, MOST_DECISIONS);
            System.arraycopy(other.things, 0, things, 0, MOST_DECISIONS);
            System.arraycopy(other.values, 0, values, 0, MOST_DECISIONS);
            System.arraycopy(other.days, 0, days, 0, MOST_DECISIONS);
            System.arraycopy(other.bindings, 0, bindings, 0, MOST_DECISIONS);
            System.arraycopy(other.leanings, 0, leanings, 0, MOST_DECISIONS);
            System.arraycopy(other.undoneDays, 0, undoneDays, 0, MOST_DECISIONS);
            System.arraycopy(other.governments, 0, governments, 0, MOST_DECISIONS);
            count = other.count;
        }

        boolean isFull() {
            return count >= MOST_DECISIONS;
        }

        boolean hasAll(int set) {
            return set >= 0 && set < (1 << count);
        }

        boolean hasOneBy(int paper) {
            for (int i = 0; i < count; i++) {
                if (papers[i] == paper) {
                    return true;
                }
            }
            return false;
        }

        int begin(int paper, int thing, int value, int day) {
            if (isFull()) {
                return FULL;
            }
            papers[count] = paper;
            things[count] = thing;
            values[count] = value;
            days[count] = day;
            undoneDays[count] = NONE;
            count++;
            return count - 1;
        }

        void tie(int decision, int binding, int leans, int government) {
            if (isWithin(decision, 0, count - 1)) {
                bindings[decision] = binding;
                leanings[decision] = leans;
                governments[decision] = government;
            }
        }

        int part(int decision, int what) {
            switch (what) {
                case 0: return papers[decision];
                case 1: return things[decision];
                case 2: return values[decision];
                case 3: return days[decision];
                case 4: return bindings[decision];
                case 5: return leanings[decision];
                case 6: return undoneDays[decision];
                default: return governments[decision];
            }
        }

        void undo(int decision, int day) {
            undoneDays[decision] = day;
        }

        int standing(int day) {
            return standingWithout(NONE, day);
        }

        /** A decision leans on older ones alone, so one pass from the oldest settles all. */
        private int standingWithout(int decision, int day) {
            int standing = 0;
            for (int i = 0; i < count; i++) {
                boolean undone = i == decision || (undoneDays[i] != NONE && undoneDays[i] <= day);
                if (days[i] <= day && !undone && (leanings[i] & ~standing) == 0) {
                    standing |= 1 << i;
                }
            }
            return standing;
        }

        boolean standsOn(int decision, int day) {
            return ((standing(day) >> decision) & 1) == 1;
        }

        int fallingWith(int decision, int day) {
            return standing(day) & ~standingWithout(decision, day);
        }

        int greatestOn(int thing, int day) {
            int standing = standing(day);
            for (int i = count - 1; i >= 0; i--) {
                if (((standing >> i) & 1) == 1 && things[i] == thing) {
                    return i;
                }
            }
            return NONE;
        }

        int greatestBinding(int office, int thing, int day) {
            int standing = standing(day);
            for (int i = count - 1; i >= 0; i--) {
                if (((standing >> i) & 1) == 1 && things[i] == thing && ((bindings[i] >> office) & 1) == 1) {
                    return i;
                }
            }
            return NONE;
        }

        /** How many twos are against one another (0), or the lesser (1) or greater one (2) of the first two. */
        int opposed(int what, int day) {
            int standing = standing(day);
            int twos = 0;
            for (int i = 0; i < count; i++) {
                for (int j = i + 1; j < count; j++) {
                    if (((standing >> i) & (standing >> j) & 1) == 1 && isAgainst(i, j)) {
                        if (what != 0) {
                            return what == 1 ? i : j;
                        }
                        twos++;
                    }
                }
            }
            return what == 0 ? twos : NONE;
        }

        private boolean isAgainst(int one, int other) {
            return things[one] == things[other] && values[one] != values[other] && (bindings[one] & bindings[other]) != 0;
        }
    }

    private static final class Copies {
        private final int[] papers = new int[MOST_COPIES];
        private final int[] offices = new int[MOST_COPIES];
        private final int[] days = new int[MOST_COPIES];
        private final int[] marks = new int[MOST_COPIES];
        private int backSet;
        int count;

        void become(Copies other) {
            System.arraycopy(other.papers, 0, papers, 0, MOST_COPIES);
            System.arraycopy(other.offices, 0, offices, 0, MOST_COPIES);
            System.arraycopy(other.days, 0, days, 0, MOST_COPIES);
            System.arraycopy(other.marks, 0, marks, 0, MOST_COPIES);
            backSet = other.backSet;
            count = other.count;
        }

        int add(int paper, int office, int marksOfIt, int day) {
            if (count >= MOST_COPIES) {
                return FULL;
            }
            papers[count] = paper;
            offices[count] = office;
            days[count] = day;
            marks[count] = marksOfIt;
            count++;
            return count - 1;
        }

        boolean giveBack(int copy) {
            boolean wasOut = ((backSet >> copy) & 1) == 0;
            backSet |= 1 << copy;
            return wasOut;
        }

        int howManyOut() {
            return count - Integer.bitCount(backSet);
        }

        int outTo(int office) {
            int out = 0;
            for (int i = 0; i < count; i++) {
                if (offices[i] == office) {
                    out |= 1 << i;
                }
            }
            return out & ~backSet;
        }

        int papersSentTo(int office, int day) {
            int sent = 0;
            for (int i = 0; i < count; i++) {
                if (offices[i] == office && days[i] <= day) {
                    sent |= 1 << papers[i];
                }
            }
            return sent;
        }

        /** The copies of a paper that bear these marks at the printed places, as bits. */
        int alike(int paper, int places, int printed) {
            int mask = 0;
            for (int place = 0; place < MARK_PLACES; place++) {
                if (((places >> place) & 1) == 1) {
                    mask |= 3 << (2 * place);
                }
            }
            int suspects = 0;
            for (int i = 0; i < count; i++) {
                if (papers[i] == paper && ((marks[i] ^ printed) & mask) == 0) {
                    suspects |= 1 << i;
                }
            }
            return suspects;
        }

        int bestPlace(int suspects, int places) {
            int best = NONE;
            int least = MOST_COPIES + 1;
            for (int place = 0; place < MARK_PLACES; place++) {
                int most = mostAlike(suspects, place);
                if (((places >> place) & 1) == 0 && most < least) {
                    best = place;
                    least = most;
                }
            }
            return best;
        }

        private int mostAlike(int suspects, int place) {
            int most = 0;
            for (int mark = 0; mark < 4; mark++) {
                int many = 0;
                for (int i = 0; i < count; i++) {
                    if (((suspects >> i) & 1) == 1 && ((marks[i] >> (2 * place)) & 3) == mark) {
                        many++;
                    }
                }
                most = Math.max(most, many);
            }
            return most;
        }
    }

    private static final class Register {
        static final int MISSING = -1, BYTES = 0, SHORTS = 1;

        final int[] values = new int[MOST_PLACES];
        int sort = MISSING;
        private int places;

        void begin(int newSort, int newPlaces) {
            sort = newSort;
            places = newPlaces;
            for (int i = 0; i < MOST_PLACES; i++) {
                values[i] = 0;
            }
        }

        void become(Register other) {
            sort = other.sort;
            places = other.places;
            System.arraycopy(other.values, 0, values, 0, MOST_PLACES);
        }

        boolean isMissing() {
            return sort == MISSING;
        }

        boolean hasPlace(int place) {
            return place >= 0 && place < places;
        }

        /** Says it without adding the two, for their sum may wrap around. */
        boolean hasPlaces(int from, int many) {
            return from >= 0 && many >= 0 && from <= places && many <= places - from;
        }

        int put(int place, int v) {
            int before = values[place];
            values[place] = sort == BYTES ? (byte) v : (short) v;
            return before;
        }
    }

    /** A seat of the room, with a paper and a row of its own, so that what lies there stays as it was. */
    private static final class Seat {
        static final int EMPTY = 0, PAPER = 1, REGISTER = 2, NUMBER = 3;

        final Paper paper = new Paper();
        final Register register = new Register();
        int holding;
        int number;
    }
}
