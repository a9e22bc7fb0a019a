/** Terms 3, promises 17 to 24: the tape, what is a rule and where it has its fault, which rules count. */
final class BoundsOfRules extends Situations {
    private static final String EIGHT_NOTS = "not not not not not not not not ";

    /** Each text has its fault where the sign ^ stands, which is left out. */
    private static void faulty(String... texts) {
        for (String one : texts) {
            int place = one.indexOf('^');
            due(-100 - place, rule(house(), one.substring(0, place) + one.substring(place + 1)));
        }
    }

    private static void right(String... texts) {
        for (String one : texts) {
            due(0, rule(house(), one));
        }
    }

    private static void wrongly(String... texts) {
        for (String one : texts) {
            refusedRule(NO, Situations::house, one, 0);
        }
    }

    /** A rule that is refused uses up the tape and changes nothing else. */
    private static void refusedRule(int want, Making situation, String text, int day) {
        refusedAs(() -> typed(situation, ""), want, () -> typed(situation, text), x -> x.rule(day));
    }

    private static CabinetTable typed(Making situation, String text) {
        CabinetTable x = situation.make();
        x.trim(0);
        PromisesTest.type(x, text);
        return x;
    }

    // ---- the tape

    @Sentence("Terms 3: THE TAPE (96 bytes at most")
    static void aRuleOf96Bytes() {
        CabinetTable x = house();
        due(0, rule(x, " ".repeat(88) + "shut 0 9"));
        due(9, x.of(0, 2));
        due(1, rule(x, "shut 0 8" + " ".repeat(88)));
        due(8, x.of(1, 2));
        due(-195, rule(x, "shut 0 8" + " ".repeat(87) + "8"));
        // As many words or signs as bytes.
        due(-100, rule(x, ",".repeat(96)));
        due(-100, rule(x, "(".repeat(96)));
        due(-100, rule(x, "a".repeat(96)));
        due(-100, rule(x, "9".repeat(96)));
        due(-100, rule(x, ",1".repeat(48)));
        due(-100, rule(x, "1,".repeat(48)));
        // A word that is cut off by the end of the tape.
        due(-192, rule(x, " ".repeat(92) + "tabl"));
        due(-195, rule(x, " ".repeat(95) + "s"));
        due(-108, rule(x, "shut 0 1" + ")".repeat(88)));
        PromisesTest.type(x, " ".repeat(96));
        due(96, x.count(13));
        due(FULL, x.feed(0, 0, 0));
    }

    @Sentence("Promise 17: Twelve bytes come to THE TAPE, the highest of each number first: how many it has.")
    static void twelveBytesTheHighestFirst() {
        CabinetTable x = house();
        due(12, x.feed(0x73687574, 0x20302035, 0x20202020));
        due(0, x.rule(0));
        due(5, x.of(0, 2));
        due(12, x.feed(0x20207368, 0x75742034, 0x20393938));
        due(24, x.feed(0x20202020, 0x20202020, 0x20202020));
        due(1, x.rule(0));
        due(998, x.of(1, 2));
        // The bytes 128 to 255 come as they are, and are signs.
        x.feed(0x73687574, 0x20302035, 0x20202080);
        due(-111, x.rule(0));
        x.feed(MIN, MIN, MIN);
        due(-100, x.rule(0));
        x.feed(0x20202020, 0x20FF2020, 0x20202020);
        due(-105, x.rule(0));
    }

    @Sentence("Promise 17: FULL: it would have more than 96.")
    static void noMoreThan96Bytes() {
        due(96, withBytes(84).feed(0, 0, 0));
        due(95, withBytes(83).feed(0, 0, 0));
        refused(FULL, () -> withBytes(85), x -> x.feed(0, 0, 0), x -> x.feed(MIN, MAX, -1));
        refused(FULL, () -> withBytes(96), x -> x.feed(0, 0, 0), x -> x.feed(0x20202020, 0x20202020, 0x20202020));
    }

    @Sentence("Promise 18: THE TAPE keeps its first n bytes: n. BAD.")
    static void trimmedTo0OrToAllOfIt() {
        CabinetTable x = withBytes(12);
        due(12, x.trim(12));
        due(7, x.trim(7));
        due(7, x.count(13));
        due(0, x.trim(0));
        due(0, x.trim(0));
        due(0, x.count(13));
        CabinetTable y = typed(Situations::house, "shut 0 789");
        due(9, y.trim(9));
        due(0, y.rule(0));
        due(78, y.of(0, 2));
        refused(BAD, () -> withBytes(12), z -> z.trim(-1), z -> z.trim(13), z -> z.trim(MIN), z -> z.trim(MAX));
        refused(BAD, Situations::house, z -> z.trim(1), z -> z.trim(-1));
        refused(BAD, () -> withBytes(96), z -> z.trim(97));
    }

    @Sentence("Terms 3: an act that reads it uses it up, whatever it answers")
    static void theTapeIsUsedUp() {
        usedUpBy(0, Situations::house, "shut 0 1", 0);
        usedUpBy(BAD, Situations::house, "shut 0 1", 1000);
        usedUpBy(-104, Situations::house, "shut", 0);
        usedUpBy(NO, Situations::house, "shut 5 1", 0);
        usedUpBy(FULL, () -> withRules(16), "shut 0 1", 0);
    }

    private static void usedUpBy(int want, Making situation, String text, int day) {
        CabinetTable x = typed(situation, text);
        due(want, x.rule(day));
        due(0, x.count(13));
        due(-100, x.rule(0));
        due(12, x.feed(0, 0, 0));
    }

    // ---- what is a rule

    @Sentence("Terms 3: HEAD [if E] [unless E]")
    static void anIfAndAnUnlessAtMostInThisOrder() {
        right("shut 0 1", "shut 0 1 if by 0", "shut 0 1 unless by 0", "shut 0 1 if by 0 unless by 1");
        faulty("^if by 0", "^unless by 0", "shut 0 1 unless by 0 ^if by 1", "shut 0 1 if by 0 ^if by 1", "shut 0 1 unless by 0 ^unless by 1");
        faulty("shut 0 1 if by 0 unless by 1 ^if by 2", "shut 0 1 if ^unless by 0", "shut 0 1 if^", "shut 0 1 unless^", "shut 0 1 ^by 0", "shut 0 1 ^shut 0 1");
    }

    @Sentence("Terms 3: HEAD: table K N | ahead K N | need K O | silent K N | shut K N | strike R.")
    static void headsWithTheirNumbers() {
        String[] two = {"table", "ahead", "need", "silent", "shut"};
        for (String head : two) {
            right(head + " 0 1");
            faulty(head + "^", head + " 0^", head + " 0 1 ^2", head + " ^if by 0", head + " 0 ^if by 0");
        }
        CabinetTable x = withRules(1);
        due(1, rule(x, "strike 0"));
        due(-107, rule(x, "strike "));
        due(-109, rule(x, "strike 0 1"));
        faulty("^tabl 0 1", "^tables 0 1", "^a 0 1", "^0 0 1", "^( 0 1", "^Shut 0 1", "^if 0 1", "^sum 0 1");
    }

    @Sentence("Terms 3: OR: AND { or AND }; AND: NOT { and NOT }; NOT: not NOT | ( OR ) | ATOM.")
    static void whatAnExpressionIs() {
        right("shut 0 1 if by 0 or by 1 or by 2", "shut 0 1 if by 0 and by 1 and by 2", "shut 0 1 if not (by 0 or by 1) and not not by 2", "shut 0 1 if ((by 0))");
        faulty("shut 0 1 if ^or by 0", "shut 0 1 if ^and by 0", "shut 0 1 if by 0 or^", "shut 0 1 if by 0 and^", "shut 0 1 if by 0 or ^and by 1", "shut 0 1 if not^");
        faulty("shut 0 1 if (^)", "shut 0 1 if (by 0^", "shut 0 1 if (by 0) ^)", "shut 0 1 if by 0 ^not by 1", "shut 0 1 if by 0 ^(by 1)", "shut 0 1 if (by 0 ^unless by 1)");
        faulty("shut 0 1 if ^)", "shut 0 1 if not ^or by 0", "shut 0 1 if (by 0) ^by 1", "shut 0 1 if (by 0 or^", "shut 0 1 if by 0 ^by 1");
    }

    @Sentence("Terms 3: ATOM: sum OP N | day OP N | gov OP N | by O | thing N | agreed O; OP: < | >.")
    static void whatAnAtomIs() {
        String[] compared = {"sum", "day", "gov"};
        for (String atom : compared) {
            right("shut 0 1 if " + atom + " < 1", "shut 0 1 if " + atom + ">1");
            faulty("shut 0 1 if " + atom + "^", "shut 0 1 if " + atom + " ^1", "shut 0 1 if " + atom + " <^", "shut 0 1 if " + atom + " < ^> 1");
            faulty("shut 0 1 if " + atom + " ^= 1", "shut 0 1 if " + atom + " <^= 1");
        }
        String[] naming = {"by", "thing", "agreed"};
        for (String atom : naming) {
            right("shut 0 1 if " + atom + " 1");
            faulty("shut 0 1 if " + atom + "^", "shut 0 1 if " + atom + " ^< 1", "shut 0 1 if " + atom + " ^by 1", "shut 0 1 if " + atom + " 1 ^1");
        }
        faulty("shut 0 1 if ^need 1", "shut 0 1 if ^1", "shut 0 1 if ^su < 1");
    }

    @Sentence("Terms 3: K, N, O, R: NUMBERS of 1 to 5 digits.")
    static void numbersHaveOneToFiveDigits() {
        right("shut 0 0", "shut 00000 00001", "need 00004 00002", "shut 0 1 if sum < 99999", "shut 0 1 if thing 99999", "shut 0 1 if by 00000", "shut 0 1 if agreed 00000");
        faulty("shut ^000000 1", "shut 0 ^000001", "need 0 ^000001", "shut 0 1 if sum < ^100000", "shut 0 1 if day > ^000000", "shut 0 1 if gov < ^1234567");
        faulty("shut 0 1 if thing ^100000", "shut 0 1 if by ^000000", "shut 0 1 if agreed ^000000", "shut 0 ^4294967297");
        CabinetTable x = withRules(1);
        due(1, rule(x, "strike 00000"));
        due(-107, rule(x, "strike 000000"));
        due(2, rule(x, "shut 0 00999"));
        due(999, x.of(2, 2));
    }

    @Sentence("Terms 3: A word is a row of letters a .. z, or of digits, as long as it goes; any other byte is a sign by itself.")
    static void wordsAndSigns() {
        // The bytes next to a, z, 0 and 9 are signs; the word ends ahead of them.
        faulty("table^` 0 1", "table^{ 0 1", "table^A 0 1", "shut 0^/ 1", "shut 0^: 1", "shut 0 1^/", "shut 0 1^:", "shut 0 1 ^`", "shut 0 1 ^{");
        faulty("^tablea 0 1", "^tablez 0 1", "^`table 0 1", "^{table 0 1");
        right("shut 0 90", "shut 0 909");
        // A word of letters ends where digits begin, and the other way round.
        faulty("shut^0 1", "shut 0 1^a", "shut 0 1^z", "^z9", "^9z");
        // Two signs are two, however they stand.
        faulty("shut 0 1 if sum <^> 1", "shut 0 1 if sum >^> 1", "shut 0 1 ^(", "shut 0 1 ^<");
    }

    @Sentence("Terms 3: Between words and signs, and at the ends, there may be blanks (byte 32)")
    static void blanksAreOfByte32Alone() {
        right("   shut   0   1   if   (   sum   <   5   )   ", "shut 0 1 if(sum<5)and(by 1)or(not(by 2))unless(gov>1)", "shut 0 1 ");
        faulty("shut 0 1^\t", "shut^\t0 1", "^\tshut 0 1", "shut 0 1^\n", "shut 0 1^\0", "shut 0 1^" + (char) 31, "shut 0 1^!", "shut 0 1^" + (char) 160);
    }

    @Sentence("Terms 3: a word right behind another one needs one")
    static void wordsNeedABlank() {
        faulty("shut^0 1", "shut 0 1^if by 0", "shut 0 1 if by^0", "shut 0 1 if by 0^or by 1", "shut 0 1 if sum<5^and by 1", "shut 0 1 if by 0^unless by 1");
        right("shut 0 1 if sum<5 and by 1", "shut 0 1 if(by 0)or by 1", "shut 0 1 if not(by 0)", "shut 0 1 if sum>5 unless(by 1)");
        faulty("shut 0 1 if thing^3", "shut 0 1 if agreed^0", "shut 0 1 if (by 0)^5", "shut 0 1 if (by 0)or by^1");
    }

    @Sentence("Terms 3: FAULT: the first byte of the first word or sign with which no RULE goes on")
    static void theFirstByteOfTheFirstThatDoesNotGoOn() {
        faulty("^foo bar", "shut ^foo 1", "   ^foo", "shut 0 1    ^foo", "shut 0 ^foo if by 0", "shut 0 1 if sum < 5 ^foo ( (");
        // What is wrong in an earlier place does not matter to the fault.
        faulty("shut 9 9999 ^foo", "need 0 9 if ^foo");
    }

    private static final String[] ALL = (
        "table ahead need silent shut strike if unless or and not sum day gov by thing agreed < > ( ) 5 123456 foo , =").split(" ");
    private static final String TERM = " not ( sum day gov by thing agreed ";
    /** What stands already, and with what a rule goes on there. */
    private static final String[][] GOING_ON = {
        {"", " table ahead need silent shut strike "}, {"shut ", " 5 "}, {"shut 0 ", " 5 "}, {"shut 0 1 ", " if unless "}, {"strike ", " 5 "},
        {"strike 0 ", " if unless "}, {"shut 0 1 if ", TERM}, {"shut 0 1 unless ", TERM}, {"shut 0 1 if not ", TERM}, {"shut 0 1 if ( ", TERM},
        {"shut 0 1 if by 0 or ", TERM}, {"shut 0 1 if by 0 and ", TERM}, {"shut 0 1 if by 0 unless ", TERM}, {"shut 0 1 if sum ", " < > "},
        {"shut 0 1 if day ", " < > "}, {"shut 0 1 if gov ", " < > "}, {"shut 0 1 if sum < ", " 5 "}, {"shut 0 1 if sum > ", " 5 "},
        {"shut 0 1 if by ", " 5 "}, {"shut 0 1 if thing ", " 5 "}, {"shut 0 1 if agreed ", " 5 "}, {"shut 0 1 if by 0 ", " or and unless "},
        {"shut 0 1 if sum < 5 ", " or and unless "}, {"shut 0 1 unless by 0 ", " or and "}, {"shut 0 1 if (by 0 ", " or and ) "},
        {"shut 0 1 if (by 0) ", " or and unless "}, {"shut 0 1 unless (by 0) ", " or and "}, {"shut 0 1 if by 0 unless by 1 ", " or and "},
    };

    @Sentence("Terms 3: the first word or sign with which no RULE goes on")
    static void withWhatARuleGoesOnInEachPlace() {
        for (String[] one : GOING_ON) {
            for (String word : ALL) {
                int answer = rule(withRules(1), one[0] + word);
                boolean goesOn = one[1].contains(" " + word + " ");
                due(goesOn ? 0 : 1, answer == -100 - one[0].length() ? 1 : 0);
                // Where it goes on, either the end comes too soon or the rule is read.
                boolean toTheEnd = answer == -100 - one[0].length() - word.length() || answer == NO || answer == 1;
                due(goesOn ? 1 : 0, toTheEnd ? 1 : 0);
            }
        }
    }

    @Sentence("Terms 3: the end (the place behind the last byte), if it comes too soon.")
    static void theEndComesTooSoon() {
        faulty("^", " ^", "            ^", "shut^", "shut ^", "shut 0^", "shut 0    ^", "shut 0 1 if   ^", "shut 0 1 if (by 0  ^");
        due(-196, rule(house(), " ".repeat(96)));
        due(-196, rule(house(), "shut 0" + " ".repeat(90)));
        due(-100, house().rule(0));
    }

    // ---- the ninth ( and the ninth not

    @Sentence("Terms 3: the ninth ( that would be open within others")
    static void eightBracketsMayBeOpen() {
        right("shut 0 1 if " + "(".repeat(8) + "by 0" + ")".repeat(8));
        faulty("shut 0 1 if " + "(".repeat(8) + "^(by 0" + ")".repeat(9));
        // Those that are closed again are not open within others.
        right("shut 0 1 if " + "(".repeat(8) + "by 0" + ")".repeat(8) + "or" + "(".repeat(8) + "by 0" + ")".repeat(8));
        right("shut 0 1 if((((((((by 0)or(by 1))))))))unless((((((((by 0))))))))");
        faulty("shut 0 1 if by 1 or((((((((by 0 or^(by 1)))))))))", "shut 0 1 unless((((((((^(by 0)))))))))");
        faulty("shut 0 1 if((((((((by 0)and(by 1)and ^)", "shut 0 1 if((((((((by 0)and(by 1 and^(by 2");
    }

    @Sentence("Terms 3: the ninth not likewise")
    static void eightNotsMayBeOpen() {
        right("shut 0 1 if " + EIGHT_NOTS + "by 0");
        faulty("shut 0 1 if " + EIGHT_NOTS + "^not by 0", "shut 0 1 unless " + EIGHT_NOTS + "^not by 0");
        right("shut 0 1 if " + EIGHT_NOTS + "by 0 or " + EIGHT_NOTS + "by 1", "shut 0 1 if " + EIGHT_NOTS + "by 0 unless " + EIGHT_NOTS + "by 1");
        faulty("shut 0 1 if " + EIGHT_NOTS + "by 0 and " + EIGHT_NOTS + "^not by 1");
        // In brackets, too, it is within the others.
        faulty("shut 0 1 if " + EIGHT_NOTS + "(^not by 0)", "shut 0 1 if " + EIGHT_NOTS + "(by 1 or ^not by 0)");
        right("shut 0 1 if (" + EIGHT_NOTS + "by 1) and not by 0");
    }

    @Sentence("Terms 3: the ninth not likewise, each by itself")
    static void bracketsAndNotsAreCountedEachByItself() {
        right("shut 0 1 if " + "not(".repeat(8) + "by 0" + ")".repeat(8), "shut 0 1 if " + "(".repeat(8) + EIGHT_NOTS + "by 0" + ")".repeat(8));
        right("shut 0 1 if " + EIGHT_NOTS + "(".repeat(8) + "by 0" + ")".repeat(8));
        faulty("shut 0 1 if " + "not(".repeat(8) + "^not by 0" + ")".repeat(8), "shut 0 1 if " + "not(".repeat(8) + "^(by 0)" + ")".repeat(8));
        CabinetTable x = withPapers(1);
        due(1, x.counts(rule(x, "shut 0 1 if " + "not(".repeat(8) + "by 0" + ")".repeat(8)), 0));
        due(0, x.counts(rule(x, "shut 0 1 if " + "not(".repeat(7) + "by 0" + ")".repeat(7)), 0));
    }

    // ---- what is wrong

    @Sentence("Terms 3: WRONG is a RULE that names a KIND above 4")
    static void noKindAbove4() {
        String[] heads = {"table", "ahead", "need", "silent", "shut"};
        for (String head : heads) {
            right(head + " 4 1", head + " 0 1");
            wrongly(head + " 5 1", head + " 99999 1");
        }
    }

    @Sentence("Terms 3: an OFFICE that there is not")
    static void noOfficeThatIsNotThere() {
        right("need 0 0", "need 0 2", "shut 0 1 if by 2", "shut 0 1 if agreed 2", "shut 0 1 unless by 2", "shut 0 1 unless not (sum < 1 or agreed 2)");
        wrongly("need 0 3", "need 0 99999", "shut 0 1 if by 3", "shut 0 1 if agreed 3", "shut 0 1 unless by 3", "shut 0 1 unless agreed 3");
        wrongly("shut 0 1 if by 0 or by 1 or by 2 or by 3", "shut 0 1 if sum < 1 unless not (sum < 1 or agreed 8)", "shut 0 1 if by 99999");
        due(NO, rule(withTables(1), "need 0 1"));
        // What an earlier text named does not matter to a later one.
        CabinetTable x = house();
        due(NO, rule(x, "shut 0 1 if by 0 and by 1 and by 3"));
        due(0, rule(x, "shut 0 1 if by 0 and by 1"));
        due(1, rule(x, "shut 0 1 if by 0"));
        due(2, rule(x, "shut 0 1"));
        due(0, rule(withOffices(8), "need 0 7"));
        due(NO, rule(withOffices(8), "need 0 8"));
    }

    @Sentence("Terms 3: N of table that is no TABLE")
    static void noTableThatIsNotThere() {
        right("table 0 0", "table 0 1");
        wrongly("table 0 2", "table 0 99999");
        due(NO, rule(withOffices(1), "table 0 0"));
        due(0, rule(withTables(6), "table 0 5"));
        due(NO, rule(withTables(6), "table 0 6"));
    }

    @Sentence("Terms 3: N of ahead above 99, of silent above 99, of shut above 999")
    static void numbersOfHeads() {
        right("ahead 0 99", "silent 0 99", "shut 0 999", "ahead 0 0", "silent 0 0", "shut 0 0");
        wrongly("ahead 0 100", "silent 0 100", "shut 0 1000", "ahead 0 99999", "silent 0 99999", "shut 0 99999");
        // No other number has a bound.
        right("shut 0 1 if sum < 99999 and day < 99999 and gov > 99999 or thing 10");
    }

    @Sentence("Terms 3: or R that is no RULE that there is already")
    static void noRuleThatIsNotThereAlready() {
        due(2, rule(withRules(2), "strike 1"));
        due(2, rule(withRules(2), "strike 0"));
        refusedRule(NO, () -> withRules(2), "strike 2", 0);
        refusedRule(NO, () -> withRules(2), "strike 99999", 0);
        refusedRule(NO, Situations::house, "strike 0", 0);
    }

    @Sentence("Terms 3: RULES, 16 at most, numbered from 0")
    static void rulesAreNumberedFrom0To15() {
        CabinetTable x = house();
        for (int i = 0; i < 16; i++) {
            due(i, x.count(5));
            due(i, rule(x, "shut 0 " + i));
        }
        due(16, x.count(5));
        due(15, x.of(15, 2));
        due(BAD, x.of(16, 2));
        due(FULL, rule(x, "shut 0 16"));
    }

    @Sentence("Promise 19: THE TAPE is a RULE from a DAY (0 .. 999) on: its number.")
    static void fromDays0To999() {
        due(0, ruleFrom(house(), 0, "shut 0 1"));
        due(0, ruleFrom(house(), 999, "shut 0 1"));
        int[] days = {-1, 1000, MIN, MAX};
        for (int day : days) {
            refusedRule(BAD, Situations::busy, "shut 0 1", day);
        }
    }

    @Sentence("Promise 19: BAD (asked first; THE TAPE is used up, too)")
    static void badIsAskedFirst() {
        refusedRule(BAD, Situations::house, "shut 0", -1);
        refusedRule(BAD, Situations::house, "shut 5 0", 1000);
        refusedRule(BAD, () -> withRules(16), "shut 0 1", 1000);
        refusedRule(BAD, Situations::house, "", 1000);
    }

    @Sentence("Promise 19: -100 less the place of its FAULT; NO: WRONG; FULL.")
    static void faultAheadOfWrongAheadOfFull() {
        due(-100, rule(house(), "foo"));
        due(-101, rule(house(), " foo"));
        due(-195, rule(house(), " ".repeat(95) + "x"));
        refusedRule(-109, Situations::busy, "shut 0 1 foo", 0);
        refusedRule(-109, Situations::house, "shut 5 1 foo", 0);
        refusedRule(-109, () -> withRules(16), "shut 5 1 foo", 0);
        refusedRule(NO, () -> withRules(16), "shut 5 1", 0);
        refusedRule(NO, () -> withRules(16), "strike 16", 0);
        refusedRule(FULL, () -> withRules(16), "strike 15", 0);
        refusedRule(FULL, () -> withRules(16), "shut 0 1", 999);
        due(15, rule(withRules(15), "strike 14"));
    }

    @Sentence("Promise 20: 1 K (of strike R), 2 N, O (of strike NONE), 3 the DAY, 4 how many ATOMS. BAD.")
    static void whatIsToldOfARule() {
        CabinetTable x = house();
        ruleFrom(x, 999, "shut 4 999");
        ruleFrom(x, 0, "strike 0 if by 0 or by 0 or by 0 or by 0 or by 0 or by 0 or by 0 or by 0 or by 0 or by 0 or by 0");
        ruleFrom(x, 7, "need 1 2 if by 0 and sum < 1 unless not agreed 1");
        int[][] want = {{4, 4, 999, 999, 0}, {5, 0, NONE, 0, 11}, {2, 1, 2, 7, 3}};
        for (int rule = 0; rule < 3; rule++) {
            for (int what = 0; what < 5; what++) {
                due(want[rule][what], x.of(rule, what));
            }
        }
        refused(BAD, Situations::busy, y -> y.of(0, -1), y -> y.of(0, 5), y -> y.of(0, MIN), y -> y.of(4, MAX));
        refused(BAD, Situations::busy, y -> y.of(-1, 0), y -> y.of(5, 0), y -> y.of(MIN, 0), y -> y.of(MAX, 4));
        refused(BAD, Situations::house, y -> y.of(0, 0));
    }

    // ---- which rules count

    /** Whether a rule with this condition counts for paper 0. */
    private static int countsIf(CabinetTable x, String condition) {
        return x.counts(rule(x, "shut 0 1 " + condition), 0);
    }

    @Sentence("Terms 3: A RULE COUNTS for a PAPER now, if it is in force on the open DAY")
    static void inForceFromItsDayOn() {
        CabinetTable x = withPapers(1);
        ruleFrom(x, 5, "shut 0 1");
        ruleFrom(x, 0, "shut 0 2");
        ruleFrom(x, 999, "shut 0 3");
        due(0, x.counts(0, 0));
        due(1, x.counts(1, 0));
        until(x, 4);
        due(0, x.counts(0, 0));
        until(x, 5);
        due(1, x.counts(0, 0));
        until(x, 998);
        due(0, x.counts(2, 0));
        until(x, 999);
        due(1, x.counts(2, 0));
        due(1, x.counts(0, 0));
    }

    @Sentence("Terms 3: its KIND (all but strike) is that of the PAPER or one above it")
    static void ofTheKindOrOneAbove() {
        boolean[][] isOne = {
            {true, false, false, false, false}, {true, true, false, false, false}, {true, false, true, false, false}, {true, false, true, true, false}, {true, true, false, false, true},
        };
        CabinetTable x = house();
        for (int kind = 0; kind < 5; kind++) {
            x.paper(kind, 0, 0, 0, 0);
            rule(x, "shut " + kind + " 1");
        }
        // The number of a strike is no kind.
        rule(x, "strike 4");
        for (int paper = 0; paper < 5; paper++) {
            for (int rule = 0; rule < 4; rule++) {
                due(isOne[paper][rule] ? 1 : 0, x.counts(rule, paper));
            }
            due(0, x.counts(4, paper));
            due(1, x.counts(5, paper));
        }
    }

    @Sentence("Terms 3: its if (without one: always) is so and its unless (without one: never) is not")
    static void ifAndUnless() {
        CabinetTable x = withPapers(1);
        due(1, countsIf(x, ""));
        due(1, countsIf(x, "if by 0"));
        due(0, countsIf(x, "if by 1"));
        due(0, countsIf(x, "unless by 0"));
        due(1, countsIf(x, "unless by 1"));
        due(1, countsIf(x, "if by 0 unless by 1"));
        due(0, countsIf(x, "if by 0 unless by 0"));
        due(0, countsIf(x, "if by 1 unless by 1"));
        due(0, countsIf(x, "if by 1 unless by 0"));
    }

    @Sentence("Terms 3: OR: AND { or AND }; AND: NOT { and NOT }; NOT: not NOT")
    static void orAndAndNotOfTwo() {
        // By 0 is so, by 1 is not.
        int[][] twos = {{0, 0}, {0, 1}, {1, 0}, {1, 1}};
        CabinetTable x = withPapers(1);
        for (int[] two : twos) {
            due(two[0] == 0 || two[1] == 0 ? 1 : 0, countsIf(x, "if by " + two[0] + " or by " + two[1]));
            due(two[0] == 0 && two[1] == 0 ? 1 : 0, countsIf(x, "if by " + two[0] + " and by " + two[1]));
            due(two[0], countsIf(x, "if not by " + two[0]));
        }
        due(1, countsIf(x, "if by 0 and thing 0 and sum > 1"));
        due(0, countsIf(x, "if by 0 and thing 0 and sum < 1"));
        due(0, countsIf(x, "if by 1 or thing 1 or sum < 1"));
        due(1, countsIf(x, "if by 1 or thing 1 or sum > 1"));
    }

    @Sentence("Terms 3: E, the loosest first: OR")
    static void orIsLooserThanAndThanNot() {
        CabinetTable x = withPapers(1);
        due(1, countsIf(x, "if by 0 or by 1 and by 1"));
        due(0, countsIf(x, "if (by 0 or by 1) and by 1"));
        due(1, countsIf(x, "if by 1 and by 1 or by 0"));
        due(0, countsIf(x, "if by 1 and (by 1 or by 0)"));
        due(1, countsIf(x, "if not by 1 or by 0"));
        due(0, countsIf(x, "if not (by 1 or by 0)"));
        due(0, countsIf(x, "if not by 0 and by 1"));
        due(1, countsIf(x, "if not (by 0 and by 1)"));
        due(1, countsIf(x, "if not not by 0"));
        due(0, countsIf(x, "if not not not by 0"));
    }

    @Sentence("Terms 3: by the PAPER's SUM")
    static void sumBelowAndAbove() {
        CabinetTable x = withPapers(1);
        due(1, countsIf(x, "if sum < 101"));
        due(0, countsIf(x, "if sum < 100"));
        due(1, countsIf(x, "if sum > 99"));
        due(0, countsIf(x, "if sum > 100"));
        x.paper(0, 0, 0, 0, 0);
        x.paper(0, 0, 0, 9999, 0);
        due(0, x.counts(rule(x, "shut 0 1 if sum < 0"), 1));
        due(0, x.counts(rule(x, "shut 0 1 if sum > 0"), 1));
        due(1, x.counts(rule(x, "shut 0 1 if sum < 1"), 1));
        due(0, x.counts(rule(x, "shut 0 1 if sum > 9999"), 2));
        due(1, x.counts(rule(x, "shut 0 1 if sum > 9998"), 2));
        due(1, x.counts(rule(x, "shut 0 1 if sum < 10000"), 2));
    }

    @Sentence("Terms 3: the open DAY, the GOVERNMENT, its OFFICE, THING, and who AGREED")
    static void dayAndGovernment() {
        CabinetTable x = until(withPapers(1), 6);
        x.govern();
        due(1, countsIf(x, "if day < 7"));
        due(0, countsIf(x, "if day < 6"));
        due(1, countsIf(x, "if day > 5"));
        due(0, countsIf(x, "if day > 6"));
        due(1, countsIf(x, "if gov < 2"));
        due(0, countsIf(x, "if gov < 1"));
        due(1, countsIf(x, "if gov > 0"));
        due(0, countsIf(x, "if gov > 1"));
        x.run(1);
        x.govern();
        int[] now = {0, 0, 1, 1, 0, 0, 1, 1};
        for (int rule = 0; rule < 8; rule++) {
            due(now[rule], x.counts(rule, 0));
        }
    }

    @Sentence("Terms 3: its OFFICE, THING, and who AGREED")
    static void officeThingAndWhoAgreed() {
        CabinetTable x = house();
        x.paper(0, 1, 9, 0, 0);
        x.send(0);
        due(0, countsIf(x, "if by 0"));
        due(1, countsIf(x, "if by 1"));
        due(0, countsIf(x, "if by 2"));
        due(1, countsIf(x, "if thing 9"));
        due(0, countsIf(x, "if thing 8"));
        due(0, countsIf(x, "if thing 10"));
        due(0, countsIf(x, "if agreed 2"));
        x.word(0, 2, 1);
        due(1, x.counts(6, 0));
        due(0, countsIf(x, "if agreed 1"));
        x.word(0, 1, 0);
        due(0, x.counts(7, 0));
        x.word(0, 2, 0);
        due(0, x.counts(6, 0));
    }

    @Sentence("Terms 3: STRUCK is R of each strike that COUNTS for the PAPER (those of greater numbers first: one that is STRUCK strikes nothing)")
    static void struckStrikesStrikeNothing() {
        CabinetTable x = withPapers(1);
        rule(x, "shut 0 1");
        int[][] want = {{1}, {0, 1}, {1, 0, 1}, {0, 1, 0, 1}, {1, 0, 1, 0, 1}};
        for (int last = 0; last < 5; last++) {
            if (last > 0) {
                rule(x, "strike " + (last - 1));
            }
            for (int rule = 0; rule <= last; rule++) {
                due(want[last][rule], x.counts(rule, 0));
            }
        }
        // Of two strikes of one rule the one that counts is enough.
        rule(x, "strike 0 if by 1");
        due(1, x.counts(0, 0));
        rule(x, "strike 0");
        due(0, x.counts(0, 0));
    }

    @Sentence("Terms 3: STRUCK is R of each strike that COUNTS for the PAPER")
    static void aStrikeThatDoesNotCountStrikesNothing() {
        CabinetTable x = withPapers(2);
        x.paper(0, 1, 0, 0, 0);
        rule(x, "shut 0 1");
        rule(x, "strike 0 if by 1");
        ruleFrom(x, 3, "strike 0");
        due(1, x.counts(0, 0));
        due(0, x.counts(0, 2));
        until(x, 2);
        due(1, x.counts(0, 0));
        until(x, 3);
        due(0, x.counts(0, 0));
    }

    @Sentence("Promise 21: Whether a RULE COUNTS for a PAPER now: 1, 0. BAD.")
    static void countsOfWhatIsThere() {
        due(1, withRules(2).counts(0, 0));
        due(1, withRules(2).counts(1, 0));
        refused(BAD, () -> withRules(2), x -> x.counts(-1, 0), x -> x.counts(2, 0), x -> x.counts(MIN, 0), x -> x.counts(MAX, 0));
        refused(BAD, () -> withRules(2), x -> x.counts(0, -1), x -> x.counts(0, 1), x -> x.counts(0, MIN), x -> x.counts(0, MAX));
        due(1, withRules(16).counts(15, 0));
    }

    // ---- what is due

    @Sentence("Terms 3: its TABLE: N of that table which COUNTS of the greatest number (without one: 0)")
    static void tableOfTheGreatestThatCounts() {
        CabinetTable x = withPapers(1);
        due(0, x.due(0, 0));
        rule(x, "table 0 1");
        due(1, x.due(0, 0));
        rule(x, "table 0 0 if by 1");
        due(1, x.due(0, 0));
        rule(x, "table 0 0");
        due(0, x.due(0, 0));
        rule(x, "strike 2");
        due(1, x.due(0, 0));
        rule(x, "strike 0");
        due(0, x.due(0, 0));
        // Even if there is none.
        CabinetTable y = withOffices(1);
        y.paper(0, 0, 0, 0, 0);
        due(0, y.due(0, 0));
    }

    @Sentence("Terms 3: AHEAD, SILENT, SHUT likewise (without one: REACH, 0, SHUTS)")
    static void withoutARule() {
        CabinetTable x = house();
        x.paper(3, 0, 0, 0, 99);
        int[] heads = {1, 3, 4};
        int[] without = {7, 0, 989};
        String[] words = {"ahead", "silent", "shut"};
        for (int i = 0; i < 3; i++) {
            int first = x.count(5);
            due(without[i], x.due(0, heads[i]));
            rule(x, words[i] + " 0 0 if by 1");
            due(without[i], x.due(0, heads[i]));
            rule(x, words[i] + " 2 99");
            due(99, x.due(0, heads[i]));
            rule(x, words[i] + " 0 0");
            due(0, x.due(0, heads[i]));
            rule(x, "strike " + (first + 2));
            due(99, x.due(0, heads[i]));
            rule(x, "strike " + (first + 1));
            due(without[i], x.due(0, heads[i]));
        }
    }

    @Sentence("Terms 3: NEED: all O of need that COUNT")
    static void allThatNeedNames() {
        CabinetTable x = withOffices(8);
        x.paper(0, 0, 0, 0, 0);
        due(0, x.due(0, 2));
        rule(x, "need 0 7");
        rule(x, "need 0 0");
        rule(x, "need 0 3 if by 1");
        rule(x, "need 0 7");
        due(0b10000001, x.due(0, 2));
        rule(x, "strike 0");
        due(0b10000001, x.due(0, 2));
        rule(x, "strike 3");
        due(0b00000001, x.due(0, 2));
    }

    @Sentence("Promise 22: Of a PAPER now: what 0 TABLE, 1 AHEAD, 2 NEED (bits), 3 SILENT, 4 SHUT. BAD.")
    static void whatIsDue() {
        due(0, withPapers(1).due(0, 0));
        due(300, withPapers(1).due(0, 4));
        refused(BAD, Situations::busy, x -> x.due(0, -1), x -> x.due(0, 5), x -> x.due(0, MIN), x -> x.due(5, MAX));
        refused(BAD, Situations::busy, x -> x.due(-1, 0), x -> x.due(6, 0), x -> x.due(MIN, 0), x -> x.due(MAX, 4));
        refused(BAD, Situations::house, x -> x.due(0, 0));
    }

    @Sentence("Promise 23: The RULE by which that is so (of NEED: the greatest). BAD; NONE.")
    static void whyIsTheGreatestThatCounts() {
        String[] words = {"table", "ahead", "need", "silent", "shut"};
        for (int what = 0; what < 5; what++) {
            CabinetTable x = withPapers(1);
            due(NONE, x.why(0, what));
            rule(x, words[what] + " 0 0");
            rule(x, words[what] + " 0 1");
            rule(x, words[what] + " 0 0 if by 1");
            due(1, x.why(0, what));
            rule(x, "strike 1");
            due(0, x.why(0, what));
            rule(x, "strike 0");
            due(NONE, x.why(0, what));
        }
        refused(NONE, () -> withPapers(1), x -> x.why(0, 0), x -> x.why(0, 4));
        refused(BAD, Situations::busy, x -> x.why(0, -1), x -> x.why(0, 5), x -> x.why(0, MIN), x -> x.why(5, MAX));
        refused(BAD, Situations::busy, x -> x.why(-1, 0), x -> x.why(6, 0), x -> x.why(MIN, 0), x -> x.why(MAX, 4));
    }

    // ---- quarrels

    private static CabinetTable withTexts(int papers, String... texts) {
        CabinetTable x = withPapers(papers);
        for (String text : texts) {
            rule(x, text);
        }
        return x;
    }

    @Sentence("Terms 3: the least PAPER for which both would COUNT, if no strike did (all else as it is)")
    static void theLeastPaperOfBoth() {
        CabinetTable x = withTexts(1, "shut 0 1 if by 1", "shut 0 2 unless thing 1", "strike 0", "strike 1");
        due(NONE, x.quarrel(0, 1));
        x.paper(0, 1, 1, 0, 0);
        due(NONE, x.quarrel(0, 1));
        x.paper(0, 1, 2, 0, 0);
        x.paper(0, 1, 2, 0, 0);
        // Both are struck, and it is one all the same.
        due(0, x.counts(0, 2));
        due(0, x.counts(1, 2));
        due(2, x.quarrel(0, 1));
        due(2, x.quarrel(1, 0));
        // What is not in force, or of another kind, is none.
        ruleFrom(x, 4, "shut 0 3");
        rule(x, "shut 1 4");
        until(x, 3);
        due(NONE, x.quarrel(0, 4));
        due(NONE, x.quarrel(1, 5));
        until(x, 4);
        due(1, x.quarrel(0, 4));
        due(0, x.quarrel(1, 4));
    }

    @Sentence("Promise 24: KIND: need, strike, or unlike HEADS; NONE: N alike, too.")
    static void kindAheadOfNone() {
        Making rules = () -> withTexts(1, "shut 0 1", "shut 0 1", "shut 0 2", "need 0 1", "need 0 2", "strike 0 if by 1", "strike 1 if by 1", "ahead 0 2");
        refused(NONE, rules, x -> x.quarrel(0, 1), x -> x.quarrel(1, 0));
        due(0, rules.make().quarrel(0, 2));
        refused(KIND, rules, x -> x.quarrel(3, 4), x -> x.quarrel(4, 3), x -> x.quarrel(5, 6), x -> x.quarrel(0, 3));
        refused(KIND, rules, x -> x.quarrel(5, 0), x -> x.quarrel(2, 7), x -> x.quarrel(7, 2), x -> x.quarrel(3, 5));
        String[] words = {"table", "ahead", "silent", "shut"};
        for (String word : words) {
            due(0, withTexts(1, word + " 0 0", word + " 0 1").quarrel(0, 1));
            due(NONE, withTexts(0, word + " 0 0", word + " 0 1").quarrel(0, 1));
        }
    }

    @Sentence("Promise 24: BAD: also if they are one; KIND")
    static void badAheadOfKind() {
        Making rules = () -> withTexts(1, "shut 0 1", "need 0 1", "strike 0");
        refused(BAD, rules, x -> x.quarrel(0, 0), x -> x.quarrel(1, 1), x -> x.quarrel(2, 2));
        refused(BAD, rules, x -> x.quarrel(-1, 0), x -> x.quarrel(0, -1), x -> x.quarrel(3, 1), x -> x.quarrel(1, 3));
        refused(BAD, rules, x -> x.quarrel(MIN, 0), x -> x.quarrel(0, MAX), x -> x.quarrel(3, 3));
        due(KIND, rules.make().quarrel(0, 2));
    }
}
