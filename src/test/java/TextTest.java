/** The sentences of 'II. THE TEXT': its bytes and tokens, the grammar, VARS, FAULTS and their order by place. */
public final class TextTest {
    private static final int NONE = ShowRings.NONE;
    private static final int LOW = Integer.MIN_VALUE;
    private static final int HIGH = Integer.MAX_VALUE;
    private static final int SYNTAX = 1;
    private static final int ROOM = 2;
    private static final String SIXTEEN_RULES = "points 1;".repeat(16);
    private static final Check CHECK = new Check("TextTest");

    public static void main(String[] args) {
        feedBytes();
        backBytes();
        text2000();
        readEmptiesTape();
        placeOfLatestRead();
        blanks();
        blanksOrNot();
        longestTokens();
        words();
        ints();
        intValues();
        signs();
        grammar();
        noBracketsOfConds();
        precedence();
        textEnd();
        firstByPlace();
        leastOfOnePlace();
        tokens400();
        rules16();
        brackets6();
        faultChangesNothing();
        inPlaceOfTheOneAhead();
        ruleNumbers();
        age();
        classVar();
        own();
        kinVar();
        partedVar();
        hasNot();
        relations();
        wrap();
        classes();
        bars();
        CHECK.end();
    }

    private static void due(String call, long got, long want) {
        CHECK.due(call, got, want);
    }

    private static void right(String text) {
        fault(text, 0, NONE);
    }

    /** A text's FAULT and its place, read by a new object. */
    private static void fault(String text, int fault, int place) {
        String told = text.length() < 100 ? text : text.substring(0, 40) + " .. " + text.substring(text.length() - 40);
        ShowRings x = new ShowRings();
        due("read() of <" + told + ">", Check.read(x, text), fault);
        due("place() of <" + told + ">", x.place(), place);
    }

    private static void feedBytes() {
        CHECK.sentence("Twenty bytes, the highest of a first, come behind the tape: how many it has");
        ShowRings x = new ShowRings();
        byte[] text = Check.bytes("title 1234 under 56;");
        due("feed", x.feed(Check.four(text, 0), Check.four(text, 1), Check.four(text, 2), Check.four(text, 3),
                Check.four(text, 4)), 20);
        due("read()", x.read(), 0);
        due("count(4)", x.count(4), 1);
        for (int i = 0; i < 20; i++) {
            ShowRings y = new ShowRings();
            int[] five = {0x20202020, 0x20202020, 0x20202020, 0x20202020, 0x20202020};
            five[i / 4] += 4 << 24 - 8 * (i % 4);
            due("feed", y.feed(five[0], five[1], five[2], five[3], five[4]), 20);
            due("a $ as byte " + i, y.read(), SYNTAX);
            due("its place", y.place(), i);
        }
        ShowRings z = new ShowRings();
        due("no byte", z.count(6), 0);
        for (int i = 1; i <= 100; i++) {
            due("feed", z.feed(0, 0, 0, 0, 0), 20 * i);
            due("bytes", z.count(6), 20 * i);
        }
        due("more than 2,000", z.feed(0, 0, 0, 0, 0), NONE);
        due("bytes", z.count(6), 2000);
    }

    private static void backBytes() {
        CHECK.sentence("The last n bytes of the tape go");
        ShowRings x = new ShowRings();
        Check.feed(x, "points 1;$$$");
        due("back(3)", x.back(3), 9);
        due("feed", x.feed(0x24242424, 0x20202020, 0x20202020, 0x20202020, 0x20202020), 29);
        due("back(20)", x.back(20), 9);
        due("read()", x.read(), 0);
        due("count(4)", x.count(4), 1);
        Check.feed(x, "points 1; bar");
        due("back(0)", x.back(0), 13);
        due("back(13)", x.back(13), 0);
        due("read() of nothing", x.read(), 0);
        due("count(4)", x.count(4), 0);
    }

    private static void text2000() {
        CHECK.sentence("THE TEXT has 2,000 bytes at most");
        String blanks = " ".repeat(1990);
        right(blanks + " points 1;");
        fault(blanks + "points 1;$", SYNTAX, 1999);
        fault(blanks + "points 1  ", SYNTAX, 2000);
        fault(" ".repeat(1999) + "7", SYNTAX, 1999);
        fault(" ".repeat(1994) + "points", SYNTAX, 2000);
        right(" ".repeat(2000));
        ShowRings x = new ShowRings();
        due("read() of no byte", x.read(), 0);
        due("place() of no byte", x.place(), NONE);
        due("count(4) of no byte", x.count(4), 0);
        Check.read(x, blanks + " points 1;");
        due("count(4) of 2,000 bytes", x.count(4), 1);
    }

    private static void readEmptiesTape() {
        CHECK.sentence("The tape, which is empty then, is read: 0, or the number of its FAULT");
        ShowRings x = new ShowRings();
        due("without a FAULT", Check.read(x, "points 1;"), 0);
        due("bytes", x.count(6), 0);
        due("back(1)", x.back(1), NONE);
        due("SYNTAX", Check.read(x, "points"), SYNTAX);
        due("bytes", x.count(6), 0);
        due("ROOM", Check.read(x, SIXTEEN_RULES + "points"), ROOM);
        due("bytes", x.count(6), 0);
        due("a new text begins at 0", Check.read(x, "$"), SYNTAX);
        due("its place", x.place(), 0);
        Check.feed(x, " ".repeat(2000));
        due("read() of a full tape", x.read(), 0);
        due("room again", x.feed(0, 0, 0, 0, 0), 20);
    }

    private static void placeOfLatestRead() {
        CHECK.sentence("The byte of the latest read()'s FAULT; NONE without");
        ShowRings x = new ShowRings();
        due("without a read()", x.place(), NONE);
        Check.read(x, "  bar bar");
        due("the first", x.place(), 6);
        Check.feed(x, "bar");
        due("still", x.place(), 6);
        x.read();
        due("the latest", x.place(), 3);
        x.read();
        due("one without a FAULT", x.place(), NONE);
        Check.read(x, "bar");
        Check.read(x, SIXTEEN_RULES + " bar");
        due("of ROOM", x.place(), 145);
        Check.read(x, "points 1;");
        due("NONE again", x.place(), NONE);
    }

    private static boolean isBlank(int symbol) {
        return symbol == 9 || symbol == 10 || symbol == 13 || symbol == 32;
    }

    private static void blanks() {
        CHECK.sentence("blanks (9, 10, 13, 32) .. all else, is no TOKEN");
        for (int symbol = 0; symbol < 256; symbol++) {
            char c = (char) symbol;
            boolean blank = isBlank(symbol);
            boolean digit = c >= '0' && c <= '9';
            boolean letter = c >= 'a' && c <= 'z';
            fault(c + "points 1;", blank ? 0 : SYNTAX, blank ? NONE : 0);
            fault("points 1;" + c, blank ? 0 : SYNTAX, blank ? NONE : 9);
            int between = letter ? 0 : c == '(' ? 8 : 6;
            fault("points" + c + "1;", blank || digit ? 0 : SYNTAX, blank || digit ? NONE : between);
            boolean joins = c == '+' || c == '-' || c == '*';
            fault("points 1" + c, SYNTAX, blank || digit || joins ? 9 : c == ';' ? NONE : 8, c == ';');
        }
    }

    /** As fault(), but with no FAULT at all where the text is complete. */
    private static void fault(String text, int fault, int place, boolean complete) {
        fault(text, complete ? 0 : fault, complete ? NONE : place);
    }

    private static void blanksOrNot() {
        CHECK.sentence("with blanks between or not");
        right("points1if1<2and3<=4or(5)!=6;title1under2;class1if1==1;bar if(age)*sex+1-breed<2;");
        right("\tpoints\n1\rif 1  <\t\t2 and\n\n3\r\r<= 4 or ( 5 ) != 6 ; title 1 under 2 ;\n");
        fault("barif 1 == 1;", SYNTAX, 0);
        fault("bar if1 == 1and2 == 2ors == 1;", SYNTAX, 21);
        fault("po ints 1;", SYNTAX, 0);
        fault("points 1 2;", SYNTAX, 9);
        right("points 12;");
    }

    private static void longestTokens() {
        CHECK.sentence("TOKENS, the longest that can be");
        fault("bar if 1 < = 1;", SYNTAX, 11);
        right("bar if 1 <= 1;");
        fault("bar if 1 <== 1;", SYNTAX, 11);
        fault("bar if 1 === 1;", SYNTAX, 11);
        fault("bar if 1 !== 1;", SYNTAX, 11);
        fault("bar if 1 = = 1;", SYNTAX, 9);
        fault("bar if 1 ! = 1;", SYNTAX, 9);
        fault("bar if 1 =< 1;", SYNTAX, 9);
        fault("bar if 1 << 1;", SYNTAX, 10);
        fault("points ageage;", SYNTAX, 7);
        fault("points age1;", SYNTAX, 10);
        fault("points 1age;", SYNTAX, 8);
        fault("points 12345;", SYNTAX, 7);
    }

    private static void words() {
        CHECK.sentence("WORDS (letters a .. z, 8 at most)");
        String[] vars = {"age", "sex", "breed", "group", "class", "own", "kin", "parted", "beaten"};
        for (String var : vars) {
            right("points " + var + ";");
            fault("points " + var + "a;", SYNTAX, 7);
            fault("points z" + var + ";", SYNTAX, 7);
            fault("points z" + var.substring(1) + ";", SYNTAX, 7);
            fault("points " + var.substring(1) + ";", SYNTAX, 7);
            fault("points " + var.substring(0, var.length() - 1) + ";", SYNTAX, 7);
            fault("points " + var.toUpperCase() + ";", SYNTAX, 7);
            fault("points " + var + "abcdefgh".substring(var.length()) + ";", SYNTAX, 7);
            fault("points " + var + "abcdefghi".substring(var.length()) + ";", SYNTAX, 7);
            fault("points 1 " + var + ";", SYNTAX, 9);
        }
        for (String word : new String[] {"bar", "if", "points", "title", "under", "or", "and"}) {
            fault("points " + word + ";", SYNTAX, 7);
        }
        fault("points age`;", SYNTAX, 10);
        fault("points age{;", SYNTAX, 10);
        fault("points abcdefgh;", SYNTAX, 7);
        fault("points abcdefghi;", SYNTAX, 7);
        fault("points" + "abcdefgh".repeat(20), SYNTAX, 0);
    }

    private static void ints() {
        CHECK.sentence("INTS (1 to 4 digits)");
        for (String digits : new String[] {"0", "9", "00", "99", "000", "999", "0000", "9999", "0007"}) {
            right("points " + digits + ";");
            right("class " + digits + " if 1 == 1;");
            right("title " + digits + " under " + digits + ";");
        }
        for (String digits : new String[] {"00000", "00001", "10000", "99999", "123456", "1".repeat(100)}) {
            fault("points " + digits + ";", SYNTAX, 7);
            fault("class " + digits + " if 1 == 1;", SYNTAX, 6);
            fault("title " + digits + " under 1;", SYNTAX, 6);
            fault("title 1 under " + digits + ";", SYNTAX, 14);
        }
        fault("points -1;", SYNTAX, 7);
        fault("class -1 if 1 == 1;", SYNTAX, 6);
        fault("points /;", SYNTAX, 7);
        fault("points :;", SYNTAX, 7);
    }

    private static void intValues() {
        CHECK.sentence("class INT .. the INT of the first class RULE that holds");
        String[] digits = {"0", "0000", "7", "0007", "10", "0100", "1000", "9999", "1234"};
        int[] values = {0, 0, 7, 7, 10, 100, 1000, 9999, 1234};
        for (int i = 0; i < digits.length; i++) {
            ShowRings x = Worlds.oneBreed(1, "");
            Check.read(x, "class " + digits[i] + " if 1 == 1; points " + digits[i] + ";");
            due("class " + digits[i], x.classed(0, 0), values[i]);
            x.fact(0, 0, 0, 1);
            due("points " + digits[i], x.points(0, 0, 1), values[i]);
        }
    }

    private static void signs() {
        CHECK.sentence("SIGNS ; + - * == != < <= ( )");
        right("points (1 + 2 - 3) * 4 if 1 == 2 or 1 != 2 or 1 < 2 or 1 <= 2;");
        for (String sign : new String[] {">", ">=", "=", "!", "/", "%", "&", "|", "&&", "||", "[", "]", "{", "}", ",", ".",
            ":", "'", "\"", "_", "#"}) {
            fault("points 1 " + sign + " 2;", SYNTAX, 9);
            fault("bar if 1 " + sign + " 2;", SYNTAX, 9);
        }
    }

    private static final String[] TOKENS = {"bar", "class", "points", "title", "if", "under", "or", "and", "age", "sex",
        "breed", "group", "own", "kin", "parted", "beaten", "1", ";", "+", "-", "*", "==", "!=", "<", "<=", "(", ")", "zzz"};
    private static final String RULE_STARTS = " bar class points title ";
    private static final String UNIT_STARTS = " 1 age sex breed group class own kin parted beaten ( ";
    private static final String BEHIND_LEFT = " + - * == != < <= ";
    private static final String BEHIND_RIGHT = " + - * and or ; ";
    private static final String BEHIND_TERM = " + - * if ; ";
    private static final String BEHIND_INNER = " + - * ) ";

    /** The beginning of a text, and the tokens with which some text goes on from there. */
    private static final String[][] BEGINNINGS = {
        {"", RULE_STARTS}, {"points 1; ", RULE_STARTS}, {"bar if 1 == 1; ", RULE_STARTS},
        {"class 1 if 1 == 1; ", RULE_STARTS}, {"title 1 under 1; ", RULE_STARTS}, {"points 1 if 1 == 1; ", RULE_STARTS},
        {"bar ", " if "}, {"bar if ", UNIT_STARTS}, {"bar if 1 ", BEHIND_LEFT}, {"bar if age ", BEHIND_LEFT},
        {"bar if 1 == ", UNIT_STARTS}, {"bar if 1 != ", UNIT_STARTS}, {"bar if 1 < ", UNIT_STARTS},
        {"bar if 1 <= ", UNIT_STARTS}, {"bar if 1 == 1 ", BEHIND_RIGHT}, {"bar if 1 == age ", BEHIND_RIGHT},
        {"bar if 1 == 1 or ", UNIT_STARTS}, {"bar if 1 == 1 and ", UNIT_STARTS}, {"bar if 1 == 1 or 1 ", BEHIND_LEFT},
        {"bar if 1 == 1 and 1 ", BEHIND_LEFT}, {"bar if 1 == 1 and 1 < 1 ", BEHIND_RIGHT},
        {"bar if ( ", UNIT_STARTS}, {"bar if ( 1 ", BEHIND_INNER}, {"bar if ( 1 ) ", BEHIND_LEFT},
        {"bar if 1 == ( ", UNIT_STARTS}, {"bar if 1 == ( 1 ", BEHIND_INNER}, {"bar if 1 == ( 1 ) ", BEHIND_RIGHT},
        {"class ", " 1 "}, {"class 1 ", " if "}, {"class 1 if ", UNIT_STARTS}, {"class 1 if 1 ", BEHIND_LEFT},
        {"class 1 if 1 == 1 ", BEHIND_RIGHT}, {"points ", UNIT_STARTS}, {"points 1 ", BEHIND_TERM},
        {"points class ", BEHIND_TERM}, {"points 1 + ", UNIT_STARTS}, {"points 1 - ", UNIT_STARTS},
        {"points 1 * ", UNIT_STARTS}, {"points 1 + 1 ", BEHIND_TERM}, {"points 1 * 1 ", BEHIND_TERM},
        {"points ( ", UNIT_STARTS}, {"points ( 1 ", BEHIND_INNER}, {"points ( ( 1 ", BEHIND_INNER},
        {"points ( ( 1 ) ", BEHIND_INNER}, {"points ( 1 ) ", BEHIND_TERM}, {"points 1 if ", UNIT_STARTS},
        {"points 1 if 1 ", BEHIND_LEFT}, {"points 1 if 1 == 1 ", BEHIND_RIGHT}, {"title ", " 1 "}, {"title 1 ", " under "},
        {"title 1 under ", " 1 "}, {"title 1 under 1 ", " ; "}};

    private static void grammar() {
        CHECK.sentence("SYNTAX: a TOKEN, or what is none, with which no text goes on");
        for (String[] row : BEGINNINGS) {
            for (String token : TOKENS) {
                String text = row[0] + token;
                if (!row[1].contains(" " + token + " ")) {
                    fault(text, SYNTAX, row[0].length());
                } else {
                    fault(text, SYNTAX, text.length(), token.equals(";"));
                }
            }
            fault(row[0] + "$", SYNTAX, row[0].length());
            fault(row[0], SYNTAX, row[0].length(), row[1].equals(RULE_STARTS));
        }
    }

    private static void noBracketsOfConds() {
        CHECK.sentence("UNIT: INT | VAR | '(' E ')'");
        fault("bar if (1 == 1);", SYNTAX, 10);
        fault("bar if (1 == 1) or 1 == 1;", SYNTAX, 10);
        fault("bar if 1 == (1 or 1);", SYNTAX, 15);
        right("bar if (((1))) == ((age) * (2 + 1));");
        fault("points () + 1;", SYNTAX, 8);
        fault("points (1)) + 1;", SYNTAX, 10);
        fault("points (1 + 1;", SYNTAX, 13);
        fault("points (1)(1);", SYNTAX, 10);
    }

    private static int valueOf(String term) {
        ShowRings x = Worlds.oneBreed(1, "points " + term + ";");
        x.fact(0, 0, 0, 1);
        return x.points(0, 0, 1);
    }

    private static boolean holds(String cond) {
        ShowRings x = new ShowRings();
        Check.read(x, "class 1 if " + cond + ";");
        x.breed(0, 1, 0, 99);
        x.dog(0, 0, 0, 0, 0);
        x.show(0);
        return x.classed(0, 0) == 1;
    }

    private static void precedence() {
        CHECK.sentence("COND: ALL {'or' ALL}. ALL: REL {'and' REL}. E: PART {('+' | '-') PART}. PART: UNIT {'*' UNIT}");
        String[] terms = {"10 - 3 - 2", "10 - (3 - 2)", "2 + 3 * 4", "2 * 3 + 4", "(2 + 3) * 4", "2 * (3 + 4)", "2 - 3 * 4 + 5",
            "2 * 3 * 4", "20 - 2 * 3 * 2 - 1", "((((((5))))))", "1 - 2"};
        int[] values = {5, 9, 14, 10, 20, 14, -5, 24, 7, 5, -1};
        for (int i = 0; i < terms.length; i++) {
            due(terms[i], valueOf(terms[i]), values[i]);
        }
        String[] conds = {"1 == 1 or 1 == 1 and 1 == 2", "1 == 2 and 1 == 1 or 1 == 1", "1 == 1 and 1 == 2 or 1 == 2",
            "1 == 2 or 1 == 1 and 1 == 1", "1 == 1 or 1 == 2 or 1 == 2", "1 == 2 or 1 == 2 or 1 == 1",
            "1 == 1 and 1 == 1 and 1 == 2", "1 == 2 and 1 == 1 and 1 == 1", "1 == 1 and 1 == 1 and 1 == 1",
            "1 + 1 == 2 and 2 * 2 == 4", "2 == 1 + 1 or 1 == 2", "1 == 1 and 1 != 2 and 1 < 2 and 1 <= 2",
            "1 <= 2 and 1 == 1", "1 != 2 and 1 < 2", "1 != 1 or 1 < 1 or 2 <= 1 or 1 == 2"};
        boolean[] hold = {true, true, false, true, true, true, false, false, true, true, true, true, true, true, false};
        for (int i = 0; i < conds.length; i++) {
            CHECK.due(conds[i], holds(conds[i]), hold[i]);
        }
    }

    private static void textEnd() {
        CHECK.sentence("its place (a byte; the text's end: its length)");
        fault("points", SYNTAX, 6);
        fault("points ", SYNTAX, 7);
        fault("points 1", SYNTAX, 8);
        fault("points 1 \n", SYNTAX, 10);
        fault("  bar", SYNTAX, 5);
        fault("b", SYNTAX, 0);
        fault("points 1; b", SYNTAX, 10);
        fault(" $", SYNTAX, 1);
        right("");
        right(" ");
        right("points 1;");
    }

    private static void firstByPlace() {
        CHECK.sentence("FAULTS, the first by its place");
        fault("points 1 1; $", SYNTAX, 9);
        fault("$ points 1 1;", SYNTAX, 0);
        fault("points $ (((((((1))))))); ", SYNTAX, 7);
        fault("points (((((((1 $)))))));", ROOM, 13);
        fault(SIXTEEN_RULES + " points $;", ROOM, 145);
        fault(SIXTEEN_RULES + " points", ROOM, 145);
        fault(SIXTEEN_RULES.substring(0, 143) + " $; points 1;", SYNTAX, 144);
        fault("points 1" + "+1".repeat(100) + "$" + "+1".repeat(200), SYNTAX, 208);
        fault("points 1" + "+1".repeat(200) + "$", ROOM, 406);
        fault("points (((((((1" + "+1".repeat(200), ROOM, 13);
    }

    private static void leastOfOnePlace() {
        CHECK.sentence("of one place the least");
        fault(SIXTEEN_RULES + " age", SYNTAX, 145);
        fault(SIXTEEN_RULES + " if", SYNTAX, 145);
        fault(SIXTEEN_RULES + " $", SYNTAX, 145);
        fault(SIXTEEN_RULES + " 12345", SYNTAX, 145);
        fault("points ((((((1(", SYNTAX, 14);
        fault("points ((((((1) (", SYNTAX, 16);
        fault("bar ((((((( 1", SYNTAX, 4);
        String full = "points 1" + "+1".repeat(199);
        fault(full + " age", SYNTAX, 407);
        fault(full + " (", SYNTAX, 407);
        fault(full + " $", SYNTAX, 407);
        fault(full + " 12345", SYNTAX, 407);
        fault(full, SYNTAX, 406);
    }

    private static void tokens400() {
        CHECK.sentence("ROOM: a 401st TOKEN");
        String ends = "title 1 under 1;" + "points 1 if 1 < 1;" + "points 1" + "+1".repeat(192) + ";";
        due("tokens", tokensOf(ends), 399);
        right(ends);
        String full = "title 1 under 1;" + "points 1 if 1 < 1+1;" + "points 1" + "+1".repeat(192);
        due("tokens", tokensOf(full), 400);
        fault(full + ";", ROOM, full.length());
        String all = "title 1 under 1;" + "bar if 1 < 1;" + "points 1" + "+1".repeat(193) + ";";
        due("tokens", tokensOf(all), 400);
        right(all);
        right(all + "  \n");
        for (String token : new String[] {"bar", "class", "points", "title"}) {
            fault(all + token, ROOM, all.length());
            fault(all + "\t" + token + " $", ROOM, all.length() + 1);
        }
        String open = "points 1" + "+1".repeat(199);
        due("tokens", tokensOf(open), 400);
        for (String token : new String[] {";", "+", "-", "*", "if"}) {
            fault(open + token, ROOM, open.length());
        }
        String left = "points 1 + 1" + "+1".repeat(197) + "+";
        due("tokens", tokensOf(left), 399);
        fault(left + "1;", ROOM, left.length() + 1);
        fault(left + "+1;", SYNTAX, left.length());
        String unit = "title 1 under 1;" + "points 1" + "+1".repeat(196) + "+";
        due("tokens", tokensOf(unit), 400);
        for (String token : new String[] {"1", "age", "("}) {
            fault(unit + token, ROOM, unit.length());
        }
        String inCond = "title 1 under 1;" + "points 1 if 1 < 1" + "+1".repeat(194);
        due("tokens", tokensOf(inCond), 399);
        right(inCond + ";");
        ShowRings x = new ShowRings();
        Check.read(x, all);
        due("count(4) of 400 tokens", x.count(4), 3);
    }

    private static int tokensOf(String text) {
        return text.replaceAll("[a-z]+|[0-9]+|[<;+]", "T").replaceAll("[^T]", "").length();
    }

    private static void rules16() {
        CHECK.sentence("ROOM: a 17th RULE (at its first TOKEN)");
        right(SIXTEEN_RULES);
        right(SIXTEEN_RULES + " ");
        for (String rule : new String[] {"bar if 1 == 1;", "class 1 if 1 == 1;", "points 1;", "title 1 under 1;"}) {
            right(rule.repeat(16));
            fault(rule.repeat(17), ROOM, 16 * rule.length());
            fault(rule.repeat(16) + "  " + rule, ROOM, 16 * rule.length() + 2);
            fault(SIXTEEN_RULES + rule, ROOM, 144);
            fault(SIXTEEN_RULES + rule.substring(0, rule.indexOf(' ')), ROOM, 144);
            fault(SIXTEEN_RULES + rule.substring(0, 2), SYNTAX, 144);
        }
        for (int rules = 0; rules <= 16; rules++) {
            ShowRings x = new ShowRings();
            due("read() of " + rules, Check.read(x, "points 1;".repeat(rules)), 0);
            due("count(4) of " + rules, x.count(4), rules);
        }
    }

    private static void brackets6() {
        CHECK.sentence("ROOM: a 7th ( within one another (at it)");
        right("points ((((((1))))));");
        fault("points (((((((1)))))));", ROOM, 13);
        fault("points (((((((", ROOM, 13);
        fault("points ((((((", SYNTAX, 13);
        fault("points ((((((((((1", ROOM, 13);
        right("points (1) + (2) + (3) + (4) + (5) + (6) + (7) + (8);");
        right("points ((((((1)))))) * ((((((2))))));");
        right("points (((((1 + (2) * (3) - (4)))))) if ((((((1)))))) == ((((((2))))));");
        fault("points (((((1 + (2) * ((3)) - (4))))));", ROOM, 23);
        fault("bar if (((((((1))))))) == 1;", ROOM, 13);
        fault("bar if 1 == (((((((1)))))));", ROOM, 18);
        fault("class 1 if 1 == 1 and (((((((1))))))) == 1;", ROOM, 28);
        fault("points 1 + (((((((1)))))));", ROOM, 17);
        fault("points 1 * (((((((1)))))));", ROOM, 17);
        right("points ((((((1))))));".repeat(16));
        fault("points ((((((1))))); ", SYNTAX, 19);
    }

    private static void faultChangesNothing() {
        CHECK.sentence("A text with a FAULT changes nothing");
        for (String wrong : new String[] {"class 9 if 1 == 1; bar if 1 == 1; points 9; title 0 under 0; $",
            "class 9 if 1 == 1; bar if 1 == 1; points 9; title 0 under 0; points (((((((1)))))));",
            "class 9 if 1 == 1; bar if 1 == 1;" + "points 9;".repeat(15), "$", "class 9 if 1 == 1",
            "points 9" + "+1".repeat(200) + ";"}) {
            ShowRings x = Worlds.oneBreed(2, "bar if own == 1; points 5; title 4 under 1;");
            x.fact(0, 0, 0, 1);
            CHECK.due("read()", Check.read(x, wrong) != 0, true);
            due("count(4)", x.count(4), 4);
            due("classed", x.classed(0, 0), 7);
            due("barred", x.barred(5, 0, 0, 1), NONE);
            due("barred its OWNER", x.barred(0, 0, 0, 1), 1);
            due("points", x.points(0, 0, 1), 5);
            due("title", x.title(0, 1), 0);
            due("title of the other", x.title(1, 1), NONE);
            due("a right one behind", Check.read(x, "points 6;"), 0);
            due("points", x.points(0, 0, 1), 6);
        }
    }

    private static void inPlaceOfTheOneAhead() {
        CHECK.sentence("else it is in place of the one ahead, for all SHOWS (ENTRIES, what was PLANNED stay)");
        ShowRings x = Worlds.manyShows(2, new int[] {8, 9}, "points 5; points 6; title 1 under 1;");
        x.fact(0, 0, 0, 1);
        x.fact(0, 1, 1, 1);
        due("RULES ahead", x.count(4), 4);
        due("a text", Check.read(x, "class 2 if 1 == 1; points 7; bar if age < 15;"), 0);
        due("RULES", x.count(4), 3);
        due("CLASS in the first SHOW", x.classed(0, 0), 2);
        due("CLASS in the second SHOW", x.classed(1, 0), 2);
        due("BARRED in the first SHOW", x.counts(0, 0, 2), 6);
        due("POINTS in the second SHOW", x.points(1, 1, 2), 7);
        due("no title RULE", x.title(1, 2), NONE);
        due("an empty text", Check.read(x, ""), 0);
        due("no RULES", x.count(4), 0);
        due("no CLASS", x.classed(0, 0), -1);
        due("ENTRIES of the first stay", x.count(10), 2);
        due("ENTRIES of the second stay", x.count(11), 2);
        due("an ENTRY without a CLASS COUNTS", x.counts(0, 0, 2), 0);
        due("a WINNER without RULES", x.winner(0, 0, 2), 0);
        due("POINTS without RULES", x.points(0, 0, 2), 0);
        int[][] planned = {{0, 8, 0, 2}, {0, 9, 0, 2}};
        for (int s = 0; s < 2; s++) {
            for (int what = 0; what < 4; what++) {
                due("planned(" + s + ", 0, " + what + ")", x.planned(s, 0, what), planned[s][what]);
            }
        }
    }

    private static void ruleNumbers() {
        CHECK.sentence("RULES are numbered from 0 on");
        for (int first = 0; first < 16; first++) {
            ShowRings x = new ShowRings();
            x.breed(0, 1, 0, 99);
            x.dog(0, 0, 0, 0, 0);
            x.show(0);
            Check.read(x, "points 1;".repeat(first) + "bar if 1 == 1;" + "bar if 1 == 1;".repeat(15 - first));
            due("barred", x.barred(0, 0, 0, 0), first);
        }
        ShowRings y = new ShowRings();
        y.breed(0, 1, 0, 99);
        y.dog(0, 0, 0, 0, 0);
        y.show(0);
        Check.read(y, "bar if 1 == 2; class 1 if 1 == 1; title 1 under 1; points 1; bar if 1 == 1; bar if 1 == 1;");
        due("among all kinds", y.barred(0, 0, 0, 0), 4);
    }

    /** A DOG with the CLASS, JUDGE and DAYS that VARS are made of; what the bar RULE's term comes to, from 0 to 99. */
    private static int barTerm(ShowRings x, int judge, int n, String term) {
        for (int value = 0; value < 100; value++) {
            if (value % 16 == 0) {
                StringBuilder text = new StringBuilder();
                for (int i = 0; i < 16; i++) {
                    text.append("bar if ").append(term).append(" == ").append(value + i).append(';');
                }
                Check.read(x, text.toString());
            }
            if (x.barred(judge, 0, 0, n) == value % 16) {
                return value;
            }
        }
        return NONE;
    }

    private static void age() {
        CHECK.sentence("age in days (below 0: 0)");
        int[][] rows = {{50, 48, 2}, {50, 49, 1}, {50, 50, 0}, {50, 51, 0}, {50, 9999, 0}, {0, 0, 0}, {0, 9999, 0}, {99, 0, 99}};
        for (int[] row : rows) {
            ShowRings x = new ShowRings();
            x.breed(0, 1, 0, 99);
            x.dog(0, row[1], 0, 0, 0);
            x.show(row[0]);
            due("age of one born on " + row[1] + " on " + row[0], barTerm(x, 0, 0, "age"), row[2]);
        }
        ShowRings y = new ShowRings();
        y.breed(0, 1, 0, 99);
        y.dog(0, 50, 0, 0, 0);
        y.show(49);
        y.show(51);
        Check.read(y, "class 1 if age < 0; class 2 if age == 0; class 3 if age == 1;");
        due("born a DAY later", y.classed(0, 0), 2);
        due("born a DAY ahead", y.classed(1, 0), 3);
    }

    private static void classVar() {
        CHECK.sentence("CLASS (below) .. -1 if none does");
        ShowRings x = new ShowRings();
        x.breed(0, 1, 0, 99);
        x.dog(0, 0, 0, 0, 0);
        x.dog(0, 1, 0, 0, 0);
        x.dog(0, 2, 0, 0, 0);
        x.show(2);
        Check.read(x, "bar if class == 0; bar if class == 9999; bar if class + 1 == 0; class 0 if age == 2; class 9999 if age == 1;");
        due("CLASS 0", x.barred(0, 0, 0, 0), 0);
        due("CLASS 9999", x.barred(0, 0, 1, 0), 1);
        due("no CLASS", x.barred(0, 0, 2, 0), 2);
    }

    /** A DOG of OWNER 4, sold to 5 from DAY 50 on and to 6 from 90 on; a SHOW on DAY 100. */
    private static ShowRings sold() {
        ShowRings x = new ShowRings();
        x.breed(0, 1, 0, 99);
        x.dog(0, 0, 0, 4, 0);
        x.show(100);
        x.owned(0, 5, 50);
        x.owned(0, 6, 90);
        x.owned(0, 7, 101);
        return x;
    }

    private static void own() {
        CHECK.sentence("own 1 if the JUDGE is its OWNER, else 0");
        int[][] rows = {{4, 0, 1}, {4, 1, 0}, {5, 0, 0}, {5, 1, 1}, {5, 2, 0}, {6, 2, 1}, {6, 3, 1}, {7, 3, 0}};
        for (int[] row : rows) {
            due("own of " + row[0] + " as KNOWN by " + row[1], barTerm(sold(), row[0], row[1], "own"), row[2]);
        }
    }

    private static void kinVar() {
        CHECK.sentence("kin 1 if its OWNER and the JUDGE are KIN, else 0");
        int[][] rows = {{8, 0, 1}, {8, 1, 0}, {8, 2, 1}, {8, 3, 1}, {9, 0, 0}, {9, 1, 1}, {9, 2, 0}, {4, 0, 0}, {6, 2, 0}};
        for (int[] row : rows) {
            ShowRings x = sold();
            x.kin(4, 8);
            x.kin(8, 6);
            x.kin(9, 5);
            x.kin(9, 7);
            due("kin of " + row[0] + " as KNOWN by " + row[1], barTerm(x, row[0], row[1], "kin"), row[2]);
        }
    }

    private static void partedVar() {
        CHECK.sentence("of a JUDGE and it: .. PARTED");
        int[][] rows = {{4, 0, 0}, {4, 1, 52}, {4, 3, 52}, {5, 1, 0}, {5, 2, 12}, {5, 3, 12}, {6, 3, 0}, {7, 3, 0}, {8, 3, 0}};
        for (int[] row : rows) {
            due("parted + 1 of " + row[0] + " as KNOWN by " + row[1], barTerm(sold(), row[0], row[1], "parted + 1"), row[2]);
        }
    }

    private static void hasNot() {
        CHECK.sentence("What a RULE has not (below) is 0");
        for (String var : new String[] {"class", "own", "kin", "parted", "beaten"}) {
            ShowRings x = Worlds.oneBreed(3, "bar if age == 9999;");
            x.fact(0, 0, 0, 1);
            x.winner(0, 0, 1);
            x.barred(0, 0, 0, 1);
            Check.read(x, "class 1 if " + var + " == 0; class 2 if 1 == 1; points 1;");
            x.points(0, 0, 1);
            due("a class RULE's " + var, x.classed(0, 0), 1);
        }
        ShowRings y = Worlds.oneBreed(3, "points beaten;");
        y.fact(0, 0, 0, 1);
        due("beaten", y.points(0, 0, 1), 2);
        due("a bar RULE's beaten", barTerm(y, 0, 1, "beaten"), 0);
        for (String var : new String[] {"own", "kin", "parted"}) {
            ShowRings z = Worlds.oneBreed(2, "points " + var + " + 5;");
            z.kin(11, 0);
            z.fact(0, 0, 0, 1);
            z.owned(0, 11, 90);
            z.owned(0, 0, 95);
            for (int n = 1; n <= 3; n++) {
                due("a points RULE's " + var + " as KNOWN by " + n, z.points(0, 0, n), 5);
            }
            z.owned(0, 11, 96);
            due("a points RULE's " + var + " of its OWNER", z.points(0, 0, 4), 5);
            Check.read(z, "points 8 if " + var + " == 0; points 9;");
            due("a points RULE's COND's " + var, z.points(0, 0, 2), 8);
        }
    }

    private static void relations() {
        CHECK.sentence("REL: E ('==' | '!=' | '<' | '<=') E");
        String[] signs = {"==", "!=", "<", "<="};
        String[] most = {"0", "1", "0 - 1", "8192 * 8192 * 32", "8192 * 8192 * 32 - 1", "9999"};
        int[] values = {0, 1, -1, LOW, HIGH, 9999};
        for (int i = 0; i < most.length; i++) {
            for (int k = 0; k < most.length; k++) {
                boolean[] hold = {values[i] == values[k], values[i] != values[k], values[i] < values[k], values[i] <= values[k]};
                for (int s = 0; s < signs.length; s++) {
                    String cond = most[i] + " " + signs[s] + " " + most[k];
                    CHECK.due(cond, holds(cond), hold[s]);
                }
            }
        }
    }

    private static void wrap() {
        CHECK.sentence("Ints of 32 bits that wrap");
        String low = "8192 * 8192 * 32";
        due("2^31", valueOf(low), LOW);
        due("2^31 - 1", valueOf(low + " - 1"), HIGH);
        due("2^31 - 1 + 1", valueOf(low + " - 1 + 1"), LOW);
        due("-2^31 - 1", valueOf("0 - " + low + " - 1"), HIGH);
        due("-(-2^31)", valueOf("0 - " + low), LOW);
        due("2^32", valueOf("8192 * 8192 * 64"), 0);
        due("2^32 + 1", valueOf("8192 * 8192 * 64 + 1"), 1);
        due("9999^3", valueOf("9999 * 9999 * 9999"), 9999 * 9999 * 9999);
        due("(2^31 - 1) * 2", valueOf("(" + low + " - 1) * 2"), -2);
        due("(2^31 - 1)^2", valueOf("(" + low + " - 1) * (" + low + " - 1)"), 1);
        CHECK.due("a COND", holds("8192 * 8192 * 32 < 0 and 0 < 8192 * 8192 * 32 - 1 and 8192 * 8192 * 64 == 0"), true);
        ShowRings x = Worlds.oneBreed(1, "");
        Check.read(x, "bar if " + low + " - 1 < " + low + " - 2; bar if " + low + " < 0;");
        due("a bar RULE", x.barred(0, 0, 0, 0), 1);
    }

    private static void classes() {
        CHECK.sentence("CLASS: the INT of the first class RULE that holds (age, sex, breed, group); -1 if none does");
        ShowRings x = new ShowRings();
        for (int b = 0; b < 6; b++) {
            x.breed(b % 3, 1, 0, 99);
            x.dog(b, 10, b % 2, 0, 0);
        }
        x.show(30);
        x.show(31);
        Check.read(x, "points 1; class 5 if breed == 5; class 3 if age == 21; class 9 if group == 1 and sex == 1; bar if 1 == 1;"
                + "class 0 if sex == 1; class 1 if group == 1;");
        int[] first = {-1, 9, -1, 0, 1, 5};
        for (int d = 0; d < 6; d++) {
            due("on 30, DOG " + d, x.classed(0, d), first[d]);
            due("on 31, DOG " + d, x.classed(1, d), d == 5 ? 5 : 3);
            due("enter", x.enter(0, d), first[d] == -1 ? -2 : first[d]);
        }
        due("ENTRIES", x.count(10), 4);
        Check.read(x, "points 1;");
        due("no class RULE", x.classed(0, 1), -1);
        Check.read(x, "class 1 if 1 == 2;".repeat(15) + "class 6 if 1 == 1;");
        due("the sixteenth", x.classed(0, 1), 6);
        Check.read(x, "class 1 if 1 == 2;".repeat(16));
        due("none of sixteen", x.classed(0, 1), -1);
    }

    private static void bars() {
        CHECK.sentence("BARRED: a bar RULE holds (all VARS but beaten)");
        String[] hold = {"age == 90", "sex == 1", "breed == 0", "group == 1", "class == 7", "own == 0", "kin == 1",
            "parted == 41", "beaten == 0"};
        for (String cond : hold) {
            ShowRings x = Worlds.oneBreed(10, "bar if " + cond + ";");
            x.kin(3, 1);
            x.owned(1, 3, 50);
            x.owned(1, 1, 60);
            due("bar if " + cond, x.barred(3, 0, 1, 2), 1);
            Check.read(x, "class 7 if 1 == 1; bar if " + cond.replace("==", "!=") + ";");
            due("bar if not " + cond, x.barred(3, 0, 1, 2), NONE);
        }
    }
}
