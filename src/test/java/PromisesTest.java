/** Each promise of the document by itself: ordinary calls, the edges that it names, and wrong calls. */
public final class PromisesTest {
    private static final int NONE = ShowRings.NONE;
    private static final int LOW = Integer.MIN_VALUE;
    private static final int HIGH = Integer.MAX_VALUE;
    /** Twenty blanks are five of these. */
    private static final int BLANKS = 0x20202020;
    private static final Check CHECK = new Check("PromisesTest");

    private static void due(String call, long got, long want) {
        CHECK.due(call, got, want);
    }

    private static void due(String call, boolean got, boolean want) {
        CHECK.due(call, got, want);
    }

    public static void main(String[] args) {
        promise1();
        promise2();
        promise3();
        promise4Tokens();
        promise4Grammar();
        promise4Room();
        promise4InPlace();
        promise5();
        promise6();
        promise7();
        promise8();
        promise9();
        promise10();
        promise11();
        promise12();
        promise13();
        promise14();
        promise15();
        promise15Orders();
        promise16();
        promise17();
        promise17Vars();
        promise18();
        promise19();
        promise20();
        promise20Measures();
        promise21();
        promise22();
        promise22Wrap();
        promise23();
        promise24();
        promise25();
        promise26();
        promise27();
        wrongNumbersNeverHurt();
        CHECK.end();
    }

    /** A show on day 100 with one breed of heights 20 .. 40 and so many dogs of it, all entered, judged by 11. */
    private static ShowRings oneBreed(int dogs, String rules) {
        ShowRings x = new ShowRings();
        due("read() of " + rules, Check.read(x, "class 7 if 1 == 1; " + rules), 0);
        x.breed(1, 2, 20, 40);
        x.show(100);
        for (int d = 0; d < dogs; d++) {
            x.dog(0, 10 * d, d % 2, d % 10, d % 10);
            x.enter(0, d);
        }
        x.permits(11, 1);
        x.plan(0, 0);
        return x;
    }

    private static void promise1() {
        ShowRings x = new ShowRings();
        int[] want = {0, 0, 0, 0, 0, 1, 0};
        for (int what = 0; what < want.length; what++) {
            due("1: count(" + what + ")", x.count(what), want[what]);
        }
        due("1: place()", x.place(), NONE);
        due("1: dog", x.dog(0, 0, 0, 0, 0), NONE);
        due("1: enter", x.enter(0, 0), NONE);
        due("1: winner", x.winner(0, 0, 0), NONE);
        due("1: NONE", ShowRings.NONE, -1);
    }

    private static void promise2() {
        ShowRings x = new ShowRings();
        for (int i = 1; i <= 100; i++) {
            due("2: feed " + i, x.feed(BLANKS, BLANKS, BLANKS, BLANKS, BLANKS), 20 * i);
        }
        due("2: feed on a full tape", x.feed(0, 0, 0, 0, 0), NONE);
        due("2: nothing came", x.count(6), 2000);
        due("2: back", x.back(19), 1981);
        due("2: feed beyond 2,000", x.feed(0, 0, 0, 0, 0), NONE);
        due("2: back", x.back(1), 1980);
        due("2: feed up to 2,000", x.feed(BLANKS, BLANKS, BLANKS, BLANKS, BLANKS), 2000);
        due("2: all blanks", x.read(), 0);
        due("2: the highest byte first", x.feed(0x63_6c_61_73, 0x73_20_31_20, 0x69_66_20_31, 0x3d_3d_31_3b, -1), 20);
        due("2: byte 255 is behind", x.read(), 1);
        due("2: at its place", x.place(), 16);
    }

    private static void promise3() {
        ShowRings x = new ShowRings();
        due("3: back(0) of nothing", x.back(0), 0);
        due("3: back(1) of nothing", x.back(1), NONE);
        x.feed(BLANKS, BLANKS, BLANKS, BLANKS, BLANKS);
        due("3: back(-1)", x.back(-1), NONE);
        due("3: back(least)", x.back(LOW), NONE);
        due("3: back(21)", x.back(21), NONE);
        due("3: back(most)", x.back(HIGH), NONE);
        due("3: nothing went", x.count(6), 20);
        due("3: back(7)", x.back(7), 13);
        due("3: back(0)", x.back(0), 13);
        due("3: back(13)", x.back(13), 0);
    }

    /** A text's fault and its place; a place of NONE is no fault. */
    private static void fault(String text, int fault, int place) {
        ShowRings x = new ShowRings();
        due("4: read() of <" + text + ">", Check.read(x, text), fault);
        due("5: place() of <" + text + ">", x.place(), place);
    }

    private static void promise4Tokens() {
        fault("", 0, NONE);
        fault(" \t\n\r ", 0, NONE);
        fault("bar\tif\n1\r==1;", 0, NONE);
        fault("points 1<", 1, 8);
        fault("bar if1==1;", 0, NONE);
        fault("bar if 1<=2and 3!=4or 5<6;", 0, NONE);
        fault("barif 1==1;", 1, 0);
        fault("title 9999 under 0007;", 0, NONE);
        fault("title 10000 under 1;", 1, 6);
        fault("title 00001 under 1;", 1, 6);
        fault("points abcdefgh;", 1, 7);
        fault("points abcdefghi;", 1, 7);
        fault("points agee;", 1, 7);
        fault("points agez;", 1, 7);
        fault("points zage;", 1, 7);
        fault("points xge;", 1, 7);
        fault("points ag;", 1, 7);
        fault("bar if 1 = 1;", 1, 9);
        fault("bar if 1 === 1;", 1, 11);
        fault("bar if 1 ! 1;", 1, 9);
        fault("bar if 1 < = 1;", 1, 11);
        fault("bar if 1 > 1;", 1, 9);
        fault("Bar if 1 == 1;", 1, 0);
        fault("points 1\u00e9;", 1, 8);
        fault("points 1\u0000;", 1, 8);
        fault("points 1\u000b;", 1, 8);
        fault("points 1;$", 1, 9);
    }

    private static void promise4Grammar() {
        fault("points 1", 1, 8);
        fault("points 1  ", 1, 10);
        fault("points", 1, 6);
        fault("points ;", 1, 7);
        fault("points 1 2;", 1, 9);
        fault("points 1 if;", 1, 11);
        fault("points 1 if 2;", 1, 13);
        fault("points 1 if 2 < 3 < 4;", 1, 18);
        fault("points 1 or 2;", 1, 9);
        fault("points -1;", 1, 7);
        fault("points (1;", 1, 9);
        fault("points ();", 1, 8);
        fault("points 1);", 1, 8);
        fault("points (1 == 1);", 1, 10);
        fault("points (1 + (2 - age) * (3)) * (beaten);", 0, NONE);
        fault("points 1 + ;", 1, 11);
        fault("points 1 * + 1;", 1, 11);
        fault("bar if (1 == 1);", 1, 10);
        fault("bar if (1) == 1 and;", 1, 19);
        fault("bar if 1 == 1 or and;", 1, 17);
        fault("bar if 1 == 1 or 2 != 3 and age <= sex;", 0, NONE);
        fault("bar 1 if 1 == 1;", 1, 4);
        fault("bar;", 1, 3);
        fault("class if 1 == 1;", 1, 6);
        fault("class age if 1 == 1;", 1, 6);
        fault("class 1;", 1, 7);
        fault("class 1 if class == class;", 0, NONE);
        fault("title 1;", 1, 7);
        fault("title 1 under;", 1, 13);
        fault("title 1 under 2 if 1 == 1;", 1, 16);
        fault("title (1) under 2;", 1, 6);
        fault("age == 1;", 1, 0);
        fault("points 1;;", 1, 9);
        fault("points 1; under", 1, 10);
        fault("points age+sex+breed+group+class+own+kin+parted+beaten;", 0, NONE);
        fault("points points;", 1, 7);
        fault("points if 1 == 1;", 1, 7);
    }

    private static void promise4Room() {
        String sixteen = "points 1;".repeat(16);
        fault(sixteen, 0, NONE);
        fault(sixteen + " points 1;", 2, 145);
        fault(sixteen + " title", 2, 145);
        fault(sixteen + " age", 1, 145);
        fault(sixteen + "points 1;$", 2, 144);
        fault("points ((((((1))))));", 0, NONE);
        fault("points (((((((1)))))));", 2, 13);
        fault("points ((((((1)))))) + ((((((2))))));", 0, NONE);
        fault("points ((((((1))))) + (((((2))))));", 0, NONE);
        fault("points ((((((1))))) + ((((((2)))))));", 2, 27);
        fault("points 1 if ((((((1)))))) < (((((((2)))))));", 2, 34);
        fault("points 1((((((((", 1, 8);
        fault("points 1" + "+1".repeat(198) + ";", 0, NONE);
        String tokens400 = "title 1 under 1; bar if 1 == 1;" + "points 1" + "+1".repeat(193) + ";";
        fault(tokens400.substring(0, tokens400.length() - 1), 1, tokens400.length() - 1);
        due("4: tokens", countTokens(tokens400), 400);
        fault(tokens400, 0, NONE);
        fault(tokens400 + "  ", 0, NONE);
        fault(tokens400 + " points", 2, tokens400.length() + 1);
        fault(tokens400 + " age", 1, tokens400.length() + 1);
        fault(tokens400 + " =", 1, tokens400.length() + 1);
        String inTerm = "points 1" + "+1".repeat(199);
        due("4: tokens", countTokens(inTerm), 400);
        fault(inTerm, 1, inTerm.length());
        fault(inTerm + ";", 2, inTerm.length());
        fault(inTerm + "+", 2, inTerm.length());
        fault(inTerm + ")", 1, inTerm.length());
    }

    private static int countTokens(String text) {
        return text.replaceAll("[a-z]+|[0-9]+|==|[;+]", "T").replaceAll("[^T]", "").length();
    }

    private static void promise4InPlace() {
        ShowRings x = new ShowRings();
        x.breed(0, 5, 0, 99);
        x.dog(0, 0, 0, 0, 0);
        x.show(10);
        due("4: first text", Check.read(x, "class 3 if 1 == 1; points 5;"), 0);
        due("4: enter", x.enter(0, 0), 3);
        x.permits(1, 1);
        due("4: plan", x.plan(0, 0), 5);
        due("4: a text with a fault", Check.read(x, "class 4 if 1 == 1; points"), 1);
        due("4: the tape is empty", x.count(6), 0);
        due("4: changes nothing", x.classed(0, 0), 3);
        due("4: nor the rules", x.count(4), 2);
        due("4: another text", Check.read(x, "class 4 if 1 == 1; class 5 if 1 == 1; class 6 if 1 == 1;"), 0);
        due("4: is in place", x.classed(0, 0), 4);
        due("4: its rules", x.count(4), 3);
        due("4: the tape is empty", x.count(6), 0);
        due("4: an empty text", x.read(), 0);
        due("4: has no rules", x.count(4), 0);
        due("4: no class", x.classed(0, 0), -1);
        due("4: entries stay", x.count(10), 1);
        due("4: what was planned stays", x.planned(0, 0, 1), 1);
    }

    private static void promise5() {
        ShowRings x = new ShowRings();
        due("5: before any read", x.place(), NONE);
        Check.read(x, "bar;");
        due("5: a fault", x.place(), 3);
        due("5: asked again", x.place(), 3);
        x.feed(BLANKS, BLANKS, BLANKS, BLANKS, BLANKS);
        due("5: still the latest read", x.place(), 3);
        x.read();
        due("5: a read without", x.place(), NONE);
    }

    private static void promise6() {
        ShowRings x = new ShowRings();
        due("6: kin(0, 11)", x.kin(0, 11), true);
        due("6: they are", x.kin(0, 11), false);
        due("6: the other way", x.kin(11, 0), false);
        due("6: one and the same", x.kin(4, 4), false);
        due("6: kin(-1, 1)", x.kin(-1, 1), false);
        due("6: kin(1, 12)", x.kin(1, 12), false);
        due("6: kin(12, 1)", x.kin(12, 1), false);
        due("6: not by a third one", x.kin(11, 5) && x.kin(0, 5), true);
        due("6: each of them still", x.kin(0, 11) || x.kin(5, 11) || x.kin(5, 0), false);
    }

    private static void promise7() {
        ShowRings x = new ShowRings();
        due("7: group -1", x.breed(-1, 1, 0, 0), NONE);
        due("7: group 3", x.breed(3, 1, 0, 0), NONE);
        due("7: minutes 0", x.breed(0, 0, 0, 0), NONE);
        due("7: minutes 10", x.breed(0, 10, 0, 0), NONE);
        due("7: from -1", x.breed(0, 1, -1, 0), NONE);
        due("7: to 100", x.breed(0, 1, 0, 100), NONE);
        due("7: from 100", x.breed(0, 1, 100, 100), NONE);
        due("7: from above to", x.breed(0, 1, 51, 50), NONE);
        due("7: nothing happened", x.count(0), 0);
        due("7: from as to", x.breed(2, 9, 99, 99), 0);
        for (int b = 1; b < 6; b++) {
            due("7: breed " + b, x.breed(0, 1, 0, 99), b);
        }
        due("7: a seventh", x.breed(0, 1, 0, 99), NONE);
        due("7: six are there", x.count(0), 6);
    }

    private static void promise8() {
        ShowRings x = new ShowRings();
        due("8: no breed", x.dog(0, 0, 0, 0, 0), NONE);
        x.breed(0, 1, 0, 99);
        due("8: breed -1", x.dog(-1, 0, 0, 0, 0), NONE);
        due("8: breed 1", x.dog(1, 0, 0, 0, 0), NONE);
        due("8: birth -1", x.dog(0, -1, 0, 0, 0), NONE);
        due("8: birth 10000", x.dog(0, 10000, 0, 0, 0), NONE);
        due("8: sex -1", x.dog(0, 0, -1, 0, 0), NONE);
        due("8: sex 2", x.dog(0, 0, 2, 0, 0), NONE);
        due("8: owner -1", x.dog(0, 0, 0, -1, 0), NONE);
        due("8: owner 12", x.dog(0, 0, 0, 12, 0), NONE);
        due("8: handler -1", x.dog(0, 0, 0, 0, -1), NONE);
        due("8: handler 12", x.dog(0, 0, 0, 0, 12), NONE);
        due("8: nothing happened", x.count(1), 0);
        for (int d = 0; d < 20; d++) {
            due("8: dog " + d, x.dog(0, 9999, 1, 11, 11), d);
        }
        due("8: a 21st", x.dog(0, 0, 0, 0, 0), NONE);
        due("8: twenty are there", x.count(1), 20);
        due("8: the last one's owner", x.owner(19, 0, 0), 11);
    }

    private static void promise9() {
        ShowRings x = oneBreed(1, "");
        due("9: person -1", x.permits(-1, 1), false);
        due("9: person 12", x.permits(12, 1), false);
        due("9: breeds -1", x.permits(0, -1), false);
        due("9: breeds 64", x.permits(0, 64), false);
        due("9: breeds that are not there yet", x.permits(0, 62), true);
        due("9: all breeds", x.permits(11, 63), true);
        due("9: none", x.permits(11, 0), true);
        due("9: these and no others", x.plan(0, 0), -2);
        due("9: the right one", x.permits(3, 1), true);
        due("9: plan", x.plan(0, 0), 2);
        due("9: its judge", x.planned(0, 0, 1), 3);
    }

    private static void promise10() {
        ShowRings x = new ShowRings();
        due("10: rings(0)", x.rings(0), false);
        due("10: rings(4)", x.rings(4), false);
        due("10: rings(-1)", x.rings(-1), false);
        due("10: as it was", x.count(5), 1);
        for (int n = 3; n >= 1; n--) {
            due("10: rings(" + n + ")", x.rings(n), true);
            due("10: count(5)", x.count(5), n);
        }
    }

    private static void promise11() {
        ShowRings x = new ShowRings();
        due("11: day -1", x.show(-1), NONE);
        due("11: day 10000", x.show(10000), NONE);
        due("11: day 0", x.show(0), 0);
        due("11: the same", x.show(0), NONE);
        due("11: the next", x.show(1), 1);
        due("11: an earlier one", x.show(0), NONE);
        due("11: third", x.show(9997), 2);
        due("11: fourth", x.show(9998), 3);
        due("11: fifth", x.show(9999), 4);
        due("11: a sixth", x.show(9999), NONE);
        due("11: five are there", x.count(2), 5);
        ShowRings y = new ShowRings();
        y.show(1);
        y.show(2);
        y.show(3);
        y.show(4);
        y.show(5);
        due("11: a sixth, later", y.show(6), NONE);
    }

    private static void promise12() {
        ShowRings x = new ShowRings();
        x.breed(0, 1, 0, 99);
        x.breed(0, 1, 0, 99);
        x.dog(0, 5, 0, 0, 0);
        x.dog(0, 6, 1, 0, 0);
        x.dog(1, 6, 1, 0, 0);
        x.dog(0, 6, 0, 0, 0);
        x.show(10);
        due("12: no class", x.enter(0, 0), -2);
        Check.read(x, "class 3 if age == 5; class 0 if sex == 1;");
        due("12: show -1", x.enter(-1, 0), NONE);
        due("12: show 1", x.enter(1, 0), NONE);
        due("12: dog -1", x.enter(0, -1), NONE);
        due("12: dog 4", x.enter(0, 4), NONE);
        due("12: nothing happened", x.count(10), 0);
        due("12: its class", x.enter(0, 0), 3);
        due("12: it is one", x.enter(0, 0), NONE);
        due("12: one entry", x.count(10), 1);
        x.permits(1, 3);
        due("12: plan", x.plan(0, 0), 1);
        due("12: its breed is planned", x.enter(0, 1), -3);
        due("12: no class goes ahead of that", x.enter(0, 3), -2);
        due("12: it is one goes ahead of that", x.enter(0, 0), NONE);
        due("12: another breed is not", x.enter(0, 2), 0);
        due("12: two entries", x.count(10), 2);
        due("12: until it is", x.plan(0, 0), 2);
        x.show(11);
        due("12: another show is not planned", x.enter(1, 1), 3);
        due("12: nothing came to the first", x.count(10), 2);
        Check.read(x, "");
        due("12: an entry without a class now", x.enter(0, 0), NONE);
    }

    private static void promise13() {
        ShowRings x = new ShowRings();
        due("13: no show, no dog", x.fact(0, 0, 0, 1), NONE);
        x.breed(0, 1, 0, 99);
        x.dog(0, 0, 0, 0, 0);
        x.show(5);
        int[][] wrong = {{-1, 0, 0, 0}, {4, 0, 0, 0}, {0, 0, 0, 0}, {0, 0, 0, 21}, {1, 0, 0, 1}, {1, 0, 0, -1},
            {2, 0, 0, 1}, {2, 0, 0, -1}, {3, 0, 0, -1}, {3, 0, 0, 100}, {0, 1, 0, 1}, {0, -1, 0, 1}, {0, 0, 1, 1},
            {0, 0, -1, 1}};
        for (int[] w : wrong) {
            due("13: fact(" + w[0] + ", " + w[1] + ", " + w[2] + ", " + w[3] + ")", x.fact(w[0], w[1], w[2], w[3]), NONE);
        }
        due("13: nothing happened", x.count(3), 0);
        int[][] right = {{0, 1}, {0, 20}, {1, 0}, {2, 0}, {3, 0}, {3, 99}};
        for (int i = 0; i < right.length; i++) {
            due("13: a dog that is no entry, fact " + i, x.fact(right[i][0], 0, 0, right[i][1]), i);
        }
        for (int i = 6; i < 200; i++) {
            due("13: fact " + i, x.fact(0, 0, 0, 2), i);
        }
        due("13: a 201st", x.fact(0, 0, 0, 2), NONE);
        due("13: 200 are there", x.count(3), 200);
        due("13: nor one of owned", x.owned(0, 0, 0), NONE);
    }

    private static void promise14() {
        ShowRings x = new ShowRings();
        due("14: no dog", x.owned(0, 0, 0), NONE);
        x.breed(0, 1, 0, 99);
        x.dog(0, 0, 0, 4, 0);
        x.show(5);
        due("14: dog -1", x.owned(-1, 0, 0), NONE);
        due("14: dog 1", x.owned(1, 0, 0), NONE);
        due("14: person -1", x.owned(0, -1, 0), NONE);
        due("14: person 12", x.owned(0, 12, 0), NONE);
        due("14: day -1", x.owned(0, 0, -1), NONE);
        due("14: day 10000", x.owned(0, 0, 10000), NONE);
        due("14: nothing happened", x.count(3), 0);
        due("14: numbered with the others", x.fact(0, 0, 0, 1), 0);
        due("14: owned", x.owned(0, 11, 9999), 1);
        for (int i = 2; i < 200; i++) {
            due("14: fact " + i, x.owned(0, i % 12, 0), i);
        }
        due("14: a 201st", x.owned(0, 3, 0), NONE);
        due("14: nor one of a show", x.fact(0, 0, 0, 1), NONE);
        due("14: as told last", x.owner(0, 0, 200), 199 % 12);
    }

    private static void planOf(ShowRings x, int show, int breed, int ring, int judge, int begin, int end) {
        int[] want = {ring, judge, begin, end};
        for (int what = 0; what < 4; what++) {
            due("planned(" + show + ", " + breed + ", " + what + ")", x.planned(show, breed, what), want[what]);
        }
    }

    private static void promise15() {
        ShowRings x = new ShowRings();
        due("15: no show", x.plan(0, 0), NONE);
        Check.read(x, "class 1 if 1 == 1; bar if own == 1;");
        x.show(10);
        due("15: show -1", x.plan(-1, 0), NONE);
        due("15: show 1", x.plan(1, 0), NONE);
        due("15: known -1", x.plan(0, -1), NONE);
        due("15: more than is known", x.plan(0, 1), NONE);
        due("15: no entries", x.plan(0, 0), 0);
        x.breed(0, 3, 0, 99);
        x.breed(0, 4, 0, 99);
        x.dog(0, 0, 0, 5, 8);
        x.dog(0, 0, 0, 6, 9);
        x.dog(1, 0, 0, 7, 10);
        due("15: no entries of these", x.plan(0, 0), 0);
        due("15: nothing planned", x.planned(0, 0, 0), NONE);
        x.enter(0, 0);
        x.enter(0, 1);
        due("15: nobody has a permit", x.plan(0, 0), -2);
        x.permits(6, 1);
        due("15: the only judge is barred from one entry", x.plan(0, 0), -2);
        x.permits(7, 1);
        due("15: another is not", x.plan(0, 0), 6);
        planOf(x, 0, 0, 0, 7, 0, 6);
        x.owned(0, 7, 10);
        due("15: as known by 0", x.plan(0, 0), 6);
        due("15: as known by 1 there is none", x.plan(0, 1), -2);
        planOf(x, 0, 0, 0, 7, 0, 6);
        x.enter(0, 2);
        due("15: a breed without a judge", x.plan(0, 0), -2);
        planOf(x, 0, 1, NONE, NONE, NONE, NONE);
        x.permits(8, 3);
        due("15: by the least judge in one ring", x.plan(0, 1), 10);
        planOf(x, 0, 1, 0, 8, 0, 4);
        planOf(x, 0, 0, 0, 8, 4, 10);
        x.rings(2);
        due("15: one judge for both", x.plan(0, 1), 10);
        x.permits(9, 3);
        due("15: two rings, two judges", x.plan(0, 1), 6);
        planOf(x, 0, 0, 0, 8, 0, 6);
        planOf(x, 0, 1, 1, 9, 0, 4);
        x.rings(1);
        x.permits(8, 0);
        planOf(x, 0, 1, 1, 9, 0, 4);
    }

    /** Breeds with so many minutes, each with one dog of the given handler. */
    private static ShowRings oneDogEach(int rings, int[] minutes, int[] handlers, int[] permits) {
        ShowRings x = new ShowRings();
        Check.read(x, "class 1 if 1 == 1;");
        x.show(10);
        x.rings(rings);
        for (int b = 0; b < minutes.length; b++) {
            x.breed(0, minutes[b], 0, 99);
            x.dog(b, 0, 0, 0, handlers[b]);
            x.enter(0, b);
        }
        for (int p = 0; p < permits.length; p++) {
            x.permits(p, permits[p]);
        }
        return x;
    }

    private static void promise15Orders() {
        ShowRings x = oneDogEach(2, new int[] {3, 3, 4, 4, 6}, new int[] {0, 1, 2, 3, 4}, new int[] {63, 63});
        due("15: the last ends soonest", x.plan(0, 0), 10);
        ShowRings y = oneDogEach(1, new int[] {9, 1, 5}, new int[] {0, 1, 2}, new int[] {63});
        due("15: the least sum", y.plan(0, 0), 15);
        planOf(y, 0, 1, 0, 0, 0, 1);
        planOf(y, 0, 2, 0, 0, 1, 6);
        planOf(y, 0, 0, 0, 0, 6, 15);
        ShowRings z = oneDogEach(1, new int[] {4, 4, 4}, new int[] {0, 1, 2}, new int[] {63});
        due("15: of like orders the first", z.plan(0, 0), 12);
        planOf(z, 0, 0, 0, 0, 0, 4);
        planOf(z, 0, 1, 0, 0, 4, 8);
        planOf(z, 0, 2, 0, 0, 8, 12);
        ShowRings h = oneDogEach(3, new int[] {5, 5, 2}, new int[] {7, 7, 1}, new int[] {63, 63, 63});
        due("15: a handler in one ring at a time", h.plan(0, 0), 10);
        planOf(h, 0, 0, 0, 0, 0, 5);
        planOf(h, 0, 1, 0, 0, 5, 10);
        planOf(h, 0, 2, 1, 1, 0, 2);
        ShowRings j = oneDogEach(3, new int[] {5, 5, 5}, new int[] {0, 1, 2}, new int[] {4, 3, 7});
        due("15: judges", j.plan(0, 0), 5);
        planOf(j, 0, 0, 0, 1, 0, 5);
        planOf(j, 0, 1, 1, 2, 0, 5);
        planOf(j, 0, 2, 2, 0, 0, 5);
        ShowRings greedy = oneDogEach(3, new int[] {5, 4}, new int[] {0, 1}, new int[] {3, 1});
        due("15: each takes the least judge in its turn", greedy.plan(0, 0), 5);
        planOf(greedy, 0, 1, 0, 0, 0, 4);
        planOf(greedy, 0, 0, 1, 1, 0, 5);
        ShowRings six = oneDogEach(3, new int[] {9, 8, 7, 6, 5, 4}, new int[] {0, 1, 2, 3, 4, 5}, new int[] {63, 63, 63});
        due("15: six breeds", six.plan(0, 0), 13);
        planOf(six, 0, 5, 2, 2, 0, 4);
        planOf(six, 0, 0, 2, 2, 4, 13);
        ShowRings narrow = oneDogEach(2, new int[] {5, 5, 5}, new int[] {0, 1, 2}, new int[] {63, 63, 63});
        due("15: more judges than rings", narrow.plan(0, 0), 10);
        planOf(narrow, 0, 2, 0, 0, 5, 10);
        ShowRings many = oneBreed(20, "");
        due("15: twenty entries of two minutes", many.planned(0, 0, 3), 40);
    }

    private static void promise16() {
        ShowRings x = oneBreed(2, "");
        x.breed(0, 1, 0, 99);
        planOf(x, 0, 0, 0, 11, 0, 4);
        due("16: no entries", x.planned(0, 1, 0), NONE);
        due("16: show -1", x.planned(-1, 0, 0), NONE);
        due("16: show 1", x.planned(1, 0, 0), NONE);
        due("16: breed -1", x.planned(0, -1, 0), NONE);
        due("16: breed 2", x.planned(0, 2, 0), NONE);
        due("16: what -1", x.planned(0, 0, -1), NONE);
        due("16: what 4", x.planned(0, 0, 4), NONE);
        x.show(200);
        due("16: not planned in another show", x.planned(1, 0, 1), NONE);
    }

    private static void promise17() {
        ShowRings x = oneBreed(2, "bar if own == 1 and sex == 5; bar if own == 1; points 1; bar if own == 1 or kin == 1;");
        due("17: the first that holds, among all rules", x.barred(1, 0, 1, 0), 2);
        due("17: nobody's", x.barred(5, 0, 1, 0), NONE);
        x.kin(1, 5);
        due("17: kin of its owner", x.barred(5, 0, 1, 0), 4);
        x.owned(1, 7, 100);
        due("17: as known by 1", x.barred(7, 0, 1, 1), 2);
        due("17: as known by 0", x.barred(7, 0, 1, 0), NONE);
        due("17: kin of the one ahead", x.barred(5, 0, 1, 1), NONE);
        due("17: person -1", x.barred(-1, 0, 1, 0), NONE);
        due("17: person 12", x.barred(12, 0, 1, 0), NONE);
        due("17: show 1", x.barred(1, 1, 1, 0), NONE);
        due("17: show -1", x.barred(1, -1, 1, 0), NONE);
        due("17: dog 2", x.barred(1, 0, 2, 0), NONE);
        due("17: dog -1", x.barred(1, 0, -1, 0), NONE);
        due("17: known -1", x.barred(7, 0, 1, -1), NONE);
        due("17: known 2", x.barred(7, 0, 1, 2), NONE);
        x.dog(0, 0, 0, 9, 9);
        due("17: a dog that is no entry", x.barred(9, 0, 2, 0), 2);
    }

    /** Whether a bar rule with one relation holds for person 3, dog 1 (owner 1, birth 10, sex 1), day 100. */
    private static int bars(String cond) {
        ShowRings x = oneBreed(2, "bar if " + cond + ";");
        x.owned(1, 3, 50);
        x.owned(1, 1, 60);
        return x.barred(3, 0, 1, 2);
    }

    private static void promise17Vars() {
        String[] hold = {"age == 90", "sex == 1", "breed == 0", "group == 1", "class == 7", "own == 0", "kin == 0",
            "parted == 41", "beaten == 0", "1 + 2 * 3 == 7", "(1 + 2) * 3 == 9", "9 - 4 - 3 == 2", "2 - 3 < 0",
            "1 == 2 or 3 == 3 and 4 == 4", "1 == 1 or 2 == 3 and 4 == 5", "2 != 3", "2 <= 2", "1 < 2"};
        for (String cond : hold) {
            due("17: bar if " + cond, bars(cond), 1);
        }
        String[] not = {"1 == 2", "2 != 2", "2 < 2", "3 <= 2", "1 == 1 and 2 == 3", "1 == 2 or 2 == 3", "age != 90"};
        for (String cond : not) {
            due("17: bar if " + cond, bars(cond), NONE);
        }
        ShowRings x = new ShowRings();
        Check.read(x, "class 1 if class + own + kin + parted + beaten == 0; bar if age == 0 and class == 1;");
        x.breed(2, 1, 0, 99);
        x.dog(0, 500, 0, 0, 0);
        x.show(100);
        due("17: what a class rule has not is 0", x.classed(0, 0), 1);
        due("17: an age below 0 is 0", x.barred(0, 0, 0, 0), 1);
        Check.read(x, "bar if class + 1 == 0;");
        due("17: without a class it is -1", x.barred(0, 0, 0, 0), 0);
        ShowRings y = new ShowRings();
        Check.read(y, "class 1 if 1 == 1; bar if breed == 5 and group == 2; bar if breed == 4;");
        y.show(1);
        for (int b = 0; b < 6; b++) {
            y.breed(b == 5 ? 2 : 0, 1, 0, 99);
            y.dog(b, 0, 0, 0, 0);
        }
        due("17: breed 3", y.barred(0, 0, 3, 0), NONE);
        due("17: breed 4", y.barred(0, 0, 4, 0), 2);
        due("17: breed 5 and its group", y.barred(0, 0, 5, 0), 1);
    }

    private static void promise18() {
        ShowRings x = oneDogEach(3, new int[] {5, 5, 5}, new int[] {7, 7, 1}, new int[] {63, 63, 63});
        due("18: not planned", x.clash(0, 0, 0), NONE);
        x.plan(0, 0);
        planOf(x, 0, 0, 0, 0, 0, 5);
        planOf(x, 0, 1, 0, 0, 5, 10);
        due("18: as planned", x.clash(0, 1, 5), NONE);
        due("18: a minute sooner", x.clash(0, 1, 4), 7);
        due("18: at once", x.clash(0, 1, 0), 7);
        due("18: the other one", x.clash(0, 0, 1), 7);
        due("18: the other's last minute", x.clash(0, 0, 9), 7);
        due("18: behind it", x.clash(0, 0, 10), NONE);
        due("18: far behind", x.clash(0, 0, 9999), NONE);
        due("18: another handler", x.clash(0, 2, 3), NONE);
        due("18: minute -1", x.clash(0, 1, -1), NONE);
        due("18: minute 10000", x.clash(0, 1, 10000), NONE);
        due("18: show 1", x.clash(1, 1, 0), NONE);
        due("18: show -1", x.clash(-1, 1, 0), NONE);
        due("18: breed 3", x.clash(0, 3, 0), NONE);
        due("18: breed -1", x.clash(0, -1, 0), NONE);
        due("18: nothing is changed", x.planned(0, 1, 2), 5);
        ShowRings late = oneDogEach(1, new int[] {3, 4, 5}, new int[] {1, 2, 2}, new int[] {63});
        due("18: plan", late.plan(0, 0), 12);
        planOf(late, 0, 1, 0, 0, 3, 7);
        due("18: a ring's clash is no handler's", late.clash(0, 1, 2), NONE);
        due("18: it ends as the other begins", late.clash(0, 1, 3), NONE);
        due("18: it ends a minute later", late.clash(0, 1, 4), 2);
        due("18: the other's last minute", late.clash(0, 1, 11), 2);
        due("18: the other's end", late.clash(0, 1, 12), NONE);
        ShowRings y = new ShowRings();
        Check.read(y, "class 1 if 1 == 1;");
        y.show(1);
        y.breed(0, 2, 0, 99);
        y.breed(0, 2, 0, 99);
        int[] handlers = {9, 4, 6, 9, 6, 5};
        for (int d = 0; d < 6; d++) {
            y.dog(d / 3, 0, 0, 0, handlers[d]);
            y.enter(0, d);
        }
        y.dog(1, 0, 0, 0, 4);
        y.permits(0, 3);
        due("18: plan", y.plan(0, 0), 12);
        due("18: the least of two; 4 and 5 have no part in both", y.clash(0, 1, 0), 6);
    }

    private static void promise19() {
        ShowRings x = new ShowRings();
        due("19: nothing there", x.classed(0, 0), -2);
        x.breed(2, 1, 0, 99);
        x.dog(0, 50, 1, 0, 0);
        x.show(60);
        x.show(70);
        due("19: no class rule", x.classed(0, 0), -1);
        due("19: show -1", x.classed(-1, 0), -2);
        due("19: show 2", x.classed(2, 0), -2);
        due("19: dog -1", x.classed(0, -1), -2);
        due("19: dog 1", x.classed(0, 1), -2);
        Check.read(x, "class 9 if sex == 0; class 0 if age < 11; class 9999 if group * 10 == age; class 5 if 1 == 1;");
        due("19: on its day", x.classed(0, 0), 0);
        due("19: on a later day", x.classed(1, 0), 9999);
        Check.read(x, "class 1 if group == 1; title 1 under 1;");
        due("19: none holds", x.classed(0, 0), -1);
        Check.read(x, "points 1;".repeat(15) + "class 8 if 1 == 1;");
        due("19: the sixteenth rule", x.classed(0, 0), 8);
    }

    private static void promise20() {
        ShowRings x = oneBreed(3, "bar if own == 1;");
        x.dog(0, 0, 0, 0, 0);
        due("20: it does", x.counts(0, 0, 0), 0);
        due("20: no entry", x.counts(0, 3, 0), 1);
        x.fact(1, 0, 3, 0);
        due("20: no entry goes ahead", x.counts(0, 3, 1), 1);
        x.owned(0, 11, 100);
        due("20: the judge is barred", x.counts(0, 0, 2), 6);
        x.fact(3, 0, 0, 41);
        due("20: out by measure", x.counts(0, 0, 3), 4);
        x.fact(2, 0, 0, 0);
        due("20: struck", x.counts(0, 0, 4), 3);
        x.fact(1, 0, 0, 0);
        due("20: absent", x.counts(0, 0, 5), 2);
        x.fact(0, 0, 0, 1);
        due("20: absent for good", x.counts(0, 0, 6), 2);
        for (int n = 0; n <= 6; n++) {
            due("20: as known by " + n, x.counts(0, 0, n), new int[] {0, 0, 6, 4, 3, 2, 2}[n]);
            due("20: another dog", x.counts(0, 1, n), 0);
        }
        due("20: known 7", x.counts(0, 0, 7), NONE);
        due("20: known -1", x.counts(0, 0, -1), NONE);
        due("20: show 1", x.counts(1, 0, 0), NONE);
        due("20: show -1", x.counts(-1, 0, 0), NONE);
        due("20: dog 4", x.counts(0, 4, 0), NONE);
        due("20: dog -1", x.counts(0, -1, 0), NONE);
        x.show(200);
        x.enter(1, 0);
        due("20: no judge is planned", x.counts(1, 0, 6), 5);
        x.fact(3, 1, 0, 19);
        due("20: the measure goes ahead of that", x.counts(1, 0, 7), 4);
        due("20: the last of twenty dogs", oneBreed(20, "").counts(0, 19, 0), 0);
    }

    private static void promise20Measures() {
        int[][] runs = {
            {20, 0}, {40, 0}, {19, 4}, {41, 4}, {41, 39, 0}, {39, 41, 0}, {19, 30, 4}, {30, 19, 4}, {41, 42, 4},
            {41, 39, 45, 4}, {39, 45, 30, 0}, {10, 30, 50, 0}, {30, 50, 10, 0}, {50, 10, 30, 0}, {10, 50, 30, 0},
            {10, 10, 30, 4}, {30, 10, 10, 4}, {30, 30, 10, 0}, {50, 50, 50, 30, 4}, {30, 30, 50, 50, 4},
            {50, 50, 30, 30, 0}, {0, 0, 30, 99, 40, 0}};
        for (int[] run : runs) {
            ShowRings x = oneBreed(2, "");
            StringBuilder told = new StringBuilder("20: measures");
            for (int i = 0; i < run.length - 1; i++) {
                x.fact(3, 0, 0, run[i]);
                x.fact(3, 0, 1, 30);
                told.append(' ').append(run[i]);
            }
            due(told.toString(), x.counts(0, 0, x.count(3)), run[run.length - 1]);
        }
    }

    private static void promise21() {
        ShowRings x = oneBreed(4, "bar if own == 1;");
        due("21: nobody has a rank", x.winner(0, 0, 0), NONE);
        x.fact(0, 0, 1, 3);
        x.fact(0, 0, 0, 3);
        x.fact(0, 0, 2, 2);
        x.fact(0, 0, 2, 20);
        x.fact(0, 0, 1, 3);
        x.fact(0, 0, 3, 1);
        x.owned(3, 11, 0);
        x.fact(2, 0, 0, 0);
        x.fact(1, 0, 1, 0);
        x.fact(3, 0, 2, 99);
        int[] want = {NONE, 1, 1, 2, 1, 0, 3, 0, 1, 2, NONE};
        for (int n = 0; n < want.length; n++) {
            due("21: winner as known by " + n, x.winner(0, 0, n), want[n]);
        }
        x.breed(0, 1, 0, 99);
        due("21: a breed without entries", x.winner(0, 1, 5), NONE);
        due("21: breed 2", x.winner(0, 2, 5), NONE);
        due("21: breed -1", x.winner(0, -1, 5), NONE);
        due("21: show 1", x.winner(1, 0, 5), NONE);
        due("21: show -1", x.winner(-1, 0, 5), NONE);
        due("21: known 11", x.winner(0, 0, 11), NONE);
        due("21: known -1", x.winner(0, 0, -1), NONE);
        x.show(200);
        x.enter(1, 0);
        x.fact(0, 1, 0, 1);
        due("21: not planned", x.winner(1, 0, 11), NONE);
        x.plan(1, 11);
        due("21: planned", x.winner(1, 0, 11), 0);
        due("21: the other show's facts are its own", x.winner(0, 0, 10), NONE);
    }

    private static void promise22() {
        ShowRings x = oneBreed(4, "points 100 if beaten == 3; points beaten * 10 + class + sex if sex == 0; points 0 - beaten;");
        x.fact(0, 0, 0, 1);
        x.fact(1, 0, 3, 0);
        x.fact(2, 0, 0, 0);
        x.fact(0, 0, 1, 9);
        due("22: the first that holds", x.points(0, 0, 1), 100);
        due("22: truly beaten", x.points(0, 0, 2), 27);
        due("22: did not win", x.points(0, 1, 2), 0);
        due("22: struck", x.points(0, 0, 4), 0);
        due("22: the one without a cond", x.points(0, 1, 4), -1);
        ShowRings y = oneBreed(2, "points beaten;");
        y.fact(0, 0, 1, 1);
        due("22: a lesser dog without a rank is beaten too", y.points(0, 1, 1), 1);
        due("22: as known ahead", x.points(0, 0, 1), 100);
        due("22: known 5", x.points(0, 1, 5), 0);
        due("22: known -1", x.points(0, 1, -1), 0);
        due("22: show 1", x.points(1, 1, 4), 0);
        due("22: show -1", x.points(-1, 1, 4), 0);
        due("22: dog 4", x.points(0, 4, 4), 0);
        due("22: dog -1", x.points(0, -1, 4), 0);
        Check.read(x, "points 5 if beaten == 7;");
        due("22: no rule holds", x.points(0, 0, 1), 0);
        Check.read(x, "points 1 + own + kin + parted;");
        due("22: what a points rule has not is 0", x.points(0, 0, 1), 1);
        Check.read(x, "points class;");
        due("22: without a class", x.points(0, 0, 1), -1);
        Check.read(x, "points age * 1000 + breed * 100 + group * 10 + sex;");
        due("22: age, breed, group, sex", x.points(0, 1, 4), 90011);
    }

    private static void promise22Wrap() {
        String big = "9999 * 9999 * 9999";
        ShowRings x = oneBreed(1, "points " + big + "; bar if " + big + " * 9 + 1 == 0;");
        x.fact(0, 0, 0, 1);
        due("22: ints wrap", x.points(0, 0, 1), 9999 * 9999 * 9999);
        Check.read(x, "points 0 - 8192 * 8192 * 32 - 1;");
        due("22: below the least", x.points(0, 0, 1), HIGH);
    }

    private static void promise23() {
        ShowRings x = new ShowRings();
        due("23: nothing there", x.title(0, 0), NONE);
        Check.read(x, "class 1 if 1 == 1; points 3; title 6 under 2; title 0 under 0;");
        x.breed(0, 1, 0, 99);
        x.dog(0, 0, 0, 0, 0);
        x.dog(0, 0, 0, 1, 1);
        int[] judges = {5, 5, 6, 7};
        for (int s = 0; s < 4; s++) {
            x.show(10 * s);
            x.enter(s, 0);
            x.enter(s, 1);
            x.permits(s == 0 ? 0 : judges[s - 1], 0);
            x.permits(judges[s], 1);
            x.plan(s, 0);
        }
        x.fact(0, 3, 0, 1);
        x.fact(0, 0, 0, 1);
        x.fact(0, 1, 0, 1);
        x.fact(0, 2, 0, 1);
        x.fact(1, 2, 0, 0);
        x.fact(2, 3, 0, 0);
        int[] want = {NONE, NONE, 3, 3, 2, 3, NONE};
        for (int n = 0; n < want.length; n++) {
            due("23: title as known by " + n, x.title(0, n), want[n]);
        }
        due("23: the other dog", x.title(1, 6), NONE);
        due("23: dog 2", x.title(2, 6), NONE);
        due("23: dog -1", x.title(-1, 6), NONE);
        due("23: known 7", x.title(0, 7), NONE);
        due("23: known -1", x.title(0, -1), NONE);
        Check.read(x, "points 3; title 6 under 1;");
        due("23: under one judge", x.title(0, 4), 1);
        Check.read(x, "points 3; title 7 under 1;");
        due("23: one point more", x.title(0, 4), 2);
        Check.read(x, "points 3; title 9 under 3;");
        due("23: under three", x.title(0, 4), 3);
        Check.read(x, "points 3; title 9 under 4;");
        due("23: under four", x.title(0, 4), NONE);
        Check.read(x, "points 0 - 1; title 0 under 1;");
        due("23: below 0", x.title(0, 4), NONE);
        Check.read(x, "title 0 under 0;");
        due("23: nothing is asked", x.title(1, 0), 0);
        Check.read(x, "points 1;".repeat(15) + "title 0 under 0;");
        due("23: the sixteenth rule", x.title(1, 0), 0);
        Check.read(x, "points 9;");
        due("23: no title rule", x.title(0, 4), NONE);
    }

    private static void promise24() {
        ShowRings x = new ShowRings();
        due("24: no dog", x.owner(0, 0, 0), NONE);
        x.breed(0, 1, 0, 99);
        x.dog(0, 0, 0, 4, 0);
        x.dog(0, 0, 0, 5, 0);
        x.owned(0, 7, 50);
        x.owned(0, 8, 30);
        x.owned(0, 9, 50);
        x.owned(1, 10, 0);
        int[][] rows = {{0, 0, 4}, {9999, 0, 4}, {49, 1, 4}, {50, 1, 7}, {30, 1, 4}, {29, 2, 4}, {30, 2, 8}, {49, 2, 8},
            {50, 2, 7}, {50, 3, 9}, {9999, 4, 9}, {49, 4, 8}};
        for (int[] row : rows) {
            due("24: owner(0, " + row[0] + ", " + row[1] + ")", x.owner(0, row[0], row[1]), row[2]);
        }
        due("24: the other dog", x.owner(1, 0, 3), 5);
        due("24: from day 0", x.owner(1, 0, 4), 10);
        due("24: day -1", x.owner(0, -1, 0), NONE);
        due("24: day 10000", x.owner(0, 10000, 0), NONE);
        due("24: dog -1", x.owner(-1, 0, 0), NONE);
        due("24: dog 2", x.owner(2, 0, 0), NONE);
        due("24: known -1", x.owner(0, 0, -1), NONE);
        due("24: known 5", x.owner(0, 0, 5), NONE);
    }

    private static void promise25() {
        ShowRings x = new ShowRings();
        due("25: no dog", x.parted(0, 0, 0, 0), -2);
        x.breed(0, 1, 0, 99);
        x.dog(0, 0, 0, 4, 0);
        x.owned(0, 7, 50);
        x.owned(0, 8, 60);
        x.owned(0, 7, 70);
        x.owned(0, 9, 70);
        x.owned(0, 3, 0);
        int[][] rows = {{4, 10, 0, -1}, {4, 50, 1, 1}, {4, 49, 1, -1}, {4, 59, 1, 10}, {4, 9999, 1, 9950}, {7, 60, 2, 1},
            {7, 65, 2, 6}, {7, 49, 2, -1}, {7, 70, 3, -1}, {7, 75, 4, 16}, {8, 70, 4, 1}, {8, 65, 4, -1}, {9, 69, 4, -1},
            {9, 70, 4, -1}, {4, 70, 4, 21}, {4, 70, 5, -1}, {3, 70, 5, 21}, {3, 0, 5, -1}, {4, 0, 5, -1}, {11, 70, 5, -1}};
        for (int[] row : rows) {
            due("25: parted(" + row[0] + ", 0, " + row[1] + ", " + row[2] + ")",
                    x.parted(row[0], 0, row[1], row[2]), row[3]);
        }
        due("25: person -1", x.parted(-1, 0, 0, 0), -2);
        due("25: person 12", x.parted(12, 0, 0, 0), -2);
        due("25: dog -1", x.parted(0, -1, 0, 0), -2);
        due("25: dog 1", x.parted(0, 1, 0, 0), -2);
        due("25: day -1", x.parted(0, 0, -1, 0), -2);
        due("25: day 10000", x.parted(0, 0, 10000, 0), -2);
        due("25: known -1", x.parted(0, 0, 0, -1), -2);
        due("25: known 6", x.parted(0, 0, 0, 6), -2);
        x.owned(0, 7, 66);
        due("25: owned again the day after", x.parted(7, 0, 65, 6), 6);
        due("25: owned again on the day", x.parted(7, 0, 66, 6), -1);
        ShowRings y = new ShowRings();
        y.breed(0, 1, 0, 99);
        y.dog(0, 0, 0, 4, 0);
        for (int day = 1; day <= 200; day++) {
            y.owned(0, 5, day);
        }
        due("25: owned on day 0 alone", y.parted(4, 0, 1, 200), 1);
        due("25: behind 200 sales", y.parted(4, 0, 250, 200), 250);
        due("25: never, behind 200 sales", y.parted(6, 0, 250, 200), -1);
    }

    private static void promise26() {
        ShowRings x = oneBreed(2, "");
        x.breed(0, 1, 0, 99);
        x.dog(1, 0, 0, 0, 0);
        x.enter(0, 2);
        x.permits(10, 2);
        x.plan(0, 0);
        x.fact(0, 0, 2, 1);
        x.fact(0, 0, 0, 2);
        x.fact(0, 0, 1, 2);
        x.fact(0, 0, 1, 1);
        x.fact(1, 0, 2, 0);
        due("26: from nobody", x.changed(0, 0, 1), 1);
        due("26: the first of two", x.changed(0, 0, 2), 0);
        due("26: as it was", x.changed(0, 2, 3), NONE);
        due("26: another one", x.changed(0, 3, 4), 0);
        due("26: backwards", x.changed(0, 4, 3), 0);
        due("26: to nobody", x.changed(0, 4, 5), 1);
        due("26: the same", x.changed(0, 5, 5), NONE);
        due("26: show 1", x.changed(1, 0, 5), NONE);
        due("26: show -1", x.changed(-1, 0, 5), NONE);
        due("26: known -1", x.changed(0, -1, 5), NONE);
        due("26: known 6", x.changed(0, 0, 6), NONE);
        due("26: known 6 first", x.changed(0, 6, 0), NONE);
    }

    private static void promise27() {
        ShowRings x = oneBreed(3, "points 1;");
        x.rings(3);
        x.fact(0, 0, 0, 1);
        x.fact(0, 0, 0, 2);
        x.show(300);
        x.feed(0, 0, 0, 0, 0);
        x.back(9);
        int[] want = {1, 3, 2, 2, 2, 3, 11, NONE, NONE, NONE, 3, 0, NONE, NONE, NONE, NONE};
        for (int what = 0; what < want.length; what++) {
            due("27: count(" + what + ")", x.count(what), want[what]);
        }
        due("27: count(-1)", x.count(-1), NONE);
        due("27: count(most)", x.count(HIGH), NONE);
        due("27: count(least)", x.count(LOW), NONE);
    }

    /** No number may make a call throw, on a new object or on one in use. */
    private static void wrongNumbersNeverHurt() {
        int[] numbers = {LOW, -2, -1, 0, 1, 2, 11, 12, 20, 31, 32, 64, 200, 9999, 10000, HIGH};
        ShowRings[] objects = {new ShowRings(), oneBreed(20, "bar if own == 1; points 1; title 1 under 1;")};
        for (ShowRings x : objects) {
            for (int a : numbers) {
                for (int b : numbers) {
                    x.kin(a, b);
                    x.permits(a, b);
                    x.plan(a, b);
                    x.enter(a, b);
                    x.classed(a, b);
                    x.title(a, b);
                    for (int c : numbers) {
                        x.planned(a, b, c);
                        x.clash(a, b, c);
                        x.counts(a, b, c);
                        x.winner(a, b, c);
                        x.points(a, b, c);
                        x.owner(a, b, c);
                        x.changed(a, b, c);
                        x.owned(a, b, c);
                        x.fact(a, b, c, a);
                        x.parted(a, b, c, 0);
                        x.barred(a, b, c, 0);
                        x.breed(a, b, c, c);
                        x.dog(a, b, c, c, a);
                    }
                }
                x.back(a);
                x.rings(a);
                x.show(a);
                x.count(a);
                x.feed(a, a, a, a, a);
            }
            due("a text of wrong bytes", x.read(), 1);
            due("no facts beyond 200", x.count(3) <= 200, true);
        }
    }
}
