/** The sentences of 'IV. RESULTS': who COUNTS, MEASURES, WINNERS, POINTS, TITLES, and what a later FACT changed. */
public final class ResultsTest {
    private static final int NONE = ShowRings.NONE;
    private static final int RANK = 0;
    private static final int ABSENT = 1;
    private static final int STRUCK = 2;
    private static final int MEASURED = 3;
    private static final Check CHECK = new Check("ResultsTest");

    public static void main(String[] args) {
        isEntry();
        notAbsentNotStruck();
        noMeasure();
        oneMeasure();
        twoMeasures();
        threeMeasures();
        lastThree();
        measuresOfShowAndDog();
        heightOfBreed();
        judgePlanned();
        judgeBarred();
        leastThatHolds();
        winnerCounts();
        leastRank();
        rankToldLast();
        sameRank();
        sameRankToldAgain();
        nobodyWins();
        firstPointsRule();
        noPointsRule();
        pointsVars();
        beaten();
        beatenByBreed();
        pointsOfWinnerAlone();
        titlePoints();
        titleJudges();
        titleFirstShow();
        titleFirstRule();
        titleOfNothing();
        titleUpToIt();
        titleWraps();
        titleFiveShows();
        changedFirstBreed();
        changedNobody();
        CHECK.end();
    }

    private static void due(String call, long got, long want) {
        CHECK.due(call, got, want);
    }

    private static void isEntry() {
        CHECK.sentence("A DOG COUNTS if it is an ENTRY");
        ShowRings x = Worlds.oneBreed(2, "points 1 + beaten;");
        x.dog(0, 0, 0, 5, 5);
        x.fact(RANK, 0, 2, 1);
        x.fact(RANK, 0, 0, 2);
        due("no ENTRY", x.counts(0, 2, 2), 1);
        due("an ENTRY", x.counts(0, 0, 2), 0);
        due("the WINNER is an ENTRY", x.winner(0, 0, 2), 0);
        due("nor is it beaten", x.points(0, 0, 2), 2);
        x.show(200);
        x.enter(1, 2);
        due("an ENTRY of another SHOW", x.counts(0, 2, 2), 1);
        due("there it is one", x.counts(1, 2, 2), 5);
        due("here the other is none", x.counts(1, 0, 2), 1);
    }

    private static void notAbsentNotStruck() {
        CHECK.sentence("is not ABSENT, not STRUCK");
        for (int kind = ABSENT; kind <= STRUCK; kind++) {
            ShowRings x = Worlds.oneBreed(3, "");
            x.show(200);
            x.enter(1, 0);
            x.plan(1, 0);
            x.fact(RANK, 0, 0, 1);
            x.fact(kind, 0, 0, 0);
            x.fact(RANK, 0, 0, 1);
            x.fact(kind, 0, 0, 0);
            x.fact(MEASURED, 0, 0, 30);
            for (int n = 0; n <= 5; n++) {
                due("as KNOWN by " + n, x.counts(0, 0, n), n < 2 ? 0 : kind + 1);
            }
            due("another DOG", x.counts(0, 1, 5), 0);
            due("another SHOW", x.counts(1, 0, 5), 0);
            due("nobody has won", x.winner(0, 0, 5), NONE);
            due("it had", x.winner(0, 0, 1), 0);
        }
    }

    /** What counts() says of a DOG of heights 20 .. 40 behind these MEASURES. */
    private static int behind(int... measures) {
        ShowRings x = Worlds.oneBreed(2, "");
        for (int measure : measures) {
            x.fact(MEASURED, 0, 0, measure);
            x.fact(MEASURED, 0, 1, 60 - measure % 60);
        }
        return x.counts(0, 0, x.count(3));
    }

    private static void noMeasure() {
        CHECK.sentence("is within its BREED's HEIGHT (none: it is)");
        due("none", behind(), 0);
        ShowRings x = Worlds.oneBreed(2, "");
        x.fact(MEASURED, 0, 0, 99);
        due("as KNOWN by 0", x.counts(0, 0, 0), 0);
        due("as KNOWN by 1", x.counts(0, 0, 1), 4);
        due("another DOG has none", x.counts(0, 1, 1), 0);
    }

    private static void oneMeasure() {
        CHECK.sentence("of one the one");
        int[][] rows = {{0, 4}, {19, 4}, {20, 0}, {21, 0}, {39, 0}, {40, 0}, {41, 4}, {99, 4}};
        for (int[] row : rows) {
            due("MEASURED " + row[0], behind(row[0]), row[1]);
        }
    }

    private static void twoMeasures() {
        CHECK.sentence("of two the lesser");
        int[][] rows = {{20, 41, 0}, {19, 20, 4}, {40, 41, 0}, {41, 42, 4}, {19, 41, 4}, {40, 99, 0}, {0, 30, 4}, {20, 20, 0},
            {41, 41, 4}, {0, 99, 4}};
        for (int[] row : rows) {
            due("MEASURED " + row[0] + ", " + row[1], behind(row[0], row[1]), row[2]);
            due("MEASURED " + row[1] + ", " + row[0], behind(row[1], row[0]), row[2]);
        }
    }

    private static void threeMeasures() {
        CHECK.sentence("the middle one of its last three MEASURES");
        int[][] rows = {{10, 20, 41, 0}, {10, 19, 41, 4}, {19, 20, 21, 0}, {20, 40, 41, 0}, {20, 41, 42, 4}, {0, 40, 99, 0},
            {0, 41, 99, 4}, {19, 19, 20, 4}, {19, 20, 20, 0}, {40, 40, 41, 0}, {40, 41, 41, 4}, {30, 30, 30, 0}, {99, 99, 99, 4},
            {0, 0, 0, 4}, {0, 0, 30, 4}, {30, 99, 99, 4}};
        int[][] turns = {{0, 1, 2}, {0, 2, 1}, {1, 0, 2}, {1, 2, 0}, {2, 0, 1}, {2, 1, 0}};
        for (int[] row : rows) {
            for (int[] t : turns) {
                due("MEASURED " + row[t[0]] + ", " + row[t[1]] + ", " + row[t[2]], behind(row[t[0]], row[t[1]], row[t[2]]), row[3]);
            }
        }
    }

    private static void lastThree() {
        CHECK.sentence("of its last three MEASURES");
        due("the first of four is no more", behind(30, 10, 10, 30), 4);
        due("the first of four is no more", behind(10, 30, 30, 10), 0);
        due("the fourth is", behind(30, 30, 10, 10), 4);
        due("the fourth is", behind(10, 10, 30, 30), 0);
        due("the second of four is", behind(10, 10, 30, 10), 4);
        due("two of five are no more", behind(30, 30, 10, 10, 30), 4);
        due("the same one told again", behind(10, 30, 10, 30, 30), 0);
        due("ten", behind(30, 30, 30, 30, 30, 30, 30, 99, 10, 99), 4);
        ShowRings x = Worlds.oneBreed(1, "");
        int[] measures = {41, 39, 45, 30, 41, 41};
        int[] want = {0, 4, 0, 4, 0, 4, 4};
        for (int measure : measures) {
            x.fact(MEASURED, 0, 0, measure);
        }
        for (int n = 0; n <= 6; n++) {
            due("as KNOWN by " + n, x.counts(0, 0, n), want[n]);
        }
        ShowRings y = Worlds.oneBreed(1, "");
        for (int i = 0; i < 197; i++) {
            y.fact(MEASURED, 0, 0, 99);
        }
        y.fact(MEASURED, 0, 0, 40);
        y.fact(MEASURED, 0, 0, 99);
        y.fact(MEASURED, 0, 0, 20);
        due("as KNOWN by 199", y.counts(0, 0, 199), 4);
        due("as KNOWN by 200", y.counts(0, 0, 200), 0);
    }

    private static void measuresOfShowAndDog() {
        CHECK.sentence("in a SHOW a DOG .. is MEASURED");
        ShowRings x = Worlds.oneBreed(2, "");
        x.show(200);
        x.enter(1, 0);
        x.plan(1, 0);
        x.fact(MEASURED, 0, 0, 10);
        x.fact(MEASURED, 1, 0, 30);
        x.fact(MEASURED, 0, 1, 30);
        x.fact(MEASURED, 1, 0, 31);
        x.fact(MEASURED, 0, 1, 31);
        x.fact(RANK, 0, 0, 20);
        due("in the first SHOW", x.counts(0, 0, 6), 4);
        due("in the second SHOW", x.counts(1, 0, 6), 0);
        due("the other DOG", x.counts(0, 1, 6), 0);
    }

    private static void heightOfBreed() {
        CHECK.sentence("within its BREED's HEIGHT");
        ShowRings x = new ShowRings();
        Check.read(x, "class 1 if 1 == 1;");
        x.show(1);
        x.permits(0, 63);
        for (int b = 0; b < 6; b++) {
            x.breed(0, 1, 10 * b, 10 * b + 9);
            x.dog(b, 0, 0, 0, 0);
            x.enter(0, b);
        }
        x.plan(0, 0);
        int n = 0;
        for (int measure : new int[] {0, 9, 10, 19, 20, 49, 50, 59, 60}) {
            for (int b = 0; b < 6; b++) {
                for (int times = 0; times < 3; times++) {
                    n = x.fact(MEASURED, 0, b, measure) + 1;
                }
                due(measure + " in BREED " + b, x.counts(0, b, n), measure / 10 == b ? 0 : 4);
            }
        }
    }

    private static void judgePlanned() {
        CHECK.sentence("the BREED's JUDGE (by what was PLANNED; a BREED without one has no RESULT)");
        ShowRings x = new ShowRings();
        Check.read(x, "class 1 if 1 == 1; points 5; title 1 under 0;");
        x.breed(0, 1, 0, 99);
        x.breed(0, 1, 0, 99);
        x.dog(0, 0, 0, 0, 0);
        x.dog(1, 0, 0, 0, 0);
        x.show(1);
        x.enter(0, 0);
        x.permits(8, 3);
        x.fact(RANK, 0, 0, 1);
        x.fact(RANK, 0, 1, 1);
        due("not PLANNED yet", x.counts(0, 0, 2), 5);
        due("no WINNER", x.winner(0, 0, 2), NONE);
        due("no POINTS", x.points(0, 0, 2), 0);
        due("no TITLE", x.title(0, 2), NONE);
        x.plan(0, 0);
        x.enter(0, 1);
        due("PLANNED", x.counts(0, 0, 2), 0);
        due("WINNER", x.winner(0, 0, 2), 0);
        due("POINTS", x.points(0, 0, 2), 5);
        due("TITLE", x.title(0, 2), 0);
        due("a BREED entered behind the PLAN", x.counts(0, 1, 2), 5);
        due("its WINNER", x.winner(0, 1, 2), NONE);
        x.permits(8, 0);
        due("a JUDGE whose PERMIT is gone", x.counts(0, 0, 2), 0);
        due("is still PLANNED", x.winner(0, 0, 2), 0);
    }

    private static void judgeBarred() {
        CHECK.sentence("and the BREED's JUDGE .. is not BARRED from it");
        ShowRings x = Worlds.oneBreed(3, "bar if own == 1 or kin == 1;");
        for (int d = 0; d < 3; d++) {
            x.fact(RANK, 0, d, d + 1);
        }
        x.owned(0, 11, 101);
        x.owned(0, 11, 100);
        int[] counts = {0, 0, 0, 0, 0, 6};
        for (int n = 0; n <= 5; n++) {
            due("as KNOWN by " + n, x.counts(0, 0, n), counts[n]);
        }
        due("the others COUNT", x.counts(0, 1, 5), 0);
        due("the next one wins", x.winner(0, 0, 5), 1);
        x.kin(11, 1);
        due("KIN told later", x.counts(0, 1, 0), 6);
        due("the last one wins", x.winner(0, 0, 5), 2);
        due("as KNOWN by 4", x.winner(0, 0, 4), 0);
        x.owned(0, 0, 100);
        due("sold back", x.counts(0, 0, 6), 0);
        Check.read(x, "bar if age == 80;");
        due("by another text", x.counts(0, 2, 0), 6);
        due("by another text the first COUNTS", x.counts(0, 0, 5), 0);
    }

    private static void leastThatHolds() {
        CHECK.sentence("0 it does; else the least that holds: 1 no ENTRY, 2 ABSENT, 3 STRUCK, 4 out by MEASURE, 5, 6");
        for (int mask = 0; mask < 64; mask++) {
            ShowRings x = new ShowRings();
            Check.read(x, "class 1 if 1 == 1;");
            x.breed(0, 1, 20, 40);
            x.dog(0, 0, 0, 11, 0);
            x.dog(0, 0, 0, 0, 0);
            x.show(1);
            x.permits(11, 1);
            if ((mask & 1) == 0) {
                x.enter(0, 0);
            } else {
                x.enter(0, 1);
            }
            if ((mask & 16) == 0) {
                x.plan(0, 0);
            }
            int n = 0;
            for (int kind = MEASURED; kind >= ABSENT; kind--) {
                if ((mask >> kind & 1) == 1) {
                    n = x.fact(kind, 0, 0, 0) + 1;
                }
            }
            if ((mask & 32) != 0) {
                Check.read(x, "bar if own == 1;");
            }
            int least = mask == 0 ? 0 : Integer.numberOfTrailingZeros(mask) + 1;
            due("with the bits " + mask, x.counts(0, 0, n), least);
        }
    }

    private static void winnerCounts() {
        CHECK.sentence("THE WINNER of a BREED: of those that COUNT and have a RANK");
        ShowRings x = Worlds.oneBreed(5, "bar if own == 1;");
        x.dog(0, 0, 0, 0, 0);
        x.fact(RANK, 0, 5, 1);
        x.fact(RANK, 0, 4, 2);
        x.fact(RANK, 0, 3, 3);
        x.fact(RANK, 0, 2, 4);
        x.fact(RANK, 0, 1, 5);
        due("DOG 5 is no ENTRY", x.winner(0, 0, 5), 4);
        x.fact(ABSENT, 0, 4, 0);
        due("DOG 4 is ABSENT", x.winner(0, 0, 6), 3);
        x.fact(STRUCK, 0, 3, 0);
        due("DOG 3 is STRUCK", x.winner(0, 0, 7), 2);
        x.fact(MEASURED, 0, 2, 19);
        due("DOG 2 is out by MEASURE", x.winner(0, 0, 8), 1);
        x.owned(1, 11, 0);
        due("the JUDGE is BARRED from DOG 1", x.winner(0, 0, 9), NONE);
        due("DOG 0 COUNTS and has no RANK", x.counts(0, 0, 9), 0);
        x.fact(RANK, 0, 0, 20);
        due("DOG 0 has", x.winner(0, 0, 10), 0);
    }

    private static void leastRank() {
        CHECK.sentence("that with the least");
        for (int first = 1; first <= 20; first++) {
            ShowRings x = Worlds.oneBreed(2, "");
            x.fact(RANK, 0, 0, first);
            x.fact(RANK, 0, 1, 10);
            due("RANKS " + first + " and 10", x.winner(0, 0, 2), first <= 10 ? 0 : 1);
        }
        ShowRings y = Worlds.oneBreed(20, "");
        for (int d = 0; d < 20; d++) {
            y.fact(RANK, 0, d, (d + 7) % 20 + 1);
        }
        due("of twenty", y.winner(0, 0, 20), 13);
        y.fact(RANK, 0, 13, 20);
        due("the next", y.winner(0, 0, 21), 14);
    }

    private static void rankToldLast() {
        CHECK.sentence("have a RANK (as told last)");
        ShowRings x = Worlds.oneBreed(2, "");
        x.show(200);
        x.fact(RANK, 0, 0, 2);
        x.fact(RANK, 0, 1, 3);
        x.fact(RANK, 0, 1, 1);
        x.fact(RANK, 0, 1, 20);
        x.fact(RANK, 1, 1, 1);
        x.fact(RANK, 0, 0, 19);
        x.fact(RANK, 0, 0, 20);
        int[] want = {NONE, 0, 0, 1, 0, 0, 0, 1};
        for (int n = 0; n < want.length; n++) {
            due("as KNOWN by " + n, x.winner(0, 0, n), want[n]);
        }
    }

    private static void sameRank() {
        CHECK.sentence("of the same the one whose FACT was told first");
        int[][] turns = {{0, 1, 2}, {0, 2, 1}, {1, 0, 2}, {1, 2, 0}, {2, 0, 1}, {2, 1, 0}};
        for (int rank : new int[] {1, 20}) {
            for (int[] turn : turns) {
                ShowRings x = Worlds.oneBreed(3, "");
                for (int d : turn) {
                    x.fact(RANK, 0, d, rank);
                }
                due("DOG " + turn[0] + " first", x.winner(0, 0, 3), turn[0]);
                x.fact(ABSENT, 0, turn[0], 0);
                due("then DOG " + turn[1], x.winner(0, 0, 4), turn[1]);
            }
        }
    }

    private static void sameRankToldAgain() {
        CHECK.sentence("RANK (as told last) .. whose FACT was told first");
        ShowRings x = Worlds.oneBreed(2, "");
        x.fact(RANK, 0, 0, 3);
        x.fact(RANK, 0, 1, 3);
        x.fact(RANK, 0, 0, 3);
        x.fact(RANK, 0, 1, 4);
        x.fact(RANK, 0, 1, 3);
        int[] want = {NONE, 0, 0, 1, 0, 0};
        for (int n = 0; n < want.length; n++) {
            due("as KNOWN by " + n, x.winner(0, 0, n), want[n]);
        }
    }

    private static void nobodyWins() {
        CHECK.sentence("THE WINNER of a BREED in a SHOW, as KNOWN by n; NONE: nobody, no such ones");
        ShowRings x = Worlds.oneBreed(1, "points 3;");
        x.breed(0, 1, 0, 99);
        due("without a RANK", x.winner(0, 0, 0), NONE);
        due("without ENTRIES", x.winner(0, 1, 0), NONE);
        due("BREED -1", x.winner(0, -1, 0), NONE);
        due("BREED 2", x.winner(0, 2, 0), NONE);
        due("SHOW -1", x.winner(-1, 0, 0), NONE);
        due("SHOW 1", x.winner(1, 0, 0), NONE);
        x.fact(RANK, 0, 0, 20);
        due("one alone", x.winner(0, 0, 1), 0);
        due("its POINTS", x.points(0, 0, 1), 3);
        due("by 2", x.winner(0, 0, 2), NONE);
        due("by -1", x.winner(0, 0, -1), NONE);
    }

    private static int pointsBy(String rules) {
        ShowRings x = Worlds.oneBreed(3, rules);
        x.fact(RANK, 0, 1, 1);
        return x.points(0, 1, 1);
    }

    private static void firstPointsRule() {
        CHECK.sentence("POINTS of the WINNER: the E of the first points RULE that holds (or has no COND)");
        due("no COND", pointsBy("points 4; points 5;"), 4);
        due("holds", pointsBy("points 4 if 1 == 1; points 5;"), 4);
        due("does not", pointsBy("points 4 if 1 == 2; points 5; points 6;"), 5);
        due("the second holds", pointsBy("points 4 if 1 == 2; points 5 if 1 == 1; points 6;"), 5);
        due("the sixteenth", pointsBy("points 4 if 1 == 2;".repeat(14) + "points 5;"), 5);
        due("among other RULES", pointsBy("bar if 1 == 2; title 1 under 1; points 5; bar if 2 == 1;"), 5);
        due("0", pointsBy("points 0; points 5;"), 0);
        due("below 0", pointsBy("points 0 - 9999; points 5;"), -9999);
    }

    private static void noPointsRule() {
        CHECK.sentence("0 if it did not win, for others");
        due("no points RULE", pointsBy(""), 0);
        due("none holds", pointsBy("points 4 if 1 == 2; points 5 if 2 == 1;"), 0);
    }

    private static void pointsVars() {
        CHECK.sentence("points RULE .. age, sex, breed, group, class; beaten");
        due("age", pointsBy("points age;"), 90);
        due("sex", pointsBy("points sex;"), 1);
        due("breed", pointsBy("points breed + 1;"), 1);
        due("group", pointsBy("points group;"), 1);
        due("class", pointsBy("points class;"), 7);
        due("beaten", pointsBy("points beaten;"), 2);
        due("in a COND", pointsBy("points 9 if age == 90 and sex == 1 and breed == 0 and group == 1 and class == 7 and beaten == 2;"), 9);
        ShowRings x = Worlds.oneBreed(1, "");
        x.fact(RANK, 0, 0, 1);
        Check.read(x, "points class;");
        due("no CLASS by the text", x.points(0, 0, 1), -1);
        ShowRings y = new ShowRings();
        Check.read(y, "class 3 if 1 == 1; points breed * 100 + group * 10 + age;");
        for (int b = 0; b < 6; b++) {
            y.breed(b / 2, 1, 0, 99);
            y.dog(b, 50, 0, 0, 0);
        }
        y.show(49);
        y.permits(0, 63);
        for (int d = 0; d < 6; d++) {
            y.enter(0, d);
            y.fact(RANK, 0, d, 1);
        }
        y.plan(0, 0);
        for (int d = 0; d < 6; d++) {
            due("BREED " + d + ", born a DAY later", y.points(0, d, 6), d * 100 + d / 2 * 10);
        }
    }

    private static void beaten() {
        CHECK.sentence("beaten: the others of the BREED that COUNT");
        for (int dogs = 1; dogs <= 20; dogs++) {
            ShowRings x = Worlds.oneBreed(dogs, "points beaten;");
            x.fact(RANK, 0, dogs - 1, 20);
            due("of " + dogs + ", without RANKS", x.points(0, dogs - 1, 1), dogs - 1);
        }
        ShowRings y = Worlds.oneBreed(6, "points beaten; bar if own == 1;");
        y.dog(0, 0, 0, 0, 0);
        y.fact(RANK, 0, 0, 1);
        y.fact(ABSENT, 0, 1, 0);
        y.fact(STRUCK, 0, 2, 0);
        y.fact(MEASURED, 0, 3, 41);
        y.owned(4, 11, 100);
        y.fact(RANK, 0, 5, 2);
        y.fact(MEASURED, 0, 3, 40);
        y.fact(RANK, 0, 6, 2);
        int[] want = {0, 5, 4, 3, 2, 1, 1, 2, 2};
        for (int n = 0; n < want.length; n++) {
            due("as KNOWN by " + n, y.points(0, 0, n), want[n]);
        }
    }

    private static void beatenByBreed() {
        CHECK.sentence("the others of the BREED");
        ShowRings x = new ShowRings();
        Check.read(x, "class 1 if 1 == 1; points beaten;");
        x.breed(0, 1, 0, 99);
        x.breed(0, 1, 0, 99);
        x.show(1);
        x.show(2);
        x.permits(0, 3);
        for (int d = 0; d < 5; d++) {
            x.dog(d < 2 ? 0 : 1, 0, 0, 0, 0);
            x.enter(0, d);
        }
        x.enter(1, 0);
        x.plan(0, 0);
        x.plan(1, 0);
        x.fact(RANK, 0, 0, 1);
        x.fact(RANK, 0, 4, 5);
        x.fact(RANK, 1, 0, 1);
        due("of two", x.points(0, 0, 3), 1);
        due("of three", x.points(0, 4, 3), 2);
        due("in another SHOW", x.points(1, 0, 3), 0);
        due("each BREED has its WINNER", x.winner(0, 1, 3), 4);
    }

    private static void pointsOfWinnerAlone() {
        CHECK.sentence("POINTS of a DOG in a SHOW, as KNOWN by n; 0 if it did not win, for others");
        ShowRings x = Worlds.oneBreed(2, "points 5;");
        x.dog(0, 0, 0, 0, 0);
        x.fact(RANK, 0, 1, 1);
        x.fact(RANK, 0, 0, 2);
        due("the WINNER", x.points(0, 1, 2), 5);
        due("another", x.points(0, 0, 2), 0);
        due("no ENTRY", x.points(0, 2, 2), 0);
        due("ahead of its RANK", x.points(0, 1, 0), 0);
        due("DOG -1", x.points(0, -1, 2), 0);
        due("DOG 3", x.points(0, 3, 2), 0);
        due("SHOW -1", x.points(-1, 1, 2), 0);
        due("SHOW 1", x.points(1, 1, 2), 0);
        due("by -1", x.points(0, 1, -1), 0);
        due("by 3", x.points(0, 1, 3), 0);
    }

    /** DOG 0 wins in each of so many SHOWS, under the JUDGES given for them; then another text is read. */
    private static ShowRings wins(int[] judges, String text) {
        ShowRings x = Worlds.manyShows(2, judges, "");
        for (int s = 0; s < judges.length; s++) {
            x.fact(RANK, s, 0, 1);
        }
        due("read()", Check.read(x, text), 0);
        return x;
    }

    private static void titlePoints() {
        CHECK.sentence("its POINTS of all SHOWS up to it come to the first INT or more");
        int[] judges = {5, 6, 7};
        int[][] rows = {{0, 0}, {1, 0}, {4, 0}, {5, 1}, {8, 1}, {9, 2}, {12, 2}, {13, NONE}, {9999, NONE}};
        for (int[] row : rows) {
            ShowRings x = wins(judges, "points 4; title " + row[0] + " under 1;");
            due("title " + row[0] + " under 1", x.title(0, 3), row[1]);
            due("of the other DOG", x.title(1, 3), NONE);
        }
        due("9999 at once", wins(judges, "points 9999; title 9999 under 1;").title(0, 3), 0);
        due("9998 in two", wins(judges, "points 9998; title 9999 under 1;").title(0, 3), 1);
    }

    private static void titleJudges() {
        CHECK.sentence("it WON under as many unlike JUDGES as the second INT says, or more");
        int[] judges = {11, 11, 0, 11, 5};
        int[] want = {0, 0, 2, 4, NONE};
        for (int under = 0; under < want.length; under++) {
            ShowRings x = wins(judges, "points 1; title 1 under " + under + ";");
            due("title 1 under " + under, x.title(0, 5), want[under]);
        }
        due("title 1 under 9999", wins(judges, "points 1; title 1 under 9999;").title(0, 5), NONE);
        ShowRings y = Worlds.manyShows(2, judges, "points 1; title 1 under 2;");
        y.fact(RANK, 0, 0, 1);
        y.fact(RANK, 2, 1, 1);
        y.fact(RANK, 2, 0, 2);
        y.fact(RANK, 4, 0, 1);
        due("a JUDGE under whom it did not win", y.title(0, 4), 4);
        due("by 3", y.title(0, 3), NONE);
    }

    private static void titleFirstShow() {
        CHECK.sentence("the first SHOW, by DAYS, with which");
        ShowRings x = Worlds.manyShows(2, new int[] {5, 6, 7, 8}, "points 3; title 6 under 2;");
        x.fact(RANK, 3, 0, 1);
        x.fact(RANK, 2, 0, 1);
        x.fact(RANK, 0, 0, 1);
        x.fact(RANK, 1, 0, 1);
        x.fact(STRUCK, 0, 0, 0);
        x.fact(STRUCK, 2, 0, 0);
        x.fact(STRUCK, 3, 0, 0);
        int[] want = {NONE, NONE, 3, 2, 1, 2, 3, NONE};
        for (int n = 0; n < want.length; n++) {
            due("as KNOWN by " + n, x.title(0, n), want[n]);
        }
    }

    private static void titleFirstRule() {
        CHECK.sentence("by the first title RULE, INT and INT");
        int[] judges = {5, 6, 7};
        due("the first", wins(judges, "points 1; title 3 under 1; title 1 under 1;").title(0, 3), 2);
        due("the first, never", wins(judges, "points 1; title 4 under 1; title 1 under 1;").title(0, 3), NONE);
        due("INT and INT", wins(judges, "points 1; title 1 under 2;").title(0, 3), 1);
        due("INT and INT", wins(judges, "points 1; title 2 under 1;").title(0, 3), 1);
        due("the sixteenth", wins(judges, "points 1;".repeat(15) + "title 2 under 1;").title(0, 3), 1);
        due("no title RULE", wins(judges, "points 1;").title(0, 3), NONE);
        due("no text", wins(judges, "").title(0, 3), NONE);
    }

    private static void titleOfNothing() {
        CHECK.sentence("come to the first INT or more (of 0)");
        int[] judges = {5, 6};
        due("0 under 0", wins(judges, "title 0 under 0;").title(0, 2), 0);
        due("0 under 0 without a win", wins(judges, "title 0 under 0;").title(1, 2), 0);
        due("0 under 1 without POINTS", wins(judges, "title 0 under 1;").title(0, 2), 0);
        due("0 under 1 without a win", wins(judges, "title 0 under 1;").title(1, 2), NONE);
        due("1 under 0 without a win", wins(judges, "points 1; title 1 under 0;").title(1, 2), NONE);
        due("1 under 0", wins(judges, "points 1; title 1 under 0;").title(0, 2), 0);
        due("POINTS of 0", wins(judges, "points 0; title 1 under 1;").title(0, 2), NONE);
        ShowRings x = new ShowRings();
        Check.read(x, "title 0 under 0;");
        x.breed(0, 1, 0, 99);
        x.dog(0, 0, 0, 0, 0);
        due("without a SHOW", x.title(0, 0), NONE);
        x.show(0);
        due("with the first SHOW", x.title(0, 0), 0);
        due("DOG -1", x.title(-1, 0), NONE);
        due("DOG 1", x.title(1, 0), NONE);
        due("by 1", x.title(0, 1), NONE);
        due("by -1", x.title(0, -1), NONE);
    }

    private static void titleUpToIt() {
        CHECK.sentence("POINTS of all SHOWS up to it (they may be below 0)");
        int[] judges = {5, 5, 6, 7};
        String less = "points 10 if age == 10; points 0 - 3 if age == 20; points 0 - 5 if age == 30; points 1;";
        due("enough ahead, JUDGES later, enough no more", wins(judges, less + "title 3 under 2;").title(0, 4), 3);
        due("just enough", wins(judges, less + "title 2 under 2;").title(0, 4), 2);
        due("at once", wins(judges, less + "title 10 under 1;").title(0, 4), 0);
        due("never", wins(judges, less + "title 4 under 2;").title(0, 4), NONE);
        due("below 0 alone", wins(judges, "points 0 - 1; title 0 under 1;").title(0, 4), NONE);
    }

    private static void titleWraps() {
        CHECK.sentence("Ints of 32 bits that wrap (the sum of POINTS)");
        String low = "8192 * 8192 * 32";
        int[] judges = {5, 6, 7};
        due("-2^31 twice is 0", wins(judges, "points " + low + "; title 0 under 1;").title(0, 3), 1);
        due("2^31 - 1 twice is -2", wins(judges, "points " + low + " - 1; title 1 under 2;").title(0, 3), 2);
        due("2^31 - 1 once", wins(judges, "points " + low + " - 1; title 1 under 1;").title(0, 3), 0);
    }

    private static void titleFiveShows() {
        CHECK.sentence("the first SHOW (of five)");
        int[] judges = {0, 3, 5, 8, 11};
        for (int under = 0; under <= 6; under++) {
            ShowRings x = wins(judges, "points 2; title 0 under " + under + ";");
            due("title 0 under " + under, x.title(0, 5), under == 0 ? 0 : under == 6 ? NONE : under - 1);
            ShowRings y = wins(judges, "points 2; title " + 2 * under + " under 0;");
            due("title " + 2 * under + " under 0", y.title(0, 5), under == 0 ? 0 : under == 6 ? NONE : under - 1);
        }
    }

    private static void changedFirstBreed() {
        CHECK.sentence("The first BREED whose WINNER in a SHOW is another one as KNOWN by m than as KNOWN by n");
        ShowRings x = new ShowRings();
        Check.read(x, "class 1 if 1 == 1;");
        x.show(1);
        x.show(2);
        x.permits(0, 63);
        for (int b = 0; b < 6; b++) {
            x.breed(0, 1, 0, 99);
            x.dog(b, 0, 0, 0, 0);
            x.dog(b, 0, 0, 0, 0);
            x.enter(0, 2 * b);
            x.enter(0, 2 * b + 1);
        }
        x.plan(0, 0);
        for (int d = 0; d < 12; d++) {
            x.fact(RANK, 0, d, 5);
        }
        for (int b = 5; b >= 0; b--) {
            int n = x.fact(RANK, 0, 2 * b + 1, 4);
            due("BREED " + b, x.changed(0, n, n + 1), b);
            due("BREED " + b + " and those behind", x.changed(0, 12, n + 1), b);
            due("backwards", x.changed(0, n + 1, n), b);
            due("the same", x.changed(0, n + 1, n + 1), NONE);
            due("in another SHOW", x.changed(1, 0, n + 1), NONE);
        }
        int n = x.fact(RANK, 0, 0, 5);
        due("the same WINNERS", x.changed(0, n, n + 1), NONE);
        due("SHOW -1", x.changed(-1, 0, n), NONE);
        due("SHOW 2", x.changed(2, 0, n), NONE);
        due("by -1", x.changed(0, -1, n), NONE);
        due("to -1", x.changed(0, n, -1), NONE);
        due("by n + 2", x.changed(0, n + 2, 0), NONE);
        due("to n + 2", x.changed(0, 0, n + 2), NONE);
        due("by all", x.changed(0, n + 1, 0), 0);
        due("to all", x.changed(0, 0, n + 1), 0);
    }

    private static void changedNobody() {
        CHECK.sentence("WINNER .. is another one (nobody)");
        ShowRings x = Worlds.oneBreed(1, "");
        x.fact(RANK, 0, 0, 1);
        x.fact(ABSENT, 0, 0, 0);
        due("from nobody", x.changed(0, 0, 1), 0);
        due("to nobody", x.changed(0, 1, 2), 0);
        due("nobody twice", x.changed(0, 0, 2), NONE);
        due("0 and 0", x.changed(0, 0, 0), NONE);
    }
}
