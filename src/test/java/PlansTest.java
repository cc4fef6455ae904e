/** The sentences of 'III. A PLAN': who takes how long, what may be at once, which ORDER is taken, when there is none. */
public final class PlansTest {
    private static final int NONE = ShowRings.NONE;
    private static final Check CHECK = new Check("PlansTest");

    public static void main(String[] args) {
        breedsWithEntries();
        minutesForEach();
        withPermit();
        notBarredFromAny();
        oneBreedInRing();
        oneBreedByJudge();
        oneBreedWithHandler();
        fromMinute0();
        freeForAllItsMinutes();
        leastRingLeastJudge();
        endsSoonest();
        leastSum();
        firstOrder();
        sixBreeds();
        noJudge();
        noEntries();
        knownByN();
        plannedAgain();
        plannedWhat();
        textBehindPlan();
        showsApart();
        clashEdges();
        clashBetween();
        clashLeast();
        clashOwnMinutes();
        clashNobody();
        enteredBehindPlan();
        CHECK.end();
    }

    private static void due(String call, long got, long want) {
        CHECK.due(call, got, want);
    }

    private static void planOf(ShowRings x, int show, int breed, int ring, int judge, int begin, int end) {
        int[] want = {ring, judge, begin, end};
        for (int what = 0; what < 4; what++) {
            due("planned(" + show + ", " + breed + ", " + what + ")", x.planned(show, breed, what), want[what]);
        }
    }

    private static void noPlanOf(ShowRings x, int show, int breed) {
        planOf(x, show, breed, NONE, NONE, NONE, NONE);
    }

    private static void breedsWithEntries() {
        CHECK.sentence("Each BREED with ENTRIES takes MINUTES");
        ShowRings x = new ShowRings();
        Check.read(x, "class 1 if 1 == 1;");
        for (int b = 0; b < 6; b++) {
            x.breed(0, 9, 0, 99);
            x.dog(b, 0, 0, 0, b);
        }
        x.show(10);
        x.permits(3, 32);
        x.enter(0, 5);
        due("BREED 5 alone", x.plan(0, 0), 9);
        planOf(x, 0, 5, 0, 3, 0, 9);
        for (int b = 0; b < 5; b++) {
            noPlanOf(x, 0, b);
        }
    }

    private static void minutesForEach() {
        CHECK.sentence("takes MINUTES for each of them");
        ShowRings x = new ShowRings();
        Check.read(x, "class 1 if 1 == 1;");
        x.breed(0, 7, 50, 50);
        x.show(10);
        x.permits(3, 1);
        for (int d = 0; d < 20; d++) {
            x.dog(0, 0, 0, 0, d % 12);
        }
        for (int d = 0; d < 19; d++) {
            x.enter(0, d);
        }
        due("19 ENTRIES of 20 DOGS", x.plan(0, 0), 133);
        x.show(11);
        x.enter(1, 4);
        due("one ENTRY", x.plan(1, 0), 7);
        x.show(12);
        x.enter(2, 4);
        x.enter(2, 5);
        x.enter(2, 6);
        x.fact(1, 2, 4, 0);
        x.fact(2, 2, 5, 0);
        x.fact(3, 2, 6, 0);
        due("ABSENT, STRUCK, out by MEASURE: ENTRIES all", x.plan(2, 3), 21);
    }

    private static void withPermit() {
        CHECK.sentence("by one JUDGE who has its PERMIT");
        for (int judge = 0; judge < 12; judge++) {
            for (int b = 0; b < 6; b++) {
                ShowRings x = Worlds.oneDogEach(3, new int[] {1, 1, 1, 1, 1, 1}, new int[] {0, 1, 2, 3, 4, 5}, new int[] {});
                x.permits(judge, 1 << b);
                x.permits((judge + 1) % 12, 63 & ~(1 << b));
                CHECK.due("plan", x.plan(0, 0) > 0, true);
                for (int other = 0; other < 6; other++) {
                    due("JUDGE of " + other, x.planned(0, other, 1), other == b ? judge : (judge + 1) % 12);
                }
            }
        }
    }

    private static void notBarredFromAny() {
        CHECK.sentence("and is not BARRED from any of its ENTRIES");
        for (int barredFrom = 0; barredFrom < 5; barredFrom++) {
            ShowRings x = new ShowRings();
            Check.read(x, "class 1 if 1 == 1; bar if own == 1;");
            x.breed(0, 1, 0, 99);
            x.show(10);
            for (int d = 0; d < 5; d++) {
                x.dog(0, 0, 0, d == barredFrom ? 7 : 6, d);
            }
            for (int d = 0; d < 4; d++) {
                x.enter(0, d);
            }
            x.permits(7, 1);
            due("BARRED from DOG " + barredFrom, x.plan(0, 0), barredFrom == 4 ? 4 : -2);
            x.permits(8, 1);
            due("another is not", x.plan(0, 0), 4);
            due("the JUDGE", x.planned(0, 0, 1), barredFrom == 4 ? 7 : 8);
        }
    }

    private static void oneBreedInRing() {
        CHECK.sentence("in a RING .. there is one BREED at a time");
        ShowRings x = Worlds.oneDogEach(1, new int[] {2, 3}, new int[] {0, 1}, new int[] {63, 63});
        due("one RING, two JUDGES", x.plan(0, 0), 5);
        planOf(x, 0, 0, 0, 0, 0, 2);
        planOf(x, 0, 1, 0, 0, 2, 5);
        x.rings(2);
        due("two RINGS", x.plan(0, 0), 3);
        planOf(x, 0, 0, 0, 0, 0, 2);
        planOf(x, 0, 1, 1, 1, 0, 3);
    }

    private static void oneBreedByJudge() {
        CHECK.sentence("by a JUDGE .. there is one BREED at a time");
        ShowRings x = Worlds.oneDogEach(3, new int[] {2, 3}, new int[] {0, 1}, new int[] {63});
        due("three RINGS, one JUDGE", x.plan(0, 0), 5);
        planOf(x, 0, 0, 0, 0, 0, 2);
        planOf(x, 0, 1, 0, 0, 2, 5);
    }

    private static void oneBreedWithHandler() {
        CHECK.sentence("with a HANDLER there is one BREED at a time (HANDLERS of its ENTRIES)");
        for (int handler : new int[] {0, 11}) {
            ShowRings x = Worlds.oneDogEach(3, new int[] {2, 3}, new int[] {handler, handler}, new int[] {63, 63});
            due("HANDLER " + handler + " of both", x.plan(0, 0), 5);
            planOf(x, 0, 0, 0, 0, 0, 2);
            planOf(x, 0, 1, 0, 0, 2, 5);
        }
        ShowRings y = new ShowRings();
        Check.read(y, "class 1 if 1 == 1;");
        y.breed(0, 1, 0, 99);
        y.breed(0, 1, 0, 99);
        int[] handlers = {1, 2, 3, 4, 5, 3};
        for (int d = 0; d < 6; d++) {
            y.dog(d / 3, 0, 0, 9, handlers[d]);
        }
        y.rings(2);
        y.permits(7, 3);
        y.permits(8, 3);
        y.show(1);
        for (int d = 0; d < 5; d++) {
            y.enter(0, d);
        }
        due("HANDLER 3 has one ENTRY", y.plan(0, 0), 3);
        y.show(2);
        for (int d = 0; d < 6; d++) {
            y.enter(1, d);
        }
        due("HANDLER 3 has two, the last of each BREED", y.plan(1, 0), 6);
        ShowRings z = Worlds.oneDogEach(2, new int[] {4, 4}, new int[] {5, 6}, new int[] {0, 0, 0, 0, 0, 3, 3});
        due("a JUDGE may be a HANDLER elsewhere", z.plan(0, 0), 4);
    }

    private static void fromMinute0() {
        CHECK.sentence("each in turn gets the soonest MINUTE (from 0 on)");
        ShowRings x = Worlds.oneDogEach(1, new int[] {1, 1, 1}, new int[] {0, 0, 0}, new int[] {63});
        due("all is over", x.plan(0, 0), 3);
        for (int b = 0; b < 3; b++) {
            planOf(x, 0, b, 0, 0, b, b + 1);
        }
        ShowRings y = Worlds.oneDogEach(3, new int[] {1, 1, 1}, new int[] {0, 1, 2}, new int[] {63, 63, 63});
        due("all at once", y.plan(0, 0), 1);
        for (int b = 0; b < 3; b++) {
            planOf(y, 0, b, b, b, 0, 1);
        }
    }

    private static void freeForAllItsMinutes() {
        CHECK.sentence("at which some RING and some JUDGE are free for all its MINUTES");
        int[] permits = {1, 6, 6};
        int[] handlers = {0, 0, 3};
        ShowRings x = Worlds.oneDogEach(2, new int[] {1, 2, 1}, handlers, permits);
        due("ahead of what JUDGE 1 has later", x.plan(0, 0), 3);
        planOf(x, 0, 0, 0, 0, 0, 1);
        planOf(x, 0, 1, 0, 1, 1, 3);
        planOf(x, 0, 2, 1, 1, 0, 1);
        ShowRings y = Worlds.oneDogEach(2, new int[] {1, 2, 2}, handlers, permits);
        due("a minute too long for that", y.plan(0, 0), 3);
        planOf(y, 0, 0, 0, 0, 0, 1);
        planOf(y, 0, 1, 0, 1, 1, 3);
        planOf(y, 0, 2, 1, 2, 0, 2);
        ShowRings z = Worlds.oneDogEach(3, new int[] {5, 2, 1, 1}, new int[] {0, 3, 3, 2}, new int[] {10, 5, 8});
        due("ahead of what RING 1 has later", z.plan(0, 0), 6);
        planOf(z, 0, 2, 0, 1, 0, 1);
        planOf(z, 0, 0, 0, 1, 1, 6);
        planOf(z, 0, 1, 1, 0, 1, 3);
        planOf(z, 0, 3, 1, 0, 0, 1);
    }

    private static void leastRingLeastJudge() {
        CHECK.sentence("of these the least RING, then the least JUDGE");
        ShowRings x = Worlds.oneDogEach(3, new int[] {5, 5, 5}, new int[] {0, 1, 2},
                new int[] {0, 0, 0, 7, 0, 0, 0, 7, 0, 0, 7, 7});
        due("plan", x.plan(0, 0), 5);
        planOf(x, 0, 0, 0, 3, 0, 5);
        planOf(x, 0, 1, 1, 7, 0, 5);
        planOf(x, 0, 2, 2, 10, 0, 5);
        ShowRings y = Worlds.oneDogEach(2, new int[] {5, 5}, new int[] {0, 1}, new int[] {2, 3});
        due("the least may have no PERMIT", y.plan(0, 0), 5);
        planOf(y, 0, 0, 0, 1, 0, 5);
        planOf(y, 0, 1, 1, 0, 0, 5);
        ShowRings z = Worlds.oneDogEach(2, new int[] {2, 3, 3}, new int[] {0, 1, 2}, new int[] {7, 7});
        due("behind the one that ends first", z.plan(0, 0), 5);
        planOf(z, 0, 0, 0, 0, 0, 2);
        planOf(z, 0, 1, 1, 1, 0, 3);
        planOf(z, 0, 2, 0, 0, 2, 5);
    }

    private static void endsSoonest() {
        CHECK.sentence("of all ORDERS that by which the last BREED ends soonest");
        ShowRings x = Worlds.oneDogEach(2, new int[] {2, 2, 2, 3, 3}, new int[] {0, 1, 2, 3, 4}, new int[] {63, 63});
        due("6, though 7 has the lesser sum", x.plan(0, 0), 6);
        planOf(x, 0, 0, 0, 0, 0, 2);
        planOf(x, 0, 3, 1, 1, 0, 3);
        planOf(x, 0, 1, 0, 0, 2, 4);
        planOf(x, 0, 4, 1, 1, 3, 6);
        planOf(x, 0, 2, 0, 0, 4, 6);
        ShowRings y = Worlds.oneDogEach(2, new int[] {1, 1, 2}, new int[] {0, 1, 2}, new int[] {7, 7});
        due("2 and 1 + 1", y.plan(0, 0), 2);
        planOf(y, 0, 0, 0, 0, 0, 1);
        planOf(y, 0, 2, 1, 1, 0, 2);
        planOf(y, 0, 1, 0, 0, 1, 2);
    }

    private static void leastSum() {
        CHECK.sentence("of these the least sum of all ends");
        ShowRings x = Worlds.oneDogEach(1, new int[] {9, 1, 5}, new int[] {0, 1, 2}, new int[] {7});
        due("plan", x.plan(0, 0), 15);
        planOf(x, 0, 1, 0, 0, 0, 1);
        planOf(x, 0, 2, 0, 0, 1, 6);
        planOf(x, 0, 0, 0, 0, 6, 15);
        ShowRings y = Worlds.oneDogEach(1, new int[] {2, 1}, new int[] {0, 1}, new int[] {3});
        due("1 + 3, not 2 + 3", y.plan(0, 0), 3);
        planOf(y, 0, 1, 0, 0, 0, 1);
        planOf(y, 0, 0, 0, 0, 1, 3);
    }

    private static void firstOrder() {
        CHECK.sentence("of these the first (the least BREED first, and so on)");
        ShowRings x = Worlds.oneDogEach(1, new int[] {4, 4, 4, 4}, new int[] {0, 1, 2, 3}, new int[] {15});
        due("plan", x.plan(0, 0), 16);
        for (int b = 0; b < 4; b++) {
            planOf(x, 0, b, 0, 0, 4 * b, 4 * b + 4);
        }
        ShowRings y = Worlds.oneDogEach(1, new int[] {5, 2, 5, 2}, new int[] {0, 1, 2, 3}, new int[] {15});
        due("plan", y.plan(0, 0), 14);
        planOf(y, 0, 1, 0, 0, 0, 2);
        planOf(y, 0, 3, 0, 0, 2, 4);
        planOf(y, 0, 0, 0, 0, 4, 9);
        planOf(y, 0, 2, 0, 0, 9, 14);
        ShowRings z = Worlds.oneDogEach(2, new int[] {3, 3}, new int[] {0, 1}, new int[] {3, 3});
        due("plan", z.plan(0, 0), 3);
        planOf(z, 0, 0, 0, 0, 0, 3);
        planOf(z, 0, 1, 1, 1, 0, 3);
    }

    private static void sixBreeds() {
        CHECK.sentence("of all ORDERS (of six BREEDS)");
        ShowRings x = Worlds.oneDogEach(1, new int[] {9, 8, 7, 6, 5, 4}, new int[6], new int[] {63});
        due("plan", x.plan(0, 0), 39);
        int[] begins = {30, 22, 15, 9, 4, 0};
        for (int b = 0; b < 6; b++) {
            planOf(x, 0, b, 0, 0, begins[b], begins[b] + 9 - b);
        }
        ShowRings y = Worlds.oneDogEach(3, new int[] {9, 9, 9, 9, 9, 9}, new int[] {0, 1, 2, 3, 4, 5}, new int[] {63, 63, 63});
        due("plan", y.plan(0, 0), 18);
        for (int b = 0; b < 6; b++) {
            planOf(y, 0, b, b % 3, b % 3, b < 3 ? 0 : 9, b < 3 ? 9 : 18);
        }
        ShowRings z = new ShowRings();
        Check.read(z, "class 1 if 1 == 1;");
        z.show(0);
        z.permits(11, 63);
        for (int b = 0; b < 6; b++) {
            z.breed(0, 9, 0, 99);
        }
        for (int d = 0; d < 20; d++) {
            z.dog(d % 6, 0, 0, 0, 0);
            z.enter(0, d);
        }
        due("20 DOGS of 9 MINUTES in one RING", z.plan(0, 0), 180);
        due("the last end", z.planned(0, 1, 3), 180);
    }

    private static void noJudge() {
        CHECK.sentence("If a BREED has no JUDGE, there is none");
        for (int without = 0; without < 6; without++) {
            ShowRings x = Worlds.oneDogEach(3, new int[] {1, 1, 1, 1, 1, 1}, new int[] {0, 1, 2, 3, 4, 5},
                    new int[] {63 & ~(1 << without)});
            due("BREED " + without, x.plan(0, 0), -2);
            for (int b = 0; b < 6; b++) {
                noPlanOf(x, 0, b);
            }
        }
        ShowRings y = new ShowRings();
        Check.read(y, "class 1 if 1 == 1;");
        y.breed(0, 1, 0, 99);
        y.breed(0, 1, 0, 99);
        y.dog(0, 0, 0, 0, 0);
        y.dog(1, 0, 0, 0, 0);
        y.show(0);
        y.enter(0, 0);
        y.permits(0, 1);
        due("a BREED without ENTRIES needs none", y.plan(0, 0), 1);
    }

    private static void noEntries() {
        CHECK.sentence("the MINUTE at which all is over (0 without ENTRIES)");
        ShowRings x = new ShowRings();
        x.show(0);
        due("nothing there", x.plan(0, 0), 0);
        x.breed(0, 1, 0, 99);
        x.dog(0, 0, 0, 0, 0);
        due("a BREED and a DOG", x.plan(0, 0), 0);
        noPlanOf(x, 0, 0);
        due("no JUDGE is PLANNED", x.winner(0, 0, 0), NONE);
        Check.read(x, "class 1 if 1 == 1;");
        due("enter: it is not PLANNED", x.enter(0, 0), 1);
    }

    private static void knownByN() {
        CHECK.sentence("THE PLAN of a SHOW, as KNOWN by n, is what is PLANNED");
        ShowRings x = new ShowRings();
        Check.read(x, "class 1 if 1 == 1; bar if own == 1; bar if parted == 1;");
        x.breed(0, 1, 0, 99);
        x.dog(0, 0, 0, 0, 0);
        x.show(50);
        x.enter(0, 0);
        x.permits(7, 1);
        x.permits(8, 1);
        x.owned(0, 7, 51);
        x.owned(0, 7, 50);
        x.owned(0, 8, 50);
        x.owned(0, 7, 49);
        x.owned(0, 9, 50);
        int[] judges = {7, 7, 8, 7, NONE, 8};
        for (int n = 0; n <= 5; n++) {
            due("plan by " + n, x.plan(0, n), judges[n] == NONE ? -2 : 1);
            due("JUDGE by " + n, x.planned(0, 0, 1), judges[n] == NONE ? judges[n - 1] : judges[n]);
        }
    }

    private static void plannedAgain() {
        CHECK.sentence("THE PLAN .. is what is PLANNED (in place of the one ahead)");
        ShowRings x = Worlds.oneDogEach(1, new int[] {2, 3}, new int[] {0, 1}, new int[] {3, 3});
        due("plan", x.plan(0, 0), 5);
        due("again the same", x.plan(0, 0), 5);
        x.rings(3);
        planOf(x, 0, 1, 0, 0, 2, 5);
        due("with more RINGS", x.plan(0, 0), 3);
        planOf(x, 0, 1, 1, 1, 0, 3);
        x.permits(0, 0);
        planOf(x, 0, 0, 0, 0, 0, 2);
        due("with one JUDGE less", x.plan(0, 0), 5);
        planOf(x, 0, 0, 0, 1, 0, 2);
        x.permits(1, 0);
        due("with none", x.plan(0, 0), -2);
        planOf(x, 0, 0, 0, 1, 0, 2);
        planOf(x, 0, 1, 0, 1, 2, 5);
    }

    private static void plannedWhat() {
        CHECK.sentence("what 0: RING, 1: JUDGE, 2: MINUTE at which it begins, 3: at which it ends. NONE: nothing, no such ones");
        ShowRings x = Worlds.oneDogEach(2, new int[] {6, 7}, new int[] {3, 3}, new int[] {1, 0, 0, 0, 2});
        noPlanOf(x, 0, 0);
        due("plan", x.plan(0, 0), 13);
        planOf(x, 0, 0, 0, 0, 0, 6);
        planOf(x, 0, 1, 0, 4, 6, 13);
        due("what -1", x.planned(0, 0, -1), NONE);
        due("what 4", x.planned(0, 0, 4), NONE);
        due("BREED -1", x.planned(0, -1, 0), NONE);
        due("BREED 2", x.planned(0, 2, 0), NONE);
        due("SHOW -1", x.planned(-1, 0, 0), NONE);
        due("SHOW 1", x.planned(1, 0, 0), NONE);
    }

    private static void textBehindPlan() {
        CHECK.sentence("what was PLANNED stay (behind another text)");
        ShowRings x = Worlds.oneDogEach(1, new int[] {2, 3}, new int[] {0, 1}, new int[] {3});
        x.plan(0, 0);
        Check.read(x, "class 1 if 1 == 1; bar if 1 == 1;");
        planOf(x, 0, 0, 0, 0, 0, 2);
        planOf(x, 0, 1, 0, 0, 2, 5);
        due("no JUDGE is left", x.plan(0, 0), -2);
        planOf(x, 0, 1, 0, 0, 2, 5);
    }

    private static void showsApart() {
        CHECK.sentence("A PLAN of a SHOW");
        ShowRings x = new ShowRings();
        Check.read(x, "class 1 if 1 == 1;");
        x.breed(0, 2, 0, 99);
        x.dog(0, 0, 0, 0, 0);
        x.dog(0, 0, 0, 0, 0);
        for (int s = 0; s < 5; s++) {
            x.show(s);
            for (int p = 0; p < 12; p++) {
                x.permits(p, p == s ? 1 : 0);
            }
            x.enter(s, 0);
            if (s % 2 == 1) {
                x.enter(s, 1);
            }
            due("plan", x.plan(s, 0), s % 2 == 1 ? 4 : 2);
        }
        for (int s = 0; s < 5; s++) {
            planOf(x, s, 0, 0, s, 0, s % 2 == 1 ? 4 : 2);
        }
    }

    /** BREED 0 at 0 .. 4 and BREED 1 at 4 .. 9, both with HANDLER 7; BREED 2 at 0 .. 2 with HANDLER 1. */
    private static ShowRings twoWithHandler7() {
        ShowRings x = Worlds.oneDogEach(3, new int[] {4, 5, 2}, new int[] {7, 7, 1}, new int[] {7, 7, 7});
        due("plan", x.plan(0, 0), 9);
        planOf(x, 0, 0, 0, 0, 0, 4);
        planOf(x, 0, 1, 0, 0, 4, 9);
        planOf(x, 0, 2, 1, 1, 0, 2);
        return x;
    }

    private static void clashEdges() {
        CHECK.sentence("The HANDLER that would be in two RINGS at once in a SHOW if a BREED began at a MINUTE (0 .. 9999)");
        ShowRings x = twoWithHandler7();
        for (int minute = 0; minute < 12; minute++) {
            due("BREED 0 at " + minute, x.clash(0, 0, minute), minute >= 1 && minute < 9 ? 7 : NONE);
            due("BREED 1 at " + minute, x.clash(0, 1, minute), minute < 4 ? 7 : NONE);
            due("BREED 2 at " + minute, x.clash(0, 2, minute), NONE);
        }
        due("at 9999", x.clash(0, 0, 9999), NONE);
        due("at 10000", x.clash(0, 0, 10000), NONE);
        due("at -1", x.clash(0, 1, -1), NONE);
        due("at the most", x.clash(0, 1, Integer.MAX_VALUE), NONE);
        due("at the least", x.clash(0, 1, Integer.MIN_VALUE), NONE);
        planOf(x, 0, 0, 0, 0, 0, 4);
    }

    private static void clashBetween() {
        CHECK.sentence("if a BREED began at a MINUTE, all else as PLANNED");
        ShowRings x = Worlds.oneDogEach(1, new int[] {3, 4, 5}, new int[] {1, 2, 2}, new int[] {7});
        due("plan", x.plan(0, 0), 12);
        planOf(x, 0, 1, 0, 0, 3, 7);
        planOf(x, 0, 2, 0, 0, 7, 12);
        for (int minute = 0; minute < 15; minute++) {
            due("BREED 1 at " + minute, x.clash(0, 1, minute), minute > 3 && minute < 12 ? 2 : NONE);
            due("BREED 2 at " + minute, x.clash(0, 2, minute), minute < 7 ? 2 : NONE);
            due("BREED 0 at " + minute, x.clash(0, 0, minute), NONE);
        }
    }

    private static void clashLeast() {
        CHECK.sentence("all else as PLANNED: the least one");
        for (int least = 0; least < 12; least++) {
            ShowRings x = new ShowRings();
            Check.read(x, "class 1 if 1 == 1;");
            x.show(0);
            x.permits(5, 3);
            x.breed(0, 1, 0, 99);
            x.breed(0, 1, 0, 99);
            for (int handler = 11; handler >= least && handler > 2; handler -= 3) {
                x.dog(0, 0, 0, 0, handler);
                x.dog(1, 0, 0, 0, handler);
            }
            x.dog(1, 0, 0, 0, least);
            x.dog(0, 0, 0, 0, least);
            if (least > 0) {
                x.dog(0, 0, 0, 0, least - 1);
            }
            for (int d = 0; d < x.count(1); d++) {
                x.enter(0, d);
            }
            x.plan(0, 0);
            due("the least of more", x.clash(0, 1, x.planned(0, 0, 2)), least);
            due("of the other BREED", x.clash(0, 0, x.planned(0, 1, 2)), least);
        }
    }

    private static void clashOwnMinutes() {
        CHECK.sentence("if a BREED began at a MINUTE (itself left out)");
        ShowRings x = Worlds.oneDogEach(1, new int[] {9}, new int[] {3}, new int[] {1});
        x.plan(0, 0);
        for (int minute = 0; minute < 10; minute++) {
            due("alone, at " + minute, x.clash(0, 0, minute), NONE);
        }
    }

    private static void clashNobody() {
        CHECK.sentence("NONE: nobody, no such ones, the BREED is not PLANNED");
        ShowRings x = Worlds.oneDogEach(1, new int[] {4, 5}, new int[] {7, 7}, new int[] {1});
        due("nothing is PLANNED", x.clash(0, 0, 0), NONE);
        due("there is no PLAN", x.plan(0, 0), -2);
        due("still nothing", x.clash(0, 0, 0), NONE);
        x.permits(0, 3);
        x.plan(0, 0);
        due("PLANNED", x.clash(0, 1, 0), 7);
        x.breed(0, 1, 0, 99);
        x.dog(2, 0, 0, 0, 7);
        x.enter(0, 2);
        due("a BREED entered behind the PLAN", x.clash(0, 2, 0), NONE);
        due("and it is in nobody's way", x.clash(0, 1, 9), NONE);
        due("a BREED that is not there", x.clash(0, 3, 0), NONE);
        due("a SHOW that is not there", x.clash(1, 0, 0), NONE);
    }

    private static void enteredBehindPlan() {
        CHECK.sentence("-3: its BREED is PLANNED there");
        ShowRings x = new ShowRings();
        Check.read(x, "class 1 if age < 90; class 2 if sex == 1;");
        x.breed(0, 2, 0, 99);
        x.breed(0, 3, 0, 99);
        x.dog(0, 50, 0, 0, 0);
        x.dog(0, 50, 0, 0, 1);
        x.dog(0, 0, 0, 0, 2);
        x.dog(1, 0, 1, 0, 3);
        x.show(100);
        x.show(101);
        due("enter", x.enter(0, 0), 1);
        due("no PLAN yet", x.plan(0, 0), -2);
        due("enter: not PLANNED", x.enter(0, 1), 1);
        x.permits(9, 3);
        due("plan", x.plan(0, 0), 4);
        x.dog(0, 60, 0, 0, 4);
        due("its BREED is PLANNED", x.enter(0, 4), -3);
        due("without a CLASS", x.enter(0, 2), -2);
        due("it is one", x.enter(0, 0), NONE);
        due("ENTRIES", x.count(10), 2);
        due("another BREED", x.enter(0, 3), 2);
        due("another SHOW", x.enter(1, 4), 1);
        noPlanOf(x, 0, 1);
        due("plan again", x.plan(0, 0), 7);
        planOf(x, 0, 1, 0, 9, 0, 3);
        planOf(x, 0, 0, 0, 9, 3, 7);
    }
}
