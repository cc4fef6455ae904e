/** The sentences of 'Terms': how many there may be, in which bounds their numbers lie, OWNERS and PARTED. */
public final class TermsTest {
    private static final int NONE = ShowRings.NONE;
    private static final Check CHECK = new Check("TermsTest");

    public static void main(String[] args) {
        calls512();
        newObject();
        persons();
        kin();
        breeds();
        groups();
        minutes();
        heights();
        dogs();
        births();
        sexes();
        permits();
        permitsBecome();
        rings();
        shows();
        entries();
        facts200();
        factNumbers();
        knownByN();
        knownBy200();
        ranks();
        measures();
        ownerByDay();
        ownerOfSameDay();
        ownerFirst();
        partedOnDayAhead();
        partedNever();
        partedFromDay0();
        partedLast();
        partedFarthest();
        CHECK.end();
    }

    private static void due(String call, long got, long want) {
        CHECK.due(call, got, want);
    }

    private static void due(String call, boolean got, boolean want) {
        CHECK.due(call, got, want);
    }

    /** One DOG of one BREED, owned by 4, without a SHOW. */
    private static ShowRings oneDog() {
        ShowRings x = new ShowRings();
        x.breed(0, 1, 0, 99);
        x.dog(0, 0, 0, 4, 0);
        return x;
    }

    private static void calls512() {
        CHECK.sentence("An object is used for at most 512 calls after it has been made");
        ShowRings x = new ShowRings();
        int calls = 0;
        byte[] text = Check.bytes("class 1 if 1 == 1; points beaten + 1; title 1 under 1;      ");
        for (int i = 0; i < 3; i++, calls++) {
            due("feed " + i, x.feed(Check.four(text, 5 * i), Check.four(text, 5 * i + 1), Check.four(text, 5 * i + 2),
                    Check.four(text, 5 * i + 3), Check.four(text, 5 * i + 4)), 20 * i + 20);
        }
        due("read()", x.read(), 0);
        due("permits(11, 63)", x.permits(11, 63), true);
        calls += 2;
        for (int b = 0; b < 6; b++, calls++) {
            due("breed " + b, x.breed(0, 1, 0, 99), b);
        }
        for (int d = 0; d < 20; d++, calls++) {
            due("dog " + d, x.dog(d % 6, 0, 0, 0, d % 12), d);
        }
        for (int s = 0; s < 5; s++, calls++) {
            due("show " + s, x.show(s), s);
        }
        for (int i = 0; i < 100; i++, calls++) {
            due("enter " + i, x.enter(i / 20, i % 20), 1);
        }
        for (int s = 0; s < 5; s++, calls++) {
            due("plan " + s, x.plan(s, 0), 20);
        }
        for (int i = 0; i < 200; i++, calls++) {
            due("fact " + i, x.fact(0, 4 - i % 5, i % 20, 20 - i / 10), i);
        }
        for (int i = 1; i <= 100; i++, calls++) {
            due("feed " + i, x.feed(0, 0, 0, 0, 0), 20 * i);
        }
        for (; calls < 511; calls++) {
            due("call " + (calls + 1) + ": winner(4, 0, 200)", x.winner(4, 0, 200), 0);
        }
        due("call 512: title(0, 200)", x.title(0, 200), 4);
    }

    private static void newObject() {
        CHECK.sentence("No BREEDS, DOGS, SHOWS, RULES");
        ShowRings x = new ShowRings();
        int[] want = {0, 0, 0, 0, 0, 1, 0, NONE, NONE, NONE, NONE, NONE, NONE, NONE, NONE, NONE};
        for (int what = 0; what < want.length; what++) {
            due("count(" + what + ")", x.count(what), want[what]);
        }
        due("place()", x.place(), NONE);
        due("two objects have nothing in common", oneDog().count(0) + new ShowRings().count(0), 1);
    }

    private static void persons() {
        CHECK.sentence("PERSONS 0 .. 11");
        for (int person : new int[] {0, 11}) {
            ShowRings x = new ShowRings();
            Check.read(x, "class 1 if 1 == 1; bar if own == 1;");
            x.breed(0, 1, 0, 99);
            x.breed(0, 1, 0, 99);
            due("dog", x.dog(0, 0, 0, person, person), 0);
            due("dog", x.dog(1, 0, 0, 5, person), 1);
            due("permits", x.permits(person, 2), true);
            due("permits", x.permits(6, 1), true);
            x.show(1);
            x.enter(0, 0);
            x.enter(0, 1);
            due("plan", x.plan(0, 0), 2);
            due("JUDGE", x.planned(0, 1, 1), person);
            due("OWNER", x.owner(0, 0, 0), person);
            due("own", x.barred(person, 0, 0, 0), 1);
            due("another's", x.barred(11 - person, 0, 0, 0), NONE);
            due("HANDLER", x.clash(0, 0, 1), person);
            due("owned", x.owned(1, person, 0), 0);
            due("its OWNER", x.owner(1, 0, 1), person);
            due("PARTED", x.parted(5, 1, 7, 1), -1);
        }
    }

    private static void kin() {
        CHECK.sentence("two may be KIN (told)");
        ShowRings x = new ShowRings();
        for (int p = 0; p < 12; p++) {
            for (int q = p + 1; q < 12; q++) {
                due("kin(" + p + ", " + q + ")", x.kin(p, q), true);
            }
        }
        for (int p = 0; p < 12; p++) {
            for (int q = 0; q < 12; q++) {
                due("kin(" + p + ", " + q + ") at last", x.kin(p, q), false);
            }
        }
        ShowRings y = oneDog();
        y.show(1);
        Check.read(y, "bar if kin == 1;");
        due("none at first", y.barred(5, 0, 0, 0), NONE);
        y.kin(5, 4);
        y.kin(5, 6);
        due("told as the second", y.barred(5, 0, 0, 0), 0);
        due("the OWNER is no KIN of itself", y.barred(4, 0, 0, 0), NONE);
        due("KIN of KIN", y.barred(6, 0, 0, 0), NONE);
        y.kin(4, 0);
        y.kin(11, 4);
        due("told as the first", y.barred(0, 0, 0, 0), 0);
        due("the last PERSON", y.barred(11, 0, 0, 0), 0);
    }

    private static void breeds() {
        CHECK.sentence("BREEDS, 6 at most, numbered from 0 on");
        ShowRings x = new ShowRings();
        for (int b = 0; b < 6; b++) {
            due("count(0)", x.count(0), b);
            due("a dog of BREED " + b + " that is not there", x.dog(b, 0, 0, 0, 0), NONE);
            due("breed", x.breed(0, 1, 0, 99), b);
            due("a dog of BREED " + b, x.dog(b, 0, 0, 0, 0), b);
        }
        due("a 7th", x.breed(0, 1, 0, 99), NONE);
        due("count(0)", x.count(0), 6);
        due("a dog of BREED 6", x.dog(6, 0, 0, 0, 0), NONE);
    }

    private static void groups() {
        CHECK.sentence("a GROUP (0 .. 2)");
        for (int group = 0; group <= 2; group++) {
            ShowRings x = new ShowRings();
            due("breed", x.breed(group, 1, 0, 99), 0);
            x.dog(0, 0, 0, 0, 0);
            x.show(0);
            Check.read(x, "class 10 if group == 0; class 11 if group == 1; class 12 if group == 2;");
            due("its GROUP", x.classed(0, 0), 10 + group);
        }
    }

    private static void minutes() {
        CHECK.sentence("MINUTES a dog (1 .. 9)");
        for (int minutes : new int[] {1, 9}) {
            for (int dogs : new int[] {1, 20}) {
                ShowRings x = new ShowRings();
                Check.read(x, "class 1 if 1 == 1;");
                due("breed", x.breed(0, minutes, 0, 99), 0);
                x.show(0);
                x.permits(0, 1);
                for (int d = 0; d < dogs; d++) {
                    x.dog(0, 0, 0, 0, 0);
                    x.enter(0, d);
                }
                due(dogs + " ENTRIES of " + minutes, x.plan(0, 0), minutes * dogs);
                due("its end", x.planned(0, 0, 3), minutes * dogs);
            }
        }
    }

    private static void heights() {
        CHECK.sentence("a HEIGHT from .. to (0 .. 99)");
        int[][] rows = {{0, 99, 0, 0}, {0, 99, 99, 0}, {0, 0, 0, 0}, {0, 0, 1, 4}, {99, 99, 99, 0}, {99, 99, 98, 4},
            {50, 50, 50, 0}, {50, 50, 49, 4}, {50, 50, 51, 4}, {1, 98, 0, 4}, {1, 98, 1, 0}, {1, 98, 98, 0}, {1, 98, 99, 4}};
        for (int[] row : rows) {
            ShowRings x = new ShowRings();
            Check.read(x, "class 1 if 1 == 1;");
            due("breed", x.breed(0, 1, row[0], row[1]), 0);
            x.dog(0, 0, 0, 0, 0);
            x.show(0);
            x.enter(0, 0);
            x.permits(0, 1);
            x.plan(0, 0);
            due("fact", x.fact(3, 0, 0, row[2]), 0);
            due(row[2] + " within " + row[0] + " .. " + row[1], x.counts(0, 0, 1), row[3]);
        }
    }

    private static void dogs() {
        CHECK.sentence("DOGS, 20 at most, numbered from 0 on");
        ShowRings x = new ShowRings();
        x.breed(0, 1, 0, 99);
        x.show(0);
        for (int d = 0; d < 20; d++) {
            due("count(1)", x.count(1), d);
            due("a DOG that is not there", x.classed(0, d), -2);
            due("dog", x.dog(0, 0, 0, 0, 0), d);
            due("a DOG", x.classed(0, d), -1);
        }
        due("a 21st", x.dog(0, 0, 0, 0, 0), NONE);
        due("count(1)", x.count(1), 20);
        due("DOG 20", x.classed(0, 20), -2);
    }

    private static void births() {
        CHECK.sentence("a day of BIRTH (0 .. 9999)");
        ShowRings x = new ShowRings();
        Check.read(x, "class 1 if age == 9999; class 2 if age == 1; class 3 if age == 0; class 4 if 1 == 1;");
        x.breed(0, 1, 0, 99);
        int[] births = {0, 1, 9998, 9999};
        int[][] want = {{3, 3, 3, 3}, {1, 4, 2, 3}};
        for (int d = 0; d < 4; d++) {
            due("dog born on " + births[d], x.dog(0, births[d], 0, 0, 0), d);
        }
        x.show(0);
        x.show(9999);
        for (int s = 0; s < 2; s++) {
            for (int d = 0; d < 4; d++) {
                due("born on " + births[d] + ", SHOW " + s, x.classed(s, d), want[s][d]);
            }
        }
    }

    private static void sexes() {
        CHECK.sentence("a SEX (0, 1)");
        ShowRings x = new ShowRings();
        Check.read(x, "class 10 if sex == 0; class 11 if sex == 1;");
        x.breed(0, 1, 0, 99);
        x.show(0);
        for (int sex = 0; sex < 2; sex++) {
            due("dog", x.dog(0, 0, sex, 0, 0), sex);
            due("its SEX", x.classed(0, sex), 10 + sex);
        }
    }

    private static void permits() {
        CHECK.sentence("PERMITS (BREEDS as bits; none at first)");
        for (int bits = 0; bits < 64; bits++) {
            ShowRings x = new ShowRings();
            Check.read(x, "class 1 if 1 == 1;");
            due("permits of BREEDS that are not there yet", x.permits(11, bits), true);
            for (int b = 0; b < 6; b++) {
                x.breed(0, 1, 0, 99);
                x.dog(b, 0, 0, 0, 0);
            }
            for (int s = 0; s < 5; s++) {
                x.show(s);
                x.enter(s, s);
                due("BREED " + s + " by the bits " + bits, x.plan(s, 0), (bits >> s & 1) == 1 ? 1 : -2);
            }
        }
        ShowRings y = Worlds.oneDogEach(1, new int[] {1, 1, 1, 1, 1, 1}, new int[6], new int[] {});
        due("none at first", y.plan(0, 0), -2);
        y.permits(0, 31);
        due("all but the last BREED", y.plan(0, 0), -2);
        y.permits(0, 62);
        due("all but the first BREED", y.plan(0, 0), -2);
        y.permits(0, 63);
        due("all", y.plan(0, 0), 6);
    }

    private static void permitsBecome() {
        CHECK.sentence("PERMITS of a PERSON become these");
        ShowRings x = Worlds.oneDogEach(1, new int[] {1, 1}, new int[2], new int[] {1});
        due("one of two", x.plan(0, 0), -2);
        x.permits(0, 2);
        due("the other in place of the one", x.plan(0, 0), -2);
        x.permits(1, 1);
        due("another PERSON's are its own", x.plan(0, 0), 2);
        x.permits(0, 0);
        due("none again", x.plan(0, 0), -2);
    }

    private static void rings() {
        CHECK.sentence("RINGS: 1 .. 3 (1 at first)");
        ShowRings x = Worlds.oneDogEach(1, new int[] {4, 4, 4, 4}, new int[] {0, 1, 2, 3}, new int[] {63, 63, 63, 63});
        ShowRings first = new ShowRings();
        due("1 at first", first.count(5), 1);
        due("one RING", x.plan(0, 0), 16);
        due("rings(2)", x.rings(2), true);
        due("what was PLANNED stays", x.planned(0, 3, 2), 12);
        due("two RINGS", x.plan(0, 0), 8);
        due("RING 1 is the last", x.planned(0, 1, 0), 1);
        due("rings(3)", x.rings(3), true);
        due("three RINGS", x.plan(0, 0), 8);
        due("RING 2 is the last", x.planned(0, 2, 0), 2);
        due("a fourth at once is not there", x.planned(0, 3, 2), 4);
        due("rings(3) again", x.rings(3), true);
        due("rings(1)", x.rings(1), true);
        due("one RING again", x.plan(0, 0), 16);
        due("count(5)", x.count(5), 1);
    }

    private static void shows() {
        CHECK.sentence("SHOWS, 5 at most, numbered from 0 on: a DAY (0 .. 9999, each later than the one ahead)");
        ShowRings x = new ShowRings();
        int[] days = {0, 1, 5000, 9998, 9999};
        for (int s = 0; s < 5; s++) {
            due("count(2)", x.count(2), s);
            due("ENTRIES of a SHOW that is not there", x.count(10 + s), NONE);
            due("show on " + days[s], x.show(days[s]), s);
            due("ENTRIES of a new SHOW", x.count(10 + s), 0);
            due("the same DAY", x.show(days[s]), NONE);
            due("the DAY ahead", x.show(days[s] - 1), NONE);
        }
        due("a 6th", x.show(9999), NONE);
        due("count(2)", x.count(2), 5);
        ShowRings y = new ShowRings();
        for (int s = 0; s < 5; s++) {
            y.show(s);
        }
        due("a 6th, later", y.show(5), NONE);
        due("SHOW 5", y.count(15), NONE);
    }

    private static void entries() {
        CHECK.sentence("ENTRIES: DOGS of a SHOW");
        ShowRings x = new ShowRings();
        Check.read(x, "class 0 if 1 == 1;");
        x.breed(0, 1, 0, 99);
        for (int s = 0; s < 5; s++) {
            x.show(s);
        }
        for (int d = 0; d < 20; d++) {
            x.dog(0, 0, 0, 0, 0);
            due("ENTRIES ahead", x.count(14), d);
            due("no ENTRY yet", x.counts(4, d, 0), 1);
            due("enter", x.enter(4, d), 0);
            due("enter again", x.enter(4, d), NONE);
            due("an ENTRY", x.counts(4, d, 0), 5);
        }
        due("ENTRIES of the last SHOW", x.count(14), 20);
        due("of the one ahead", x.count(13), 0);
    }

    private static void facts200() {
        CHECK.sentence("FACTS, numbered from 0 on, 200 at most");
        for (int kind = 0; kind < 5; kind++) {
            ShowRings x = oneDog();
            x.show(0);
            for (int i = 0; i < 200; i++) {
                due("FACT " + i, tell(x, kind), i);
            }
            for (int other = 0; other < 5; other++) {
                due("a 201st", tell(x, other), NONE);
            }
            due("count(3)", x.count(3), 200);
        }
    }

    private static int tell(ShowRings x, int kind) {
        return kind == 4 ? x.owned(0, 5, 3) : x.fact(kind, 0, 0, kind == 0 ? 1 : 0);
    }

    private static void factNumbers() {
        CHECK.sentence("FACTS, numbered from 0 on");
        ShowRings x = oneDog();
        x.show(0);
        int[] kinds = {4, 0, 1, 2, 3, 4, 4, 0};
        for (int i = 0; i < kinds.length; i++) {
            due("of all kinds", tell(x, kinds[i]), i);
            due("a refused one has no number", x.fact(0, 0, 0, 0), NONE);
            due("count(3)", x.count(3), i + 1);
        }
    }

    private static void knownByN() {
        CHECK.sentence("as KNOWN by n the first n of them are");
        ShowRings x = Worlds.oneBreed(2, "bar if own == 1; points 5 + beaten; title 1 under 1;");
        x.fact(0, 0, 0, 2);
        x.fact(0, 0, 1, 1);
        x.fact(3, 0, 1, 19);
        x.fact(3, 0, 1, 21);
        x.fact(3, 0, 1, 20);
        x.owned(1, 11, 100);
        x.fact(2, 0, 1, 0);
        x.fact(1, 0, 1, 0);
        int[] counts = {0, 0, 0, 4, 4, 0, 6, 3, 2};
        int[] winners = {NONE, 0, 1, 0, 0, 1, 0, 0, 0};
        int[] points = {0, 6, 0, 5, 5, 0, 5, 5, 5};
        int[] owners = {1, 1, 1, 1, 1, 1, 11, 11, 11};
        for (int n = 0; n <= 8; n++) {
            due("counts by " + n, x.counts(0, 1, n), counts[n]);
            due("winner by " + n, x.winner(0, 0, n), winners[n]);
            due("points by " + n, x.points(0, 0, n), points[n]);
            due("owner by " + n, x.owner(1, 100, n), owners[n]);
            due("barred by " + n, x.barred(11, 0, 1, n), owners[n] == 11 ? 1 : NONE);
            due("parted by " + n, x.parted(1, 1, 100, n), owners[n] == 11 ? 1 : -1);
            due("title by " + n, x.title(0, n), winners[n] == 0 ? 0 : NONE);
            due("title of the other by " + n, x.title(1, n), winners[n] == 1 ? 0 : NONE);
            for (int m = 0; m <= 8; m++) {
                due("changed by " + n + ", " + m, x.changed(0, n, m), winners[n] == winners[m] ? NONE : 0);
            }
        }
    }

    private static void knownBy200() {
        CHECK.sentence("as KNOWN by n the first n of them are (of 200)");
        ShowRings x = Worlds.oneBreed(2, "bar if own == 1; points 5; title 5 under 1;");
        x.fact(0, 0, 0, 1);
        x.fact(0, 0, 1, 2);
        for (int i = 2; i < 199; i++) {
            x.fact(3, 0, 0, 30);
        }
        due("the last", x.owned(0, 11, 100), 199);
        due("winner by 199", x.winner(0, 0, 199), 0);
        due("winner by 200", x.winner(0, 0, 200), 1);
        due("winner by 201", x.winner(0, 0, 201), NONE);
        due("counts by 199", x.counts(0, 0, 199), 0);
        due("counts by 200", x.counts(0, 0, 200), 6);
        due("counts by 201", x.counts(0, 0, 201), NONE);
        due("barred by 199", x.barred(11, 0, 0, 199), NONE);
        due("barred by 200", x.barred(11, 0, 0, 200), 1);
        due("barred by 201", x.barred(11, 0, 0, 201), NONE);
        due("points by 199", x.points(0, 0, 199), 5);
        due("points by 200", x.points(0, 1, 200), 5);
        due("points by 201", x.points(0, 1, 201), 0);
        due("title by 199", x.title(0, 199), 0);
        due("title by 200", x.title(1, 200), 0);
        due("title by 201", x.title(1, 201), NONE);
        due("owner by 199", x.owner(0, 100, 199), 0);
        due("owner by 200", x.owner(0, 100, 200), 11);
        due("owner by 201", x.owner(0, 100, 201), NONE);
        due("parted by 199", x.parted(0, 0, 100, 199), -1);
        due("parted by 200", x.parted(0, 0, 100, 200), 1);
        due("parted by 201", x.parted(0, 0, 100, 201), -2);
        due("changed from 199 to 200", x.changed(0, 199, 200), 0);
        due("changed to 201", x.changed(0, 199, 201), NONE);
        due("changed from 201", x.changed(0, 201, 199), NONE);
        due("plan by 199", x.plan(0, 199), 4);
        due("plan by 200", x.plan(0, 200), -2);
        due("plan by 201", x.plan(0, 201), NONE);
    }

    private static void ranks() {
        CHECK.sentence("a RANK (1 .. 20)");
        ShowRings x = Worlds.oneBreed(20, "");
        for (int d = 0; d < 20; d++) {
            due("RANK " + (20 - d), x.fact(0, 0, d, 20 - d), d);
            due("the least wins", x.winner(0, 0, d + 1), d);
        }
        due("RANK 0", x.fact(0, 0, 0, 0), NONE);
        due("RANK 21", x.fact(0, 0, 0, 21), NONE);
    }

    private static void measures() {
        CHECK.sentence("is MEASURED (0 .. 99)");
        ShowRings x = Worlds.oneBreed(1, "");
        due("MEASURED 0", x.fact(3, 0, 0, 0), 0);
        due("out", x.counts(0, 0, 1), 4);
        due("MEASURED 99", x.fact(3, 0, 0, 99), 1);
        due("the lesser is out", x.counts(0, 0, 2), 4);
        due("MEASURED 40", x.fact(3, 0, 0, 40), 2);
        due("the middle one", x.counts(0, 0, 3), 0);
        due("MEASURED -1", x.fact(3, 0, 0, -1), NONE);
        due("MEASURED 100", x.fact(3, 0, 0, 100), NONE);
    }

    private static void ownerByDay() {
        CHECK.sentence("OWNER of a DOG on a DAY: by the FACT with the latest DAY up to it");
        ShowRings x = oneDog();
        x.dog(0, 0, 0, 10, 0);
        x.owned(0, 5, 200);
        x.owned(0, 6, 100);
        x.owned(0, 7, 300);
        x.owned(1, 8, 150);
        int[][] rows = {{0, 4}, {99, 4}, {100, 6}, {101, 6}, {150, 6}, {199, 6}, {200, 5}, {201, 5}, {299, 5}, {300, 7}, {9999, 7}};
        for (int[] row : rows) {
            due("on " + row[0], x.owner(0, row[0], 4), row[1]);
        }
        due("as KNOWN by 1, on 150", x.owner(0, 150, 1), 4);
        due("as KNOWN by 1, on 300", x.owner(0, 300, 1), 5);
        due("the other DOG on 149", x.owner(1, 149, 4), 10);
        due("the other DOG on 150", x.owner(1, 150, 4), 8);
        ShowRings y = oneDog();
        y.owned(0, 5, 0);
        y.owned(0, 6, 9999);
        due("from DAY 0 on", y.owner(0, 0, 2), 5);
        due("up to 9998", y.owner(0, 9998, 2), 5);
        due("from DAY 9999 on", y.owner(0, 9999, 2), 6);
    }

    private static void ownerOfSameDay() {
        CHECK.sentence("of the same DAY the last told");
        ShowRings x = oneDog();
        x.owned(0, 5, 100);
        x.owned(0, 6, 100);
        x.owned(0, 7, 99);
        x.owned(0, 8, 100);
        int[] on100 = {4, 5, 6, 6, 8};
        int[] on99 = {4, 4, 4, 7, 7};
        for (int n = 0; n <= 4; n++) {
            due("on 100 as KNOWN by " + n, x.owner(0, 100, n), on100[n]);
            due("on 101 as KNOWN by " + n, x.owner(0, 101, n), on100[n]);
            due("on 99 as KNOWN by " + n, x.owner(0, 99, n), on99[n]);
        }
    }

    private static void ownerFirst() {
        CHECK.sentence("without one the first OWNER");
        ShowRings x = oneDog();
        due("without FACTS", x.owner(0, 0, 0), 4);
        due("on the last DAY", x.owner(0, 9999, 0), 4);
        x.owned(0, 5, 1);
        due("ahead of the first", x.owner(0, 0, 1), 4);
        due("as KNOWN by 0", x.owner(0, 1, 0), 4);
        x.owned(0, 4, 3);
        due("again from a DAY on", x.owner(0, 3, 2), 4);
        due("not on the DAY ahead", x.owner(0, 2, 2), 5);
    }

    private static void partedOnDayAhead() {
        CHECK.sentence("how many days ago a PERSON, who does not own a DOG on a DAY, owned it last (on the DAY ahead of that: 1)");
        ShowRings x = oneDog();
        x.owned(0, 5, 100);
        due("on the last DAY it owns it", x.parted(4, 0, 99, 1), -1);
        due("on the DAY behind", x.parted(4, 0, 100, 1), 1);
        due("a DAY later", x.parted(4, 0, 101, 1), 2);
        due("on 9999", x.parted(4, 0, 9999, 1), 9900);
        due("as KNOWN by 0", x.parted(4, 0, 100, 0), -1);
    }

    private static void partedNever() {
        CHECK.sentence("-1 if it never did (on DAYS from 0 on), or does");
        ShowRings x = oneDog();
        x.owned(0, 5, 100);
        x.owned(0, 6, 200);
        x.owned(0, 7, 200);
        due("never", x.parted(8, 0, 150, 3), -1);
        due("only later", x.parted(5, 0, 99, 3), -1);
        due("does, on its first DAY", x.parted(5, 0, 100, 3), -1);
        due("does, on its last DAY", x.parted(5, 0, 199, 3), -1);
        due("no longer", x.parted(5, 0, 200, 3), 1);
        due("sold on on the same DAY", x.parted(6, 0, 201, 3), -1);
        due("but as KNOWN by 2 it does", x.parted(6, 0, 201, 2), -1);
        due("who does, as KNOWN by 2", x.owner(0, 201, 2), 6);
        due("on DAY 0 the first OWNER does", x.parted(4, 0, 0, 3), -1);
        due("on DAY 0 another never did", x.parted(5, 0, 0, 3), -1);
    }

    private static void partedFromDay0() {
        CHECK.sentence("on DAYS from 0 on");
        ShowRings x = oneDog();
        x.owned(0, 5, 0);
        due("the first OWNER never did, on 0", x.parted(4, 0, 0, 1), -1);
        due("the first OWNER never did, on 1", x.parted(4, 0, 1, 1), -1);
        due("the first OWNER never did, on 9999", x.parted(4, 0, 9999, 1), -1);
        x.owned(0, 6, 1);
        due("owned on DAY 0 alone, on 1", x.parted(5, 0, 1, 2), 1);
        due("owned on DAY 0 alone, on 9999", x.parted(5, 0, 9999, 2), 9999);
        ShowRings y = oneDog();
        y.owned(0, 5, 1);
        due("first OWNER on DAY 0 alone", y.parted(4, 0, 1, 1), 1);
    }

    private static void partedLast() {
        CHECK.sentence("owned it last");
        ShowRings x = oneDog();
        x.owned(0, 5, 10);
        x.owned(0, 4, 20);
        x.owned(0, 6, 30);
        x.owned(0, 7, 40);
        due("the last time, not the first", x.parted(4, 0, 50, 4), 21);
        due("the first time, as KNOWN by 1", x.parted(4, 0, 50, 1), 41);
        due("between the times", x.parted(4, 0, 19, 4), 10);
        due("one that owned it once", x.parted(5, 0, 50, 4), 31);
        due("the one ahead", x.parted(6, 0, 50, 4), 11);
        x.owned(0, 7, 35);
        due("a FACT told later of an earlier DAY", x.parted(6, 0, 50, 5), 16);
        x.owned(0, 6, 35);
        due("the same DAY told again", x.parted(6, 0, 50, 6), 11);
    }

    private static void partedFarthest() {
        CHECK.sentence("how many days ago (behind 200 FACTS)");
        ShowRings x = oneDog();
        for (int i = 0; i < 200; i++) {
            x.owned(0, 5 + i % 2, 1 + i);
        }
        due("ahead of all 200", x.parted(4, 0, 9999, 200), 9999);
        due("the one ahead of the last", x.parted(5, 0, 9999, 200), 9800);
        due("the last does", x.parted(6, 0, 9999, 200), -1);
        due("as KNOWN by 199", x.parted(6, 0, 9999, 199), 9801);
        due("another never did", x.parted(7, 0, 9999, 200), -1);
    }
}
