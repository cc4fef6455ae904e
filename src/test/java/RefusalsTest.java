import java.util.function.Supplier;

/**
 * Each number that a call takes, at both ends of what is allowed: the last that is, the first that is not, and the
 * least and the most of all ints. What is refused is answered as told, and changes nothing.
 */
public final class RefusalsTest {
    private static final int NONE = ShowRings.NONE;
    private static final int LOW = Integer.MIN_VALUE;
    private static final int HIGH = Integer.MAX_VALUE;
    /** No less than these worlds take. */
    private static final int BUSY_CALLS = 100;
    private static final int FULL_CALLS = 350;
    private static final Check CHECK = new Check("RefusalsTest");
    private static final Same BUSY = new Same(Worlds::busy, 512 - BUSY_CALLS);

    /** A call with one number left open. */
    interface Call {
        long on(ShowRings x, int number);
    }

    public static void main(String[] args) {
        tape();
        persons();
        breeds();
        dogs();
        permitsAndRings();
        shows();
        entries();
        facts();
        sales();
        plans();
        askedOfShows();
        askedOfDogs();
        known();
        counted();
        fullRows();
        askingChangesNothing();
        CHECK.end();
    }

    private static long bit(boolean answer) {
        return answer ? 1 : 0;
    }

    private static void refused(String call, Same.Act act, long due) {
        refused(BUSY, call, act, due);
    }

    private static void refused(Same same, String call, Same.Act act, long due) {
        CHECK.due(call, act.on(same.newObject()), due);
        CHECK.due("answers changed by " + call, same.changedBy(act), 0);
    }

    private static void allowed(String call, Same.Act act, long due) {
        CHECK.due(call, act.on(Worlds.busy()), due);
    }

    /** A number from least to most, whose answers are told, and what is beyond them, all of it answered by refusal. */
    private static void edges(String what, Call call, int least, int most, long refusal, long atLeast, long atMost) {
        allowed(what + " " + least, x -> call.on(x, least), atLeast);
        allowed(what + " " + most, x -> call.on(x, most), atMost);
        for (int number : new int[] {LOW, least - 1, most + 1, HIGH}) {
            refused(what + " " + number, x -> call.on(x, number), refusal);
        }
    }

    private static void tape() {
        CHECK.sentence("NONE, and nothing comes, if it would have more than 2,000");
        Supplier<ShowRings> fullTape = () -> Worlds.tape(2000);
        Supplier<ShowRings> nearlyFull = () -> Worlds.tape(1981);
        int dollars = 0x24242424;
        refused(new Same(fullTape, 380), "feed on 2,000", x -> x.feed(dollars, dollars, dollars, dollars, dollars), NONE);
        refused(new Same(nearlyFull, 380), "feed on 1,981", x -> x.feed(dollars, dollars, dollars, dollars, dollars), NONE);
        CHECK.due("feed on 1,980", Worlds.tape(1980).feed(0, 0, 0, 0, 0), 2000);
        CHECK.sentence("NONE, and nothing goes, if it has not so many, or n is below 0");
        edges("back", (x, n) -> x.back(n), 0, 28, NONE, 28, 0);
        refused(new Same(fullTape, 380), "back(2001)", x -> x.back(2001), NONE);
        CHECK.due("back(2000)", Worlds.tape(2000).back(2000), 0);
        refused(new Same(ShowRings::new, 500), "back(1) of nothing", x -> x.back(1), NONE);
        CHECK.due("back(0) of nothing", new ShowRings().back(0), 0);
    }

    private static void persons() {
        CHECK.sentence("Two PERSONS are KIN: true; false: no such ones, one and the same, they are");
        edges("kin(.., 3)", (x, p) -> bit(x.kin(p, 3)), 0, 11, 0, 1, 1);
        edges("kin(3, ..)", (x, p) -> bit(x.kin(3, p)), 0, 11, 0, 1, 1);
        for (int person = 0; person < 12; person++) {
            int p = person;
            refused("kin(" + p + ", " + p + ")", x -> bit(x.kin(p, p)), 0);
        }
        refused("kin(0, 1) again", x -> bit(x.kin(0, 1)), 0);
        refused("kin(1, 0) again", x -> bit(x.kin(1, 0)), 0);
        refused("kin(12, 12)", x -> bit(x.kin(12, 12)), 0);
        refused("kin(-1, -1)", x -> bit(x.kin(-1, -1)), 0);
    }

    private static void breeds() {
        CHECK.sentence("NONE, and nothing happens: 6 are there, no such numbers, HEIGHT's from above to");
        edges("breed's GROUP", (x, v) -> x.breed(v, 1, 0, 99), 0, 2, NONE, 3, 3);
        edges("breed's MINUTES", (x, v) -> x.breed(0, v, 0, 99), 1, 9, NONE, 3, 3);
        edges("breed's from", (x, v) -> x.breed(0, 1, v, 99), 0, 99, NONE, 3, 3);
        edges("breed's from below to", (x, v) -> x.breed(0, 1, v, 50), 0, 50, NONE, 3, 3);
        edges("breed's to", (x, v) -> x.breed(0, 1, 0, v), 0, 99, NONE, 3, 3);
        edges("breed's to above from", (x, v) -> x.breed(0, 1, 50, v), 50, 99, NONE, 3, 3);
        refused("breed's from and to 100", x -> x.breed(0, 1, 100, 100), NONE);
        refused("breed's from and to -1", x -> x.breed(0, 1, -1, -1), NONE);
    }

    private static void dogs() {
        CHECK.sentence("A DOG: its number. NONE, and nothing happens: 20 are there, no such numbers");
        edges("dog's BREED", (x, v) -> x.dog(v, 0, 0, 0, 0), 0, 2, NONE, 7, 7);
        edges("dog's BIRTH", (x, v) -> x.dog(0, v, 0, 0, 0), 0, 9999, NONE, 7, 7);
        edges("dog's SEX", (x, v) -> x.dog(0, 0, v, 0, 0), 0, 1, NONE, 7, 7);
        edges("dog's OWNER", (x, v) -> x.dog(0, 0, 0, v, 0), 0, 11, NONE, 7, 7);
        edges("dog's HANDLER", (x, v) -> x.dog(0, 0, 0, 0, v), 0, 11, NONE, 7, 7);
        refused(new Same(ShowRings::new, 500), "dog of no BREED", x -> x.dog(0, 0, 0, 0, 0), NONE);
    }

    private static void permitsAndRings() {
        CHECK.sentence("PERMITS of a PERSON become these: true; false: no such ones (0 .. 63)");
        edges("permits' PERSON", (x, p) -> bit(x.permits(p, 1)), 0, 11, 0, 1, 1);
        edges("permits of 8", (x, v) -> bit(x.permits(8, v)), 0, 63, 0, 1, 1);
        refused("permits(8, 64 + 3)", x -> bit(x.permits(8, 67)), 0);
        CHECK.sentence("RINGS become n: true; false for others");
        edges("rings", (x, n) -> bit(x.rings(n)), 1, 3, 0, 1, 1);
    }

    private static void shows() {
        CHECK.sentence("NONE, and nothing happens: 5 are there, no such DAY, it is not behind that of the one ahead");
        edges("show behind DAY 120", (x, day) -> x.show(day), 121, 9999, NONE, 2, 2);
        refused("show on the first one's DAY", x -> x.show(100), NONE);
        refused("show on DAY 0", x -> x.show(0), NONE);
        refused("show on DAY -1", x -> x.show(-1), NONE);
        CHECK.due("a first show on DAY 0", new ShowRings().show(0), 0);
        CHECK.due("a first show on DAY 9999", new ShowRings().show(9999), 0);
        Same none = new Same(ShowRings::new, 500);
        refused(none, "a first show on DAY -1", x -> x.show(-1), NONE);
        refused(none, "a first show on DAY 10000", x -> x.show(10000), NONE);
    }

    private static void entries() {
        CHECK.sentence("NONE, and nothing happens: no such ones, it is one; -2: it has no CLASS; -3: its BREED is PLANNED there");
        edges("enter's SHOW", (x, s) -> x.enter(s, 3), 1, 1, NONE, 2, 2);
        allowed("enter's DOG 4", x -> x.enter(1, 4), 3);
        for (int d : new int[] {LOW, -1, 7, HIGH}) {
            refused("enter's DOG " + d, x -> x.enter(1, d), NONE);
        }
        refused("enter's SHOW -1", x -> x.enter(-1, 0), NONE);
        refused("an ENTRY", x -> x.enter(0, 0), NONE);
        refused("an ENTRY of a BREED that is not PLANNED", x -> x.enter(1, 5), NONE);
        refused("no CLASS", x -> x.enter(1, 6), -2);
        refused("no CLASS, and its BREED is PLANNED", x -> x.enter(0, 6), -2);
        refused("its BREED is PLANNED", x -> x.enter(1, 2), -3);
    }

    private static void facts() {
        CHECK.sentence("kind 0 RANK v, 1 ABSENT (v 0), 2 STRUCK (v 0), 3 MEASURED v");
        edges("fact's kind", (x, kind) -> x.fact(kind, 0, 0, kind == 0 ? 1 : 0), 0, 3, NONE, 12, 12);
        edges("fact's SHOW", (x, s) -> x.fact(0, s, 0, 1), 0, 1, NONE, 12, 12);
        edges("fact's DOG", (x, d) -> x.fact(0, 0, d, 1), 0, 6, NONE, 12, 12);
        edges("RANK", (x, v) -> x.fact(0, 0, 0, v), 1, 20, NONE, 12, 12);
        edges("ABSENT", (x, v) -> x.fact(1, 0, 0, v), 0, 0, NONE, 12, 12);
        edges("STRUCK", (x, v) -> x.fact(2, 0, 0, v), 0, 0, NONE, 12, 12);
        edges("MEASURED", (x, v) -> x.fact(3, 0, 0, v), 0, 99, NONE, 12, 12);
        Same none = new Same(ShowRings::new, 500);
        refused(none, "fact without a SHOW and a DOG", x -> x.fact(0, 0, 0, 1), NONE);
    }

    private static void sales() {
        CHECK.sentence("A DOG is OWNED by a PERSON from a DAY on: its FACT's number");
        edges("owned's DOG", (x, d) -> x.owned(d, 0, 0), 0, 6, NONE, 12, 12);
        edges("owned's PERSON", (x, p) -> x.owned(0, p, 0), 0, 11, NONE, 12, 12);
        edges("owned's DAY", (x, day) -> x.owned(0, 0, day), 0, 9999, NONE, 12, 12);
        refused(new Same(ShowRings::new, 500), "owned without a DOG", x -> x.owned(0, 0, 0), NONE);
    }

    private static void plans() {
        CHECK.sentence("NONE, and nothing happens: no such ones; -2, and nothing happens: there is none");
        for (int s : new int[] {LOW, -1, 2, HIGH}) {
            refused("plan(" + s + ", 0)", x -> x.plan(s, 0), NONE);
        }
        for (int n : new int[] {LOW, -1, 13, HIGH}) {
            refused("plan(0, " + n + ")", x -> x.plan(0, n), NONE);
        }
        Supplier<ShowRings> noJudge = () -> {
            ShowRings x = Worlds.busy();
            x.permits(10, 0);
            return x;
        };
        refused(new Same(noJudge, 511 - BUSY_CALLS), "plan without a JUDGE, was PLANNED", x -> x.plan(0, 0), -2);
        refused(new Same(noJudge, 511 - BUSY_CALLS), "plan without a JUDGE, PLANNED in part", x -> x.plan(1, 0), -2);
        CHECK.due("plan with one", Worlds.busy().plan(0, 0) > 0, true);
        refused(new Same(ShowRings::new, 500), "plan without a SHOW", x -> x.plan(0, 0), NONE);
    }

    private static void askedOfShows() {
        CHECK.sentence("NONE: nothing, no such ones");
        edges("planned's SHOW", (x, s) -> x.planned(s, 0, 1), 0, 1, NONE, 8, 8);
        edges("planned's BREED", (x, b) -> x.planned(0, b, 1), 0, 2, NONE, 8, 10);
        edges("planned's what", (x, w) -> x.planned(0, 0, w), 0, 3, NONE, 0, 15);
        CHECK.sentence("The HANDLER that would be in two RINGS at once .. NONE: nobody, no such ones");
        edges("clash's SHOW", (x, s) -> x.clash(s, 0, 5), 0, 0, NONE, 5, 5);
        edges("clash's BREED", (x, b) -> x.clash(0, b, b == 2 ? 10 : 5), 0, 2, NONE, 5, 7);
        edges("clash's MINUTE", (x, m) -> x.clash(0, 0, m), 0, 9999, NONE, 5, NONE);
        CHECK.sentence("CLASS of a DOG on a SHOW's DAY; -2: no such ones");
        edges("classed's SHOW", (x, s) -> x.classed(s, 1), 0, 1, -2, 1, 2);
        edges("classed's DOG", (x, d) -> x.classed(0, d), 0, 6, -2, 3, -1);
        CHECK.sentence("The first BREED whose WINNER .. NONE: none, no such ones");
        edges("changed's SHOW", (x, s) -> x.changed(s, 0, 12), 0, 1, NONE, 0, 0);
    }

    private static void askedOfDogs() {
        CHECK.sentence("The first bar RULE that holds .. NONE: none, no such ones");
        edges("barred's PERSON", (x, p) -> x.barred(p, 0, p == 0 ? 0 : 5, 0), 0, 11, NONE, 3, 3);
        edges("barred's SHOW", (x, s) -> x.barred(0, s, 0, 0), 0, 1, NONE, 3, 3);
        edges("barred's DOG", (x, d) -> x.barred(d == 0 ? 0 : 3, 0, d, 0), 0, 6, NONE, 3, 3);
        CHECK.sentence("Whether a DOG COUNTS in a SHOW .. NONE: no such ones");
        edges("counts' SHOW", (x, s) -> x.counts(s, 5, 0), 0, 1, NONE, 0, 5);
        edges("counts' DOG", (x, d) -> x.counts(0, d, 0), 0, 6, NONE, 0, 1);
        CHECK.sentence("THE WINNER of a BREED in a SHOW .. NONE: nobody, no such ones");
        edges("winner's SHOW", (x, s) -> x.winner(s, 0, 11), 0, 1, NONE, 0, 1);
        edges("winner's BREED", (x, b) -> x.winner(0, b, 3), 0, 1, NONE, 0, 3);
        CHECK.sentence("POINTS of a DOG in a SHOW .. 0 if it did not win, for others");
        edges("points' SHOW", (x, s) -> x.points(s, s, 11), 0, 1, 0, 3, 4);
        edges("points' DOG", (x, d) -> x.points(0, d, 3), 0, 0, 0, 5, 5);
        refused("points of DOG 7", x -> x.points(0, 7, 3), 0);
        CHECK.sentence("The SHOW of a DOG's TITLE .. NONE: none, no title RULE, no such ones");
        edges("title's DOG", (x, d) -> x.title(d, 3), 0, 0, NONE, 0, 0);
        refused("title of DOG 7", x -> x.title(7, 3), NONE);
        CHECK.sentence("OWNER of a DOG on a DAY (0 .. 9999), as KNOWN by n; NONE: no such ones");
        edges("owner's DOG", (x, d) -> x.owner(d, 0, 0), 0, 6, NONE, 0, 3);
        edges("owner's DAY", (x, day) -> x.owner(0, day, 12), 0, 9999, NONE, 0, 9);
        CHECK.sentence("PARTED of a PERSON and a DOG on a DAY, as KNOWN by n; -2: no such ones");
        edges("parted's PERSON", (x, p) -> x.parted(p, 0, 119, 12), 0, 11, -2, 1, -1);
        edges("parted's DOG", (x, d) -> x.parted(0, d, 120, 12), 0, 6, -2, 2, -1);
        edges("parted's DAY", (x, day) -> x.parted(0, 0, day, 12), 0, 9999, -2, -1, 9881);
    }

    private static void known() {
        CHECK.sentence("as KNOWN by n the first n of them are");
        edges("barred by n", (x, n) -> x.barred(9, 1, 0, n), 0, 12, NONE, NONE, 3);
        edges("counts by n", (x, n) -> x.counts(0, 1, n), 0, 12, NONE, 0, 3);
        edges("winner by n", (x, n) -> x.winner(0, 1, n), 0, 12, NONE, NONE, 4);
        edges("points by n", (x, n) -> x.points(0, 4, n), 0, 12, 0, 0, 1);
        edges("title by n", (x, n) -> x.title(1, n), 0, 12, NONE, NONE, 1);
        edges("owner by n", (x, n) -> x.owner(0, 119, n), 0, 12, NONE, 0, 9);
        edges("parted by n", (x, n) -> x.parted(0, 0, 119, n), 0, 12, -2, -1, 1);
        edges("changed by n", (x, n) -> x.changed(0, n, 3), 0, 12, NONE, 0, 1);
        edges("changed by m", (x, m) -> x.changed(0, 3, m), 0, 12, NONE, 0, 1);
        edges("plan by n", (x, n) -> x.plan(0, n), 0, 12, NONE, 15, 15);
    }

    private static void counted() {
        CHECK.sentence("6 bytes on the tape; 10 + s: ENTRIES of SHOW s. NONE for others");
        edges("count", (x, what) -> x.count(what), 0, 11, NONE, 3, 3);
        edges("count up to 6", (x, what) -> what >= 0 && what <= 6 ? x.count(what) : x.count(7), 0, 6, NONE, 3, 28);
        for (int what : new int[] {7, 8, 9, 12, 13, 14, 15, 16, LOW + 10, HIGH - 10}) {
            refused("count(" + what + ")", x -> x.count(what), NONE);
        }
        CHECK.due("count(10) without a SHOW", new ShowRings().count(10), NONE);
    }

    private static void fullRows() {
        Same full = new Same(Worlds::full, 512 - FULL_CALLS);
        int[] rows = {6, 20, 5, 200, 4, 3, 0};
        for (int what = 0; what < rows.length; what++) {
            CHECK.due("count(" + what + ") of a full object", Worlds.full().count(what), rows[what]);
        }
        CHECK.sentence("6 are there");
        refused(full, "a 7th breed", x -> x.breed(0, 1, 0, 99), NONE);
        CHECK.sentence("20 are there");
        refused(full, "a 21st dog", x -> x.dog(0, 0, 0, 0, 0), NONE);
        CHECK.sentence("5 are there");
        refused(full, "a 6th show", x -> x.show(9999), NONE);
        CHECK.sentence("200 are there");
        refused(full, "a 201st fact, RANK", x -> x.fact(0, 0, 0, 1), NONE);
        refused(full, "a 201st fact, ABSENT", x -> x.fact(1, 0, 0, 0), NONE);
        refused(full, "a 201st fact, STRUCK", x -> x.fact(2, 0, 0, 0), NONE);
        refused(full, "a 201st fact, MEASURED", x -> x.fact(3, 0, 0, 0), NONE);
        refused(full, "a 201st fact, OWNED", x -> x.owned(0, 0, 0), NONE);
    }

    private static void askingChangesNothing() {
        CHECK.sentence("what is asked changes nothing");
        Same.Act ask = x -> x.place() + x.planned(0, 0, 0) + x.barred(9, 0, 0, 12) + x.clash(0, 1, 0) + x.classed(1, 1)
                + x.counts(0, 0, 5) + x.winner(0, 0, 12) + x.points(0, 0, 3) + x.title(0, 12) + x.owner(0, 5, 1)
                + x.parted(0, 0, 119, 12) + x.changed(0, 0, 12) + x.count(10);
        CHECK.due("answers changed by asking", BUSY.changedBy(ask), 0);
    }
}
