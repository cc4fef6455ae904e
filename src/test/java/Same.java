import java.util.ArrayList;
import java.util.List;
import java.util.function.Supplier;

/**
 * Whether a call left an object as it was. All that can be asked, and what further calls do, is compared between new
 * objects with the call and new ones without it; the questions come in rounds, for an object has 512 calls.
 */
final class Same {
    private static final int PERSONS = 12;
    private static final int BLANKS = 0x20202020;

    /** One call on an object; a boolean answer is 1 or 0. */
    interface Act {
        long on(ShowRings x);
    }

    private final Supplier<ShowRings> world;
    private final int callsLeft;
    private final List<List<Act>> rounds = new ArrayList<>();
    private final List<long[]> answers = new ArrayList<>();
    private final int breeds;
    private final int dogs;
    private final int shows;
    private final int facts;

    /** A world makes the same object each time, which has so many calls left. */
    Same(Supplier<ShowRings> world, int callsLeft) {
        this.world = world;
        this.callsLeft = callsLeft;
        ShowRings x = world.get();
        breeds = x.count(0);
        dogs = x.count(1);
        shows = x.count(2);
        facts = x.count(3);
        splitIntoRounds(questions());
        rounds.add(newOnes());
        rounds.add(theTape());
        splitIntoRounds(newEntries());
        for (int s = 0; s < shows; s++) {
            rounds.add(newPlan(s));
        }
        for (int p = 0; p < PERSONS; p++) {
            rounds.add(newKin(p));
            for (int b = 0; b < breeds; b++) {
                rounds.add(newJudge(p, b));
            }
        }
        for (List<Act> round : rounds) {
            answers.add(answersOf(world.get(), round));
        }
    }

    ShowRings newObject() {
        return world.get();
    }

    /** How many questions are answered otherwise behind the call. */
    int changedBy(Act call) {
        int changed = 0;
        for (int r = 0; r < rounds.size(); r++) {
            ShowRings x = world.get();
            call.on(x);
            long[] now = answersOf(x, rounds.get(r));
            for (int i = 0; i < now.length; i++) {
                changed += now[i] == answers.get(r)[i] ? 0 : 1;
            }
        }
        return changed;
    }

    private static long[] answersOf(ShowRings x, List<Act> round) {
        long[] all = new long[round.size()];
        for (int i = 0; i < all.length; i++) {
            all[i] = round.get(i).on(x);
        }
        return all;
    }

    private void splitIntoRounds(List<Act> acts) {
        int most = callsLeft - 10;
        for (int from = 0; from < acts.size(); from += most) {
            rounds.add(acts.subList(from, Math.min(from + most, acts.size())));
        }
    }

    private List<Act> questions() {
        List<Act> all = new ArrayList<>();
        all.add(x -> x.place());
        for (int what = -1; what < 16; what++) {
            int w = what;
            all.add(x -> x.count(w));
        }
        for (int n : new int[] {0, facts / 2, facts}) {
            askOfShows(all, n);
            askOfDogs(all, n);
        }
        return all;
    }

    private void askOfShows(List<Act> all, int n) {
        for (int show = 0; show < shows; show++) {
            int s = show;
            all.add(x -> x.changed(s, n, facts));
            for (int breed = 0; breed < breeds; breed++) {
                int b = breed;
                all.add(x -> x.winner(s, b, n));
                for (int number = 0; number < 4; number++) {
                    int k = number;
                    all.add(x -> x.planned(s, b, k));
                    all.add(x -> x.clash(s, b, 3 * k));
                }
            }
            for (int dog = 0; dog < dogs; dog++) {
                int d = dog;
                all.add(x -> x.classed(s, d));
                all.add(x -> x.counts(s, d, n));
                all.add(x -> x.points(s, d, n));
                all.add(x -> x.barred(d % PERSONS, s, d, n));
                all.add(x -> x.barred((d + s + 1) % PERSONS, s, d, n));
            }
        }
    }

    private void askOfDogs(List<Act> all, int n) {
        for (int dog = 0; dog < dogs; dog++) {
            int d = dog;
            all.add(x -> x.title(d, n));
            for (int day : new int[] {0, 1, 90, 100, 119, 120, 9999}) {
                all.add(x -> x.owner(d, day, n));
                all.add(x -> x.parted((d + day) % PERSONS, d, day, n));
            }
        }
    }

    private static List<Act> newOnes() {
        return List.of(
                x -> x.breed(1, 2, 3, 4), x -> x.dog(0, 5, 1, 2, 3), x -> x.show(9999), x -> x.fact(0, 0, 0, 9),
                x -> x.owned(0, 9, 9), x -> x.count(0), x -> x.count(1), x -> x.count(2), x -> x.count(3));
    }

    /** What is on the tape, byte by byte as far as a text shows it. */
    private List<Act> theTape() {
        List<Act> all = new ArrayList<>(List.of(
                x -> x.feed(BLANKS, BLANKS, BLANKS, BLANKS, '$'), x -> x.count(6), x -> x.back(1), x -> x.read(),
                x -> x.place(), x -> x.count(4), x -> x.back(0)));
        for (int dog = 0; dog < dogs; dog++) {
            int d = dog;
            all.add(x -> x.classed(0, d));
            all.add(x -> x.points(0, d, facts));
        }
        return all;
    }

    private List<Act> newEntries() {
        List<Act> all = new ArrayList<>();
        for (int show = 0; show < shows; show++) {
            for (int dog = 0; dog < dogs; dog++) {
                int s = show;
                int d = dog;
                all.add(x -> x.enter(s, d));
            }
        }
        return all;
    }

    private List<Act> newPlan(int s) {
        List<Act> all = new ArrayList<>();
        all.add(x -> x.plan(s, facts));
        for (int breed = 0; breed < breeds; breed++) {
            int b = breed;
            all.add(x -> x.planned(s, b, 0));
            all.add(x -> x.planned(s, b, 1));
            all.add(x -> x.planned(s, b, 2));
        }
        return all;
    }

    private static List<Act> newKin(int p) {
        List<Act> all = new ArrayList<>();
        for (int other = 0; other < PERSONS; other++) {
            int q = other;
            all.add(x -> x.kin(p, q) ? 1 : 0);
        }
        return all;
    }

    /** Whether a PERSON has the PERMIT of a BREED: it alone is left to judge a new SHOW with that BREED alone. */
    private List<Act> newJudge(int p, int breed) {
        List<Act> all = new ArrayList<>();
        for (int other = 0; other < PERSONS; other++) {
            int q = other;
            all.add(x -> q == p || x.permits(q, 0) ? 1 : 0);
        }
        all.add(x -> x.back(x.count(6)));
        all.add(x -> Check.read(x, "class 1 if breed == " + breed + ";"));
        all.add(x -> x.show(9999));
        for (int dog = 0; dog < dogs; dog++) {
            int d = dog;
            all.add(x -> x.enter(shows, d));
        }
        all.add(x -> x.plan(shows, 0));
        return all;
    }
}
