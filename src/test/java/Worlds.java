/** Objects made ready for the tests; each function makes the same one each time. */
final class Worlds {
    private Worlds() {
    }

    /** One BREED of heights 20 .. 40 and so many DOGS of it, all ENTRIES of a SHOW on DAY 100, judged by 11. */
    static ShowRings oneBreed(int dogs, String rules) {
        ShowRings x = new ShowRings();
        Check.read(x, "class 7 if 1 == 1; " + rules);
        x.breed(1, 2, 20, 40);
        x.show(100);
        for (int d = 0; d < dogs; d++) {
            x.dog(0, 10 * d % 100, d % 2, d % 10, d % 10);
            x.enter(0, d);
        }
        x.permits(11, 1);
        x.plan(0, 0);
        return x;
    }

    /** BREEDS of so many MINUTES, each with one ENTRY of the given HANDLER in a SHOW that is not PLANNED yet. */
    static ShowRings oneDogEach(int rings, int[] minutes, int[] handlers, int[] permits) {
        ShowRings x = new ShowRings();
        Check.read(x, "class 1 if 1 == 1;");
        x.show(10);
        x.rings(rings);
        for (int b = 0; b < minutes.length; b++) {
            x.breed(0, minutes[b], 0, 99);
            x.dog(b, 0, 0, 0, handlers[b]);
            x.enter(0, b);
        }
        for (int p = 0; p < permits.length; p++) {
            x.permits(p, permits[p]);
        }
        return x;
    }

    /** DOGS of one BREED, all in so many SHOWS on DAYS 10, 20 .., each SHOW PLANNED with the JUDGE given for it. */
    static ShowRings manyShows(int dogs, int[] judges, String text) {
        ShowRings x = new ShowRings();
        Check.read(x, "class 1 if 1 == 1; " + text);
        x.breed(0, 1, 0, 99);
        for (int d = 0; d < dogs; d++) {
            x.dog(0, 0, 0, d, d);
        }
        for (int s = 0; s < judges.length; s++) {
            x.show(10 * s + 10);
            for (int d = 0; d < dogs; d++) {
                x.enter(s, d);
            }
            for (int p = 0; p < 12; p++) {
                x.permits(p, p == judges[s] ? 1 : 0);
            }
            x.plan(s, 0);
        }
        return x;
    }

    /**
     * Some of all: 3 BREEDS, 7 DOGS, SHOWS on 100 (PLANNED) and 120 (BREED 0 alone PLANNED), 12 FACTS, 9 RULES, KIN,
     * 2 RINGS, a latest read with a FAULT at 3, and 28 bytes of a right text on the tape.
     */
    static ShowRings busy() {
        ShowRings x = new ShowRings();
        Check.read(x, "class 1 if age < 50; class 2 if sex == 1; class 3 if breed < 2; bar if own == 1; bar if kin == 1;"
                + "bar if parted < 30 and 0 < parted; points 3 + beaten if class == 2; points beaten * 2 + 1; title 2 under 1;");
        Check.read(x, "bar;");
        x.rings(2);
        x.kin(0, 1);
        x.kin(9, 11);
        x.breed(0, 2, 20, 40);
        x.breed(1, 3, 0, 99);
        x.breed(2, 9, 50, 50);
        x.dog(0, 10, 0, 0, 5);
        x.dog(0, 60, 1, 1, 6);
        x.dog(0, 20, 1, 2, 7);
        x.dog(1, 0, 1, 3, 5);
        x.dog(1, 30, 0, 4, 4);
        x.dog(2, 0, 1, 11, 7);
        x.dog(2, 0, 0, 3, 3);
        x.permits(8, 3);
        x.permits(9, 1);
        x.permits(10, 6);
        x.show(100);
        x.show(120);
        for (int d = 0; d < 6; d++) {
            x.enter(0, d);
        }
        x.plan(0, 0);
        x.enter(1, 0);
        x.enter(1, 1);
        x.plan(1, 0);
        x.enter(1, 5);
        x.fact(0, 0, 0, 1);
        x.fact(0, 0, 1, 1);
        x.fact(0, 0, 3, 2);
        x.fact(3, 0, 0, 41);
        x.owned(1, 8, 90);
        x.fact(3, 0, 0, 39);
        x.owned(1, 2, 91);
        x.fact(1, 0, 3, 0);
        x.fact(0, 0, 4, 7);
        x.fact(2, 0, 1, 0);
        x.fact(0, 1, 1, 4);
        x.owned(0, 9, 119);
        Check.feed(x, "class 8 if 1 == 1; points 4;");
        return x;
    }

    /** 6 BREEDS, 20 DOGS, 5 SHOWS, 200 FACTS, 3 RINGS, all there may be of them. */
    static ShowRings full() {
        ShowRings x = new ShowRings();
        Check.read(x, "class 4 if 1 == 1; bar if own == 1; points beaten + 1; title 4 under 1;");
        x.rings(3);
        for (int b = 0; b < 6; b++) {
            x.breed(b % 3, 1 + b, 10 * b, 50 + b);
        }
        for (int d = 0; d < 20; d++) {
            x.dog(d % 6, d, d % 2, d % 12, (d + 5) % 12);
        }
        x.permits(9, 63);
        x.permits(10, 63);
        x.permits(11, 63);
        for (int s = 0; s < 5; s++) {
            x.show(99 + s);
            for (int d = s; d < 16; d++) {
                x.enter(s, d);
            }
            x.plan(s, 0);
        }
        for (int i = 0; i < 200; i++) {
            if (i % 5 == 4) {
                x.owned(i % 20, i % 12, 80 + i % 40);
            } else {
                x.fact(i % 20 == 13 ? 3 : 0, i % 5, i * 7 % 20, 1 + i % 20);
            }
        }
        return x;
    }

    /** A tape with so many bytes, blanks but for the first ones. */
    static ShowRings tape(int bytes) {
        ShowRings x = new ShowRings();
        x.breed(0, 1, 0, 99);
        x.dog(0, 0, 0, 0, 0);
        x.show(1);
        Check.feed(x, "class 8 if 1 == 1; " + " ".repeat(Math.max(0, bytes - 19)));
        return x;
    }
}
