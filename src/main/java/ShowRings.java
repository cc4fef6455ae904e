/**
 * Dog shows by a club's text: plans of rings, hours and judges, and results as known by so many facts.
 *
 * <p>The words in capitals in the comments are those of the document. Every row is made once, with the
 * object, and used again: no call makes an object or an array.
 */
public final class ShowRings {
    public static final int NONE = -1;

    private static final int PERSONS = 12;
    private static final int BREEDS = 6;
    private static final int GROUPS = 3;
    private static final int MOST_MINUTES = 9;
    private static final int HEIGHTS = 100;
    private static final int DOGS = 20;
    private static final int SEXES = 2;
    private static final int SHOWS = 5;
    private static final int FACTS = 200;
    private static final int RANKS = 20;
    private static final int DAYS = 10000;
    private static final int MINUTES = 10000;
    private static final int NEVER = 1000000;
    private static final int MOST_RINGS = 3;
    private static final int TAPE_BYTES = 2000;
    private static final int FED_BYTES = 20;
    private static final int TOKENS = 400;
    private static final int RULES = 16;
    private static final int OPEN_AT_ONCE = 6;

    private static final int NO_CLASS = -1;
    private static final int MISSING = -2;
    private static final int NO_CLASS_TO_ENTER = -2;
    private static final int BREED_IS_PLANNED = -3;
    private static final int NO_PLAN = -2;

    // FAULTS.
    private static final int SYNTAX = 1;
    private static final int ROOM = 2;

    // Kinds of FACTS.
    private static final int RANK = 0;
    private static final int ABSENT = 1;
    private static final int STRUCK = 2;
    private static final int MEASURED = 3;
    private static final int OWNED = 4;

    // Why a DOG does not COUNT.
    private static final int COUNTING = 0;
    private static final int NO_ENTRY = 1;
    private static final int IS_ABSENT = 2;
    private static final int IS_STRUCK = 3;
    private static final int OUT_BY_MEASURE = 4;
    private static final int NO_JUDGE = 5;
    private static final int JUDGE_BARRED = 6;

    // What a timetable tells of a BREED.
    private static final int RING = 0;
    private static final int JUDGE = 1;
    private static final int BEGIN = 2;
    private static final int END = 3;
    private static final int CELLS = 4;

    // The words, eight letters of room each: a word's place among them is its token's kind.
    // The VARS stand first, so that a VAR's kind is its place among the values of the VARS.
    private static final int WORD_ROOM = 8;
    private static final String WORDS =
            "age     sex     breed   group   class   own     kin     parted  beaten  bar     if      points  title   under   or      and     ";
    private static final int AGE_WORD = 0;
    private static final int SEX_WORD = 1;
    private static final int BREED_WORD = 2;
    private static final int GROUP_WORD = 3;
    private static final int CLASS_WORD = 4;
    private static final int OWN_WORD = 5;
    private static final int KIN_WORD = 6;
    private static final int PARTED_WORD = 7;
    private static final int BEATEN_WORD = 8;
    private static final int VARS = 9;
    private static final int BAR_WORD = 9;
    private static final int IF_WORD = 10;
    private static final int POINTS_WORD = 11;
    private static final int TITLE_WORD = 12;
    private static final int UNDER_WORD = 13;
    private static final int OR_WORD = 14;
    private static final int AND_WORD = 15;

    // The other tokens.
    private static final int INT_TOKEN = 16;
    private static final int SEMICOLON = 17;
    private static final int PLUS = 18;
    private static final int MINUS = 19;
    private static final int TIMES = 20;
    private static final int EQUAL = 21;
    private static final int UNLIKE = 22;
    private static final int LESS = 23;
    private static final int AT_MOST = 24;
    private static final int OPEN = 25;
    private static final int CLOSE = 26;
    private static final int TEXT_END = 27;
    private static final int NO_TOKEN = 28;
    private static final int INT_DIGITS = 4;

    // Levels of the grammar, from the loosest to the tightest.
    private static final int COND_LEVEL = 0;
    private static final int ALL_LEVEL = 1;
    private static final int REL_LEVEL = 2;
    private static final int E_LEVEL = 3;
    private static final int PART_LEVEL = 4;
    private static final int UNIT_LEVEL = 5;

    private final Tape tape;
    private final Text text;
    private final Parser parser;
    private final Kennel kennel;
    private final Facts facts;
    private final Club club;
    private final Planner planner;
    private final Results results;
    private final Show[] shows;
    private int showCount;
    private int ringCount;
    private int faultPlace;

    public ShowRings() {
        tape = new Tape();
        text = new Text();
        parser = new Parser(new Scanner(tape), new Text());
        kennel = new Kennel();
        facts = new Facts(kennel);
        club = new Club(text, kennel, facts);
        planner = new Planner(kennel, club);
        results = new Results(kennel, facts, club);
        shows = new Show[SHOWS];
        for (int s = 0; s < SHOWS; s++) {
            shows[s] = new Show(s);
        }
        showCount = 0;
        ringCount = 1;
        faultPlace = NONE;
    }

    public int feed(int a, int b, int c, int d, int e) {
        if (tape.length > TAPE_BYTES - FED_BYTES) {
            return NONE;
        }
        tape.append(a);
        tape.append(b);
        tape.append(c);
        tape.append(d);
        tape.append(e);
        return tape.length;
    }

    public int back(int n) {
        if (n < 0 || n > tape.length) {
            return NONE;
        }
        tape.length -= n;
        return tape.length;
    }

    public int read() {
        parser.parse();
        tape.length = 0;
        faultPlace = parser.place;
        if (parser.fault == 0) {
            text.copyFrom(parser.draft);
        }
        return parser.fault;
    }

    public int place() {
        return faultPlace;
    }

    public boolean kin(int one, int other) {
        if (!isPerson(one) || !isPerson(other) || one == other || kennel.areKin(one, other)) {
            return false;
        }
        kennel.makeKin(one, other);
        return true;
    }

    public int breed(int group, int minutes, int from, int to) {
        boolean right = isWithin(group, 0, GROUPS - 1) && isWithin(minutes, 1, MOST_MINUTES)
                && isWithin(from, 0, HEIGHTS - 1) && isWithin(to, from, HEIGHTS - 1);
        if (!right || kennel.breeds >= BREEDS) {
            return NONE;
        }
        return kennel.addBreed(group, minutes, from, to);
    }

    public int dog(int breed, int birth, int sex, int owner, int handler) {
        boolean right = isBreed(breed) && isDay(birth) && isWithin(sex, 0, SEXES - 1)
                && isPerson(owner) && isPerson(handler);
        if (!right || kennel.dogs >= DOGS) {
            return NONE;
        }
        return kennel.addDog(breed, birth, sex, owner, handler);
    }

    public boolean permits(int person, int breeds) {
        if (!isPerson(person) || !isWithin(breeds, 0, (1 << BREEDS) - 1)) {
            return false;
        }
        kennel.permits[person] = breeds;
        return true;
    }

    public boolean rings(int n) {
        if (!isWithin(n, 1, MOST_RINGS)) {
            return false;
        }
        ringCount = n;
        return true;
    }

    public int show(int day) {
        if (showCount >= SHOWS || !isDay(day)) {
            return NONE;
        }
        if (showCount > 0 && day <= shows[showCount - 1].day) {
            return NONE;
        }
        shows[showCount].day = day;
        showCount++;
        return showCount - 1;
    }

    public int enter(int show, int dog) {
        if (!isShow(show) || !isDog(dog) || shows[show].hasEntry(dog)) {
            return NONE;
        }
        int itsClass = club.classOf(shows[show], dog);
        if (itsClass == NO_CLASS) {
            return NO_CLASS_TO_ENTER;
        }
        if (shows[show].timetable.has(kennel.breed[dog])) {
            return BREED_IS_PLANNED;
        }
        shows[show].addEntry(dog);
        return itsClass;
    }

    public int fact(int kind, int show, int dog, int v) {
        if (!isShow(show) || !isDog(dog) || !isFactValue(kind, v) || facts.size >= FACTS) {
            return NONE;
        }
        return facts.add(kind, show, dog, v, NONE);
    }

    public int owned(int dog, int person, int day) {
        if (!isDog(dog) || !isPerson(person) || !isDay(day) || facts.size >= FACTS) {
            return NONE;
        }
        return facts.add(OWNED, NONE, dog, person, day);
    }

    public int plan(int show, int n) {
        if (!isShow(show) || !isKnown(n)) {
            return NONE;
        }
        if (!planner.search(shows[show], n, ringCount)) {
            return NO_PLAN;
        }
        shows[show].timetable.copyFrom(planner.best);
        return planner.bestLast;
    }

    public int planned(int show, int breed, int what) {
        if (!isShow(show) || !isBreed(breed) || !isWithin(what, 0, CELLS - 1)) {
            return NONE;
        }
        return shows[show].timetable.at(breed, what);
    }

    public int barred(int person, int show, int dog, int n) {
        if (!isPerson(person) || !isShow(show) || !isDog(dog) || !isKnown(n)) {
            return NONE;
        }
        return club.firstBar(person, shows[show], dog, n);
    }

    public int clash(int show, int breed, int minute) {
        if (!isShow(show) || !isBreed(breed) || !isWithin(minute, 0, MINUTES - 1)) {
            return NONE;
        }
        int handlers = handlersInTwoRings(shows[show], breed, minute);
        return handlers == 0 ? NONE : Integer.numberOfTrailingZeros(handlers);
    }

    public int classed(int show, int dog) {
        if (!isShow(show) || !isDog(dog)) {
            return MISSING;
        }
        return club.classOf(shows[show], dog);
    }

    public int counts(int show, int dog, int n) {
        if (!isShow(show) || !isDog(dog) || !isKnown(n)) {
            return NONE;
        }
        return results.standing(shows[show], dog, n);
    }

    public int winner(int show, int breed, int n) {
        if (!isShow(show) || !isBreed(breed) || !isKnown(n)) {
            return NONE;
        }
        return results.winnerOf(shows[show], breed, n);
    }

    public int points(int show, int dog, int n) {
        if (!isShow(show) || !isDog(dog) || !isKnown(n)) {
            return 0;
        }
        if (results.winnerOf(shows[show], kennel.breed[dog], n) != dog) {
            return 0;
        }
        return results.pointsOfWinner(shows[show], dog, n);
    }

    public int title(int dog, int n) {
        int rule = text.firstOfKind(TITLE_WORD);
        if (!isDog(dog) || !isKnown(n) || !isWithin(rule, 0, RULES - 1)) {
            return NONE;
        }
        int breed = kennel.breed[dog];
        int sum = 0;
        int judges = 0;
        for (int s = 0; s < showCount; s++) {
            if (results.winnerOf(shows[s], breed, n) == dog) {
                sum += results.pointsOfWinner(shows[s], dog, n);
                judges |= 1 << shows[s].timetable.at(breed, JUDGE);
            }
            if (sum >= text.firstInt[rule] && Integer.bitCount(judges) >= text.secondInt[rule]) {
                return s;
            }
        }
        return NONE;
    }

    public int owner(int dog, int day, int n) {
        if (!isDog(dog) || !isDay(day) || !isKnown(n)) {
            return NONE;
        }
        return facts.ownerOn(dog, day, n);
    }

    public int parted(int person, int dog, int day, int n) {
        if (!isPerson(person) || !isDog(dog) || !isDay(day) || !isKnown(n)) {
            return MISSING;
        }
        return facts.daysSinceOwned(person, dog, day, n);
    }

    public int changed(int show, int n, int m) {
        if (!isShow(show) || !isKnown(n) || !isKnown(m)) {
            return NONE;
        }
        for (int b = 0; b < kennel.breeds; b++) {
            if (results.winnerOf(shows[show], b, n) != results.winnerOf(shows[show], b, m)) {
                return b;
            }
        }
        return NONE;
    }

    public int count(int what) {
        if (what >= 10 && isShow(what - 10)) {
            return Integer.bitCount(shows[what - 10].entries);
        }
        switch (what) {
            case 0: return kennel.breeds;
            case 1: return kennel.dogs;
            case 2: return showCount;
            case 3: return facts.size;
            case 4: return text.rules;
            case 5: return ringCount;
            case 6: return tape.length;
            default: return NONE;
        }
    }

    private static boolean isWithin(int value, int least, int most) {
        return value >= least && value <= most;
    }

    private static boolean isPerson(int person) {
        return isWithin(person, 0, PERSONS - 1);
    }

    private static boolean isDay(int day) {
        return isWithin(day, 0, DAYS - 1);
    }

    private boolean isBreed(int breed) {
        return isWithin(breed, 0, kennel.breeds - 1);
    }

    private boolean isDog(int dog) {
        return isWithin(dog, 0, kennel.dogs - 1);
    }

    private boolean isShow(int show) {
        return isWithin(show, 0, showCount - 1);
    }

    /** Whether there are n FACTS to be known. */
    private boolean isKnown(int n) {
        return isWithin(n, 0, facts.size);
    }

    private static boolean isFactValue(int kind, int v) {
        switch (kind) {
            case RANK: return isWithin(v, 1, RANKS);
            case ABSENT: return v == 0;
            case STRUCK: return v == 0;
            case MEASURED: return isWithin(v, 0, HEIGHTS - 1);
            default: return false;
        }
    }

    /** The HANDLERS, as bits, who would be called twice if a PLANNED BREED began at a MINUTE. */
    private int handlersInTwoRings(Show show, int breed, int minute) {
        Timetable timetable = show.timetable;
        if (!timetable.has(breed)) {
            return 0;
        }
        int end = minute + timetable.at(breed, END) - timetable.at(breed, BEGIN);
        int own = kennel.handlersOf(kennel.ofBreed(show.entries, breed));
        int others = 0;
        for (int b = 0; b < kennel.breeds; b++) {
            if (b != breed && timetable.overlaps(b, minute, end)) {
                others |= kennel.handlersOf(kennel.ofBreed(show.entries, b));
            }
        }
        return own & others;
    }

    /** The bytes fed for the next text. */
    private static final class Tape {
        private final byte[] bytes = new byte[TAPE_BYTES];
        private int length = 0;

        /** Four bytes, the highest first; those beyond the tape's room are lost. */
        void append(int four) {
            for (int shift = 24; shift >= 0; shift -= 8) {
                if (length < TAPE_BYTES) {
                    bytes[length] = (byte) (four >> shift);
                    length++;
                }
            }
        }

        /** A byte as 0 .. 255; NONE off the tape. */
        int at(int i) {
            return i < 0 || i >= length ? NONE : bytes[i] & 255;
        }
    }

    /** Splits the tape into tokens, up to the first that is none, or one more than a text may have. */
    private static final class Scanner {
        private static final int BLANK_SORT = 0;
        private static final int LETTER_SORT = 1;
        private static final int DIGIT_SORT = 2;
        private static final int OTHER_SORT = 3;

        private final Tape tape;
        private final int[] kinds = new int[TOKENS + 1];
        private final int[] places = new int[TOKENS + 1];
        private final int[] values = new int[TOKENS + 1];
        private int size = 0;

        Scanner(Tape tape) {
            this.tape = tape;
        }

        void split() {
            int start = 0;
            boolean goesOn = true;
            size = 0;
            for (int i = 0; i <= TOKENS && goesOn; i++) {
                start = pastRun(start, BLANK_SORT);
                int end = tokenEnd(start);
                int kind = kindOf(start, end);
                kinds[i] = kind;
                places[i] = start;
                values[i] = kind == INT_TOKEN ? numberAt(start, end) : 0;
                size = i + 1;
                start = end;
                goesOn = kind != TEXT_END && kind != NO_TOKEN;
            }
        }

        private static int sortOf(int symbol) {
            if (symbol == 9 || symbol == 10 || symbol == 13 || symbol == 32) {
                return BLANK_SORT;
            }
            if (symbol >= 'a' && symbol <= 'z') {
                return LETTER_SORT;
            }
            return symbol >= '0' && symbol <= '9' ? DIGIT_SORT : OTHER_SORT;
        }

        private int pastRun(int from, int sort) {
            for (int i = from; i < tape.length; i++) {
                if (sortOf(tape.at(i)) != sort) {
                    return i;
                }
            }
            return tape.length;
        }

        private int tokenEnd(int start) {
            int symbol = tape.at(start);
            int sort = sortOf(symbol);
            if (sort == LETTER_SORT || sort == DIGIT_SORT) {
                return pastRun(start, sort);
            }
            boolean mayBeTwo = symbol == '=' || symbol == '!' || symbol == '<';
            return mayBeTwo && tape.at(start + 1) == '=' ? start + 2 : start + 1;
        }

        private int kindOf(int start, int end) {
            if (start >= tape.length) {
                return TEXT_END;
            }
            int symbol = tape.at(start);
            int sort = sortOf(symbol);
            if (sort == LETTER_SORT) {
                return wordKind(start, end - start);
            }
            if (sort == DIGIT_SORT) {
                return end - start <= INT_DIGITS ? INT_TOKEN : NO_TOKEN;
            }
            return end - start == 2 ? longSignKind(symbol) : signKind(symbol);
        }

        /** A word that no RULE has goes on with no text, so it need not be told from what is no token. */
        private int wordKind(int start, int letters) {
            for (int w = 0; w * WORD_ROOM + WORD_ROOM <= WORDS.length(); w++) {
                if (letters <= WORD_ROOM && isWord(w * WORD_ROOM, start, letters)) {
                    return w;
                }
            }
            return NO_TOKEN;
        }

        private boolean isWord(int word, int start, int letters) {
            for (int i = 0; i < WORD_ROOM; i++) {
                int symbol = i < letters ? tape.at(start + i) : ' ';
                if (word + i >= WORDS.length() || WORDS.charAt(word + i) != symbol) {
                    return false;
                }
            }
            return true;
        }

        private static int longSignKind(int symbol) {
            if (symbol == '=') {
                return EQUAL;
            }
            return symbol == '!' ? UNLIKE : AT_MOST;
        }

        private static int signKind(int symbol) {
            switch (symbol) {
                case ';': return SEMICOLON;
                case '+': return PLUS;
                case '-': return MINUS;
                case '*': return TIMES;
                case '<': return LESS;
                case '(': return OPEN;
                case ')': return CLOSE;
                default: return NO_TOKEN;
            }
        }

        private int numberAt(int start, int end) {
            int number = 0;
            for (int i = start; i < end; i++) {
                number = number * 10 + tape.at(i) - '0';
            }
            return number;
        }
    }

    /**
     * A text made ready: its RULES, and their terms as steps for a stack. A RULE's E comes first among
     * its steps, then its COND; either may have none.
     */
    private static final class Text {
        private final int[] kinds = new int[RULES];
        private final int[] firstInt = new int[RULES];
        private final int[] secondInt = new int[RULES];
        private final int[] termFrom = new int[RULES];
        private final int[] condFrom = new int[RULES];
        private final int[] condTo = new int[RULES];
        private final int[] steps = new int[TOKENS];
        private final int[] numbers = new int[TOKENS];
        private final int[] stack = new int[TOKENS];
        private int rules = 0;
        private int size = 0;

        void clear() {
            rules = 0;
            size = 0;
        }

        void addStep(int step, int number) {
            if (size < TOKENS) {
                steps[size] = step;
                numbers[size] = number;
                size++;
            }
        }

        /** A RULE whose steps end with the latest one. */
        void addRule(int kind, int first, int second, int termStart, int condStart) {
            if (rules < RULES) {
                kinds[rules] = kind;
                firstInt[rules] = first;
                secondInt[rules] = second;
                termFrom[rules] = termStart;
                condFrom[rules] = condStart;
                condTo[rules] = size;
                rules++;
            }
        }

        void copyFrom(Text other) {
            System.arraycopy(other.kinds, 0, kinds, 0, RULES);
            System.arraycopy(other.firstInt, 0, firstInt, 0, RULES);
            System.arraycopy(other.secondInt, 0, secondInt, 0, RULES);
            System.arraycopy(other.termFrom, 0, termFrom, 0, RULES);
            System.arraycopy(other.condFrom, 0, condFrom, 0, RULES);
            System.arraycopy(other.condTo, 0, condTo, 0, RULES);
            System.arraycopy(other.steps, 0, steps, 0, TOKENS);
            System.arraycopy(other.numbers, 0, numbers, 0, TOKENS);
            rules = other.rules;
            size = other.size;
        }

        int firstOfKind(int kind) {
            for (int r = 0; r < rules; r++) {
                if (kinds[r] == kind) {
                    return r;
                }
            }
            return NONE;
        }

        /** The first RULE of a kind whose COND, if it has one, is true of the VARS. */
        int firstHolding(int kind, int[] vars) {
            for (int r = 0; r < rules; r++) {
                boolean free = condFrom[r] == condTo[r];
                if (kinds[r] == kind && (free || valueOf(condFrom[r], condTo[r], vars) != 0)) {
                    return r;
                }
            }
            return NONE;
        }

        int termOf(int rule, int[] vars) {
            if (rule < 0 || rule >= rules) {
                return 0;
            }
            return valueOf(termFrom[rule], condFrom[rule], vars);
        }

        private int valueOf(int from, int to, int[] vars) {
            int top = 0;
            for (int i = from; i < to && i < size; i++) {
                int step = steps[i];
                if (step == INT_TOKEN && top < TOKENS) {
                    stack[top] = numbers[i];
                    top++;
                } else if (step >= 0 && step < vars.length && top < TOKENS) {
                    stack[top] = vars[step];
                    top++;
                } else if (top >= 2) {
                    int left = stack[top - 2];
                    int right = stack[top - 1];
                    int joined = 0;
                    switch (step) {
                        case PLUS: joined = left + right; break;
                        case MINUS: joined = left - right; break;
                        case TIMES: joined = left * right; break;
                        case EQUAL: joined = left == right ? 1 : 0; break;
                        case UNLIKE: joined = left != right ? 1 : 0; break;
                        case LESS: joined = left < right ? 1 : 0; break;
                        case AT_MOST: joined = left <= right ? 1 : 0; break;
                        case AND_WORD: joined = left & right; break;
                        case OR_WORD: joined = left | right; break;
                        default: break;
                    }
                    stack[top - 2] = joined;
                    top--;
                }
            }
            return top > 0 ? stack[0] : 0;
        }
    }

    /**
     * Reads the tokens into a draft. A token is looked at by the grammar ahead of any limit, so that a
     * SYNTAX fault goes ahead of a ROOM fault of the same place.
     */
    private static final class Parser {
        private final Scanner scanner;
        private final Text draft;
        private int at = 0;
        private int fault = 0;
        private int place = NONE;

        Parser(Scanner scanner, Text draft) {
            this.scanner = scanner;
            this.draft = draft;
        }

        void parse() {
            draft.clear();
            at = 0;
            fault = 0;
            place = NONE;
            scanner.split();
            for (int r = 0; r <= RULES && fault == 0 && seen() != TEXT_END; r++) {
                parseRule();
            }
        }

        /** The kind of the next token; behind a fault nothing fits any more. */
        private int seen() {
            return fault != 0 || at < 0 || at >= scanner.size ? NO_TOKEN : scanner.kinds[at];
        }

        private void fail(int kind) {
            if (fault == 0 && at >= 0 && at < scanner.size) {
                fault = kind;
                place = scanner.places[at];
            }
        }

        private void take(int kind) {
            if (seen() != kind) {
                fail(SYNTAX);
            } else if (at >= TOKENS) {
                fail(ROOM);
            } else {
                at++;
            }
        }

        private int takeInt() {
            int value = seen() == INT_TOKEN ? scanner.values[at] : 0;
            take(INT_TOKEN);
            return value;
        }

        private void parseRule() {
            int kind = seen();
            if (kind != BAR_WORD && kind != CLASS_WORD && kind != POINTS_WORD && kind != TITLE_WORD) {
                fail(SYNTAX);
                return;
            }
            if (draft.rules >= RULES) {
                fail(ROOM);
                return;
            }
            take(kind);
            int first = kind == CLASS_WORD || kind == TITLE_WORD ? takeInt() : 0;
            int second = 0;
            if (kind == TITLE_WORD) {
                take(UNDER_WORD);
                second = takeInt();
            }
            int termStart = draft.size;
            if (kind == POINTS_WORD) {
                parseLevel(E_LEVEL, 0);
            }
            int condStart = draft.size;
            if (kind == BAR_WORD || kind == CLASS_WORD || kind == POINTS_WORD && seen() == IF_WORD) {
                take(IF_WORD);
                parseLevel(COND_LEVEL, 0);
            }
            take(SEMICOLON);
            draft.addRule(kind, first, second, termStart, condStart);
        }

        /** A level and all that is tighter, within so many open brackets. */
        private void parseLevel(int level, int open) {
            if (level >= UNIT_LEVEL) {
                parseUnit(open);
                return;
            }
            parseLevel(level + 1, open);
            if (level == REL_LEVEL && !joins(REL_LEVEL, seen())) {
                fail(SYNTAX);
            }
            int most = level == REL_LEVEL ? 1 : TOKENS;
            for (int i = 0; i < most && joins(level, seen()); i++) {
                int sign = seen();
                take(sign);
                parseLevel(level + 1, open);
                draft.addStep(sign, 0);
            }
        }

        private static boolean joins(int level, int kind) {
            switch (level) {
                case COND_LEVEL: return kind == OR_WORD;
                case ALL_LEVEL: return kind == AND_WORD;
                case REL_LEVEL: return kind >= EQUAL && kind <= AT_MOST;
                case E_LEVEL: return kind == PLUS || kind == MINUS;
                case PART_LEVEL: return kind == TIMES;
                default: return false;
            }
        }

        private void parseUnit(int open) {
            int kind = seen();
            if (kind == INT_TOKEN) {
                draft.addStep(INT_TOKEN, takeInt());
            } else if (kind >= 0 && kind < VARS) {
                take(kind);
                draft.addStep(kind, 0);
            } else if (kind != OPEN) {
                fail(SYNTAX);
            } else if (open >= OPEN_AT_ONCE) {
                fail(ROOM);
            } else {
                take(OPEN);
                parseLevel(E_LEVEL, open + 1);
                take(CLOSE);
            }
        }
    }

    /** PERSONS, BREEDS and DOGS as they were told. */
    private static final class Kennel {
        private final int[] kinBits = new int[PERSONS];
        private final int[] permits = new int[PERSONS];
        private final int[] group = new int[BREEDS];
        private final int[] minutes = new int[BREEDS];
        private final int[] heightFrom = new int[BREEDS];
        private final int[] heightTo = new int[BREEDS];
        private final int[] breed = new int[DOGS];
        private final int[] birth = new int[DOGS];
        private final int[] sex = new int[DOGS];
        private final int[] firstOwner = new int[DOGS];
        private final int[] handler = new int[DOGS];
        private int breeds = 0;
        private int dogs = 0;

        boolean areKin(int one, int other) {
            return isPerson(one) && isPerson(other) && (kinBits[one] >> other & 1) == 1;
        }

        void makeKin(int one, int other) {
            if (isPerson(one) && isPerson(other)) {
                kinBits[one] |= 1 << other;
                kinBits[other] |= 1 << one;
            }
        }

        int addBreed(int itsGroup, int itsMinutes, int from, int to) {
            if (breeds >= BREEDS) {
                return NONE;
            }
            group[breeds] = itsGroup;
            minutes[breeds] = itsMinutes;
            heightFrom[breeds] = from;
            heightTo[breeds] = to;
            breeds++;
            return breeds - 1;
        }

        int addDog(int itsBreed, int itsBirth, int itsSex, int itsOwner, int itsHandler) {
            if (dogs >= DOGS) {
                return NONE;
            }
            breed[dogs] = itsBreed;
            birth[dogs] = itsBirth;
            sex[dogs] = itsSex;
            firstOwner[dogs] = itsOwner;
            handler[dogs] = itsHandler;
            dogs++;
            return dogs - 1;
        }

        /** Those of a BREED among DOGS given as bits. */
        int ofBreed(int dogBits, int oneBreed) {
            int bits = 0;
            for (int d = 0; d < dogs; d++) {
                if (breed[d] == oneBreed) {
                    bits |= dogBits & 1 << d;
                }
            }
            return bits;
        }

        /** The HANDLERS, as bits, of DOGS given as bits. */
        int handlersOf(int dogBits) {
            int bits = 0;
            for (int d = 0; d < dogs; d++) {
                if ((dogBits >> d & 1) == 1) {
                    bits |= 1 << handler[d];
                }
            }
            return bits;
        }

        boolean isOfHeight(int oneBreed, int height) {
            return isWithin(oneBreed, 0, breeds - 1)
                    && isWithin(height, heightFrom[oneBreed], heightTo[oneBreed]);
        }
    }

    /** The FACTS in the order in which they were told; each question is asked of the first n alone. */
    private static final class Facts {
        private final Kennel kennel;
        private final int[] kinds = new int[FACTS];
        private final int[] shows = new int[FACTS];
        private final int[] dogs = new int[FACTS];
        private final int[] values = new int[FACTS];
        private final int[] days = new int[FACTS];
        private int size = 0;

        Facts(Kennel kennel) {
            this.kennel = kennel;
        }

        int add(int kind, int show, int dog, int value, int day) {
            if (size >= FACTS) {
                return NONE;
            }
            kinds[size] = kind;
            shows[size] = show;
            dogs[size] = dog;
            values[size] = value;
            days[size] = day;
            size++;
            return size - 1;
        }

        int valueAt(int i) {
            return isWithin(i, 0, size - 1) ? values[i] : NONE;
        }

        /** The last FACT of a kind about a DOG in a SHOW; NONE without. */
        int lastOf(int kind, int show, int dog, int n) {
            for (int i = Math.min(n, size) - 1; i >= 0; i--) {
                if (kinds[i] == kind && shows[i] == show && dogs[i] == dog) {
                    return i;
                }
            }
            return NONE;
        }

        /** The measure that is held for a DOG in a SHOW; NONE without. */
        int heldMeasure(int show, int dog, int n) {
            int last = lastOf(MEASURED, show, dog, n);
            int second = lastOf(MEASURED, show, dog, last);
            int third = lastOf(MEASURED, show, dog, second);
            int a = valueAt(last);
            int b = valueAt(second);
            int c = valueAt(third);
            if (second == NONE) {
                return a;
            }
            if (third == NONE) {
                return Math.min(a, b);
            }
            return Math.max(Math.min(a, b), Math.min(Math.max(a, b), c));
        }

        /** The FACT by which a DOG is owned on a DAY; NONE: it is its first OWNER's. */
        private int saleBy(int dog, int day, int n) {
            int sale = NONE;
            int latest = NONE;
            for (int i = 0; i < n && i < size; i++) {
                boolean isSale = kinds[i] == OWNED && dogs[i] == dog;
                if (isSale && days[i] <= day && days[i] >= latest) {
                    sale = i;
                    latest = days[i];
                }
            }
            return sale;
        }

        /** Who has a DOG by a sale; by NONE its first OWNER. */
        private int buyer(int dog, int sale) {
            if (sale >= 0 && sale < size) {
                return values[sale];
            }
            return dog >= 0 && dog < kennel.dogs ? kennel.firstOwner[dog] : NONE;
        }

        int ownerOn(int dog, int day, int n) {
            return buyer(dog, saleBy(dog, day, n));
        }

        /** PARTED: goes back from sale to sale, for between them the OWNER stays the same. */
        int daysSinceOwned(int person, int dog, int day, int n) {
            if (ownerOn(dog, day, n) == person) {
                return NONE;
            }
            int last = day - 1;
            for (int i = 0; i <= FACTS && last >= 0; i++) {
                int sale = saleBy(dog, last, n);
                if (buyer(dog, sale) == person) {
                    return day - last;
                }
                last = isWithin(sale, 0, size - 1) ? days[sale] - 1 : NONE;
            }
            return NONE;
        }
    }

    /** RING, JUDGE, begin and end of each BREED; NONE for those without. */
    private static final class Timetable {
        private final int[] cells = new int[BREEDS * CELLS];

        Timetable() {
            clear();
        }

        void clear() {
            for (int i = 0; i < BREEDS * CELLS; i++) {
                cells[i] = NONE;
            }
        }

        void copyFrom(Timetable other) {
            System.arraycopy(other.cells, 0, cells, 0, BREEDS * CELLS);
        }

        int at(int breed, int what) {
            if (!isWithin(breed, 0, BREEDS - 1) || !isWithin(what, 0, CELLS - 1)) {
                return NONE;
            }
            return cells[breed * CELLS + what];
        }

        void put(int breed, int ring, int judge, int begin, int end) {
            if (isWithin(breed, 0, BREEDS - 1)) {
                cells[breed * CELLS + RING] = ring;
                cells[breed * CELLS + JUDGE] = judge;
                cells[breed * CELLS + BEGIN] = begin;
                cells[breed * CELLS + END] = end;
            }
        }

        boolean has(int breed) {
            return at(breed, JUDGE) != NONE;
        }

        /** Whether a BREED that has its time here is on at some minute from begin up to end. */
        boolean overlaps(int breed, int begin, int end) {
            if (breed < 0 || breed >= BREEDS) {
                return false;
            }
            int row = breed * CELLS;
            return cells[row + JUDGE] != NONE && cells[row + BEGIN] < end && begin < cells[row + END];
        }
    }

    /** A SHOW: its DAY, its ENTRIES (DOGS as bits) and what is PLANNED. */
    private static final class Show {
        private final int number;
        private final Timetable timetable = new Timetable();
        private int day = 0;
        private int entries = 0;

        Show(int number) {
            this.number = number;
        }

        boolean hasEntry(int dog) {
            return isWithin(dog, 0, DOGS - 1) && (entries >> dog & 1) == 1;
        }

        void addEntry(int dog) {
            if (isWithin(dog, 0, DOGS - 1)) {
                entries |= 1 << dog;
            }
        }
    }

    /** The text as it bears on DOGS and JUDGES. */
    private static final class Club {
        private final Text text;
        private final Kennel kennel;
        private final Facts facts;
        private final int[] vars = new int[VARS];

        Club(Text text, Kennel kennel, Facts facts) {
            this.text = text;
            this.kennel = kennel;
            this.facts = facts;
        }

        /** The CLASS of a DOG; leaves the VARS as a class RULE has them, all others at 0. */
        int classOf(Show show, int dog) {
            for (int v = 0; v < VARS; v++) {
                vars[v] = 0;
            }
            if (!isWithin(dog, 0, kennel.dogs - 1)) {
                return NO_CLASS;
            }
            int breed = kennel.breed[dog];
            vars[AGE_WORD] = Math.max(0, show.day - kennel.birth[dog]);
            vars[SEX_WORD] = kennel.sex[dog];
            vars[BREED_WORD] = breed;
            vars[GROUP_WORD] = isWithin(breed, 0, BREEDS - 1) ? kennel.group[breed] : 0;
            int rule = text.firstHolding(CLASS_WORD, vars);
            return isWithin(rule, 0, RULES - 1) ? text.firstInt[rule] : NO_CLASS;
        }

        int firstBar(int judge, Show show, int dog, int n) {
            int itsClass = classOf(show, dog);
            int itsOwner = facts.ownerOn(dog, show.day, n);
            vars[CLASS_WORD] = itsClass;
            vars[OWN_WORD] = itsOwner == judge ? 1 : 0;
            vars[KIN_WORD] = kennel.areKin(itsOwner, judge) ? 1 : 0;
            vars[PARTED_WORD] = facts.daysSinceOwned(judge, dog, show.day, n);
            return text.firstHolding(BAR_WORD, vars);
        }

        int pointsFor(Show show, int dog, int beaten) {
            int itsClass = classOf(show, dog);
            vars[CLASS_WORD] = itsClass;
            vars[BEATEN_WORD] = beaten;
            return text.termOf(text.firstHolding(POINTS_WORD, vars), vars);
        }
    }

    /** Looks through all ORDERS of a SHOW's BREEDS for THE PLAN. */
    private static final class Planner {
        private final Kennel kennel;
        private final Club club;
        private final int[] length = new int[BREEDS];
        private final int[] judges = new int[BREEDS];
        private final int[] handlers = new int[BREEDS];
        private final Timetable trial = new Timetable();
        private final Timetable best = new Timetable();
        private int rings = 1;
        private int bestLast = 0;
        private int bestSum = 0;

        Planner(Kennel kennel, Club club) {
            this.kennel = kennel;
            this.club = club;
        }

        /** Finds the best timetable; false if some BREED has no JUDGE. */
        boolean search(Show show, int n, int ringCount) {
            int toPlace = 0;
            for (int b = 0; b < kennel.breeds; b++) {
                int dogs = kennel.ofBreed(show.entries, b);
                length[b] = kennel.minutes[b] * Integer.bitCount(dogs);
                handlers[b] = kennel.handlersOf(dogs);
                judges[b] = dogs == 0 ? 0 : judgesFor(show, b, dogs, n);
                if (dogs != 0 && judges[b] == 0) {
                    return false;
                }
                toPlace |= dogs == 0 ? 0 : 1 << b;
            }
            rings = ringCount;
            bestLast = NEVER;
            bestSum = NEVER;
            trial.clear();
            tryOrders(toPlace, 0, 0, 0);
            return true;
        }

        /** The PERSONS, as bits, who may judge all these DOGS of a BREED. */
        private int judgesFor(Show show, int breed, int dogs, int n) {
            int bits = 0;
            for (int p = 0; p < PERSONS; p++) {
                boolean may = (kennel.permits[p] >> breed & 1) == 1;
                for (int d = 0; d < kennel.dogs && may; d++) {
                    may = (dogs >> d & 1) == 0 || club.firstBar(p, show, d, n) == NONE;
                }
                bits |= may ? 1 << p : 0;
            }
            return bits;
        }

        /**
         * Tries every ORDER of the BREEDS that are left behind those that are placed. The least BREED is
         * tried first and only what is better takes the best's place, so the first of like ORDERS stays.
         * More BREEDS never make last or sum less, so what is no better by now is given up.
         */
        private void tryOrders(int left, int placed, int last, int sum) {
            if (last > bestLast || last == bestLast && sum >= bestSum) {
                return;
            }
            if (left == 0) {
                bestLast = last;
                bestSum = sum;
                best.copyFrom(trial);
                return;
            }
            for (int b = 0; b < BREEDS; b++) {
                int bit = 1 << b;
                if ((left & bit) != 0) {
                    placeBreed(b, placed);
                    int end = trial.at(b, END);
                    tryOrders(left & ~bit, placed | bit, Math.max(last, end), sum + end);
                }
            }
        }

        /**
         * Puts a BREED to its soonest MINUTE: 0 or some placed BREED's end, for what is free at a MINUTE
         * is free one sooner unless something ends there.
         */
        private void placeBreed(int breed, int placed) {
            int soonest = fits(breed, 0, placed) ? 0 : NEVER;
            for (int b = 0; b < BREEDS; b++) {
                if ((placed >> b & 1) == 1) {
                    int end = trial.at(b, END);
                    if (end < soonest && fits(breed, end, placed)) {
                        soonest = end;
                    }
                }
            }
            int others = meanwhile(breed, soonest, placed);
            int ring = Integer.numberOfTrailingZeros(~taken(others, RING));
            int judge = Integer.numberOfTrailingZeros(judges[breed] & ~taken(others, JUDGE));
            trial.put(breed, ring, judge, soonest, soonest + length[breed]);
        }

        private boolean fits(int breed, int minute, int placed) {
            int others = meanwhile(breed, minute, placed);
            boolean ringFree = Integer.bitCount(taken(others, RING)) < rings;
            boolean judgeFree = (judges[breed] & ~taken(others, JUDGE)) != 0;
            boolean handlersFree = true;
            for (int b = 0; b < BREEDS; b++) {
                if ((others >> b & 1) == 1 && (handlers[b] & handlers[breed]) != 0) {
                    handlersFree = false;
                }
            }
            return ringFree && judgeFree && handlersFree;
        }

        /** The placed BREEDS, as bits, that are on while a BREED would be that began at a MINUTE. */
        private int meanwhile(int breed, int minute, int placed) {
            int bits = 0;
            for (int b = 0; b < BREEDS; b++) {
                if ((placed >> b & 1) == 1 && trial.overlaps(b, minute, minute + length[breed])) {
                    bits |= 1 << b;
                }
            }
            return bits;
        }

        /** The RINGS or JUDGES, as bits, of BREEDS given as bits. */
        private int taken(int breedBits, int what) {
            int bits = 0;
            for (int b = 0; b < BREEDS; b++) {
                if ((breedBits >> b & 1) == 1) {
                    bits |= 1 << trial.at(b, what);
                }
            }
            return bits;
        }
    }

    /** RESULTS of a SHOW, as KNOWN by n. */
    private static final class Results {
        private final Kennel kennel;
        private final Facts facts;
        private final Club club;

        Results(Kennel kennel, Facts facts, Club club) {
            this.kennel = kennel;
            this.facts = facts;
            this.club = club;
        }

        /** 0 if a DOG COUNTS, else the least reason why it does not. */
        int standing(Show show, int dog, int n) {
            if (!show.hasEntry(dog)) {
                return NO_ENTRY;
            }
            if (facts.lastOf(ABSENT, show.number, dog, n) != NONE) {
                return IS_ABSENT;
            }
            if (facts.lastOf(STRUCK, show.number, dog, n) != NONE) {
                return IS_STRUCK;
            }
            int breed = kennel.breed[dog];
            int measure = facts.heldMeasure(show.number, dog, n);
            if (measure != NONE && !kennel.isOfHeight(breed, measure)) {
                return OUT_BY_MEASURE;
            }
            if (!show.timetable.has(breed)) {
                return NO_JUDGE;
            }
            int judge = show.timetable.at(breed, JUDGE);
            return club.firstBar(judge, show, dog, n) != NONE ? JUDGE_BARRED : COUNTING;
        }

        /** THE WINNER of a BREED; NONE without. */
        int winnerOf(Show show, int breed, int n) {
            int best = NONE;
            int bestFact = NONE;
            for (int d = 0; d < kennel.dogs; d++) {
                int fact = facts.lastOf(RANK, show.number, d, n);
                boolean mayWin = kennel.breed[d] == breed && fact != NONE && goesAhead(fact, bestFact);
                if (mayWin && standing(show, d, n) == COUNTING) {
                    best = d;
                    bestFact = fact;
                }
            }
            return best;
        }

        /** Whether one FACT of a RANK goes ahead of another, which may be NONE. */
        private boolean goesAhead(int fact, int other) {
            int rank = facts.valueAt(fact);
            int otherRank = facts.valueAt(other);
            return other == NONE || rank < otherRank || rank == otherRank && fact < other;
        }

        int pointsOfWinner(Show show, int dog, int n) {
            int breed = kennel.breed[dog];
            int beaten = 0;
            for (int d = 0; d < kennel.dogs; d++) {
                if (d != dog && kennel.breed[d] == breed && standing(show, d, n) == COUNTING) {
                    beaten++;
                }
            }
            return club.pointsFor(show, dog, beaten);
        }
    }
}
