import java.util.Arrays;
import java.util.NoSuchElementException;

/** Splashed at the kerb: a street told as a text, its water, and the cars that throw it. */
public final class KerbSplash {
    public static final int NONE = -1;

    private static final int MOST_RAINS = 4;
    private static final int MOST_LAWS = 4;
    private static final int MOST_IMAGES = 3;
    private static final int FAULT_LESS = 10;

    private final Tape tape = new Tape();
    private final Rain[] rains = new Rain[MOST_RAINS];
    private final Law[] laws = new Law[MOST_LAWS];
    private int rainsTold;
    private int lawsTold;
    private Street now = new Street();
    // A street is read here first, so that a fault leaves the other one as it was.
    private Street draft = new Street();
    private final Plan plan = new Plan();
    private final Street[] streetImages = new Street[MOST_IMAGES];
    private final Plan[] planImages = new Plan[MOST_IMAGES];
    private int images;
    private final WhatIf whatIf = new WhatIf();
    private final Orders orders = new Orders();
    private final int[] refused = new int[4];

    public KerbSplash() {
        for (int i = 0; i < rains.length; i++) {
            rains[i] = new Rain();
        }
        for (int i = 0; i < laws.length; i++) {
            laws[i] = new Law();
        }
        for (int i = 0; i < MOST_IMAGES; i++) {
            streetImages[i] = new Street();
            planImages[i] = new Plan();
        }
    }

    public int feed(int a, int b, int c, int d, int e) {
        if (!tape.hasRoom()) {
            return NONE;
        }
        tape.add(a);
        tape.add(b);
        tape.add(c);
        tape.add(d);
        tape.add(e);
        return tape.fed;
    }

    public int street(int n) throws IllegalArgumentException {
        beginText(n);
        new StreetReader(tape, draft).read();
        if (!tape.good()) {
            return tape.fault - FAULT_LESS;
        }
        Street before = now;
        now = draft;
        draft = before;
        plan.reset();
        images = 0;
        return now.cells();
    }

    public int rain(int n) throws IllegalArgumentException {
        beginText(n);
        if (rainsTold >= MOST_RAINS) {
            return NONE;
        }
        rains[rainsTold].read(tape);
        if (!tape.good()) {
            return tape.fault - FAULT_LESS;
        }
        rainsTold++;
        return rainsTold - 1;
    }

    public int law(int n) throws IllegalArgumentException {
        beginText(n);
        if (lawsTold >= MOST_LAWS) {
            return NONE;
        }
        new LawReader(tape, laws[lawsTold]).read();
        if (!tape.good()) {
            return tape.fault - FAULT_LESS;
        }
        lawsTold++;
        return lawsTold - 1;
    }

    public int fault() {
        return tape.faultAt;
    }

    public int told(int what) throws IllegalArgumentException {
        needArgument(isWithin(what, 0, 8));
        switch (what) {
            case 0: return now.wide;
            case 1: return now.rows;
            case 2: return now.drains;
            case 3: return now.persons;
            case 4: return now.shelters;
            case 5: return now.works;
            case 6: return rainsTold;
            case 7: return lawsTold;
            default: return now.minutes;
        }
    }

    public int cell(int x, int y, int what) throws IndexOutOfBoundsException, IllegalArgumentException {
        needCell(x, y);
        needArgument(isWithin(what, 0, 2));
        int at = now.index(x, y);
        if (what == 0) {
            return now.height[at];
        }
        return what == 1 ? now.water[at] : now.surface(at);
    }

    public int drain(int drain, int what) throws NoSuchElementException, IllegalArgumentException {
        needElement(isWithin(drain, 0, now.drains - 1));
        needArgument(isWithin(what, 0, 3));
        return now.drain[Street.STRIDE * drain + what];
    }

    public int leaves(int drain, int n) throws NoSuchElementException, IllegalArgumentException {
        needElement(isWithin(drain, 0, now.drains - 1));
        needArgument(isWithin(n, 0, Street.ALL_LEAVES) && drain < now.drainsTold);
        int at = Street.STRIDE * drain + Street.LEAVES;
        int before = now.drain[at];
        now.drain[at] = n;
        return before;
    }

    public int person(int person, int what) throws NoSuchElementException, IllegalArgumentException {
        needElement(isWithin(person, 0, now.persons - 1));
        needArgument(isWithin(what, 0, 3));
        return now.person[Street.STRIDE * person + what];
    }

    public int work(int work, int what) throws NoSuchElementException, IllegalArgumentException {
        needElement(isWithin(work, 0, now.works - 1));
        needArgument(isWithin(what, 0, 1));
        return now.work[Street.WORK_STRIDE * work + what];
    }

    public int does(int work) throws NoSuchElementException {
        needElement(isWithin(work, 0, now.works - 1));
        return now.doWork(work) ? 1 : 0;
    }

    public int minutes(int n, int rain) throws IllegalArgumentException, IllegalStateException {
        needArgument(isWithin(n, 1, 60) && isWithin(rain, 0, Rain.MOST_FALL));
        needState(now.isTold() && now.hasTime());
        return now.passMinutes(n, rain);
    }

    public int shower(int rain) throws NoSuchElementException, IllegalStateException {
        needRain(rain);
        needState(now.isTold() && now.hasTime());
        return now.passRain(rains[rain]);
    }

    public int sums(int what) throws IllegalArgumentException {
        needArgument(isWithin(what, 0, 3));
        switch (what) {
            case 0: return now.fallen;
            case 1: return now.taken;
            case 2: return now.gone;
            default: return now.standing();
        }
    }

    public int says(int law, int what, int depth, int pace, int tyre, int row, int far, int people, int shelter)
            throws NoSuchElementException, IllegalArgumentException {
        needLaw(law);
        needArgument(isWithin(what, 0, 4));
        int[] names = whatIf.car.names;
        names[Law.DEPTH] = depth;
        names[Law.PACE] = pace;
        names[Law.TYRE] = tyre;
        names[Law.ROW] = row;
        names[Law.FAR] = far;
        names[Law.PEOPLE] = people;
        names[Law.SHELTER] = shelter;
        return laws[law].value(what, names);
    }

    public int car(int law, int row, int pace, int tyre, int kind)
            throws NoSuchElementException, IllegalArgumentException, IllegalStateException {
        needLaw(law);
        needArgument(isCar(row, pace, tyre, kind));
        needState(now.isTold());
        whatIf.car.become(row, pace, tyre, kind);
        return whatIf.car.drive(now, laws[law]);
    }

    public int traffic(int rounds, int row, int pace, int tyre, int kind) throws IllegalArgumentException {
        needArgument(isWithin(rounds, 0, 99) && isCar(row, pace, tyre, kind));
        return plan.addCar(rounds, row, pace, tyre, kind);
    }

    public int pass(int law) throws NoSuchElementException, IllegalStateException {
        needLaw(law);
        needState(now.isTold());
        return whatIf.passTraffic(now, plan, laws[law]);
    }

    public int clear() {
        int went = plan.cars;
        plan.cars = 0;
        return went;
    }

    public int deep(int rain, int x, int y)
            throws IndexOutOfBoundsException, NoSuchElementException, IllegalStateException {
        needCell(x, y);
        needRain(rain);
        needState(now.isTold());
        return whatIf.depthBehind(now, rains[rain], now.index(x, y));
    }

    public int when(int rain, int x, int y, int n)
            throws IndexOutOfBoundsException, NoSuchElementException, IllegalArgumentException, IllegalStateException {
        needCell(x, y);
        needRain(rain);
        needArgument(isWithin(n, 1, 9999));
        needState(now.isTold());
        return whatIf.minuteOf(now, rains[rain], now.index(x, y), n);
    }

    public int blame(int rain, int x, int y, int what)
            throws IndexOutOfBoundsException, NoSuchElementException, IllegalArgumentException, IllegalStateException {
        needCell(x, y);
        needRain(rain);
        needArgument(isWithin(what, 0, 1));
        needState(now.isTold());
        whatIf.findBlame(now, rains[rain], now.index(x, y));
        return whatIf.answer(what);
    }

    public int look(int rain, int what)
            throws NoSuchElementException, IllegalArgumentException, IllegalStateException {
        needRain(rain);
        needArgument(isWithin(what, 0, 1));
        needState(now.isTold());
        whatIf.findLook(now, rains[rain]);
        return whatIf.answer(what);
    }

    public int stand(int law, int most, int what)
            throws NoSuchElementException, IllegalArgumentException, IllegalStateException {
        needLaw(law);
        needArgument(isWithin(most, 0, Street.MOST_FEET) && isWithin(what, 0, 1));
        needState(now.isTold());
        whatIf.findStand(now, plan, laws[law], most);
        return whatIf.answer(what);
    }

    public int pace(int law, int row, int tyre, int n)
            throws NoSuchElementException, IllegalArgumentException, IllegalStateException {
        needLaw(law);
        needArgument(isCar(row, 1, tyre, Car.PLAIN) && isWithin(n, 0, 9999));
        needState(now.isTold());
        return whatIf.greatestPace(now, laws[law], row, tyre, n);
    }

    public int moved(int law, int what)
            throws NoSuchElementException, IllegalArgumentException, IllegalStateException {
        needLaw(law);
        needArgument(isWithin(what, 0, 1));
        needState(now.isTold());
        whatIf.findStep(now, plan, laws[law]);
        return whatIf.answer(what);
    }

    public int mend(int rain, int x, int y, int n, int what)
            throws IndexOutOfBoundsException, NoSuchElementException, IllegalArgumentException, IllegalStateException {
        needCell(x, y);
        needRain(rain);
        needArgument(isWithin(n, 0, 9999) && isWithin(what, 0, 1));
        needState(now.isTold());
        whatIf.findMend(now, rains[rain], now.index(x, y), n);
        return whatIf.answer(what);
    }

    public int share(int kind, int n) throws IllegalArgumentException {
        needArgument(isWithin(kind, 0, Car.MEANS) && isWithin(n, 0, 99));
        int before = plan.shares[kind];
        plan.shares[kind] = n;
        return before;
    }

    public int meant(int law, int x, int seenRow, int seenPace, int row, int pace, int tyre)
            throws IndexOutOfBoundsException, NoSuchElementException, IllegalArgumentException, IllegalStateException {
        needCell(x, seenRow);
        needLaw(law);
        needArgument(isWithin(seenPace, 1, Car.MOST_PACE) && isCar(row, pace, tyre, Car.PLAIN));
        needState(now.isTold());
        whatIf.car.become(row, pace, tyre, Car.PLAIN);
        return whatIf.shareMeant(now, plan, laws[law], x, seenRow, seenPace);
    }

    public int dip(int persons, int days, int by) throws IllegalArgumentException {
        needArgument(isWithin(persons, 1, 99) && isWithin(days, 1, 30) && isWithin(by, 1, 99));
        return plan.addDip(persons, days, by);
    }

    public int town(int what) throws IllegalArgumentException {
        needArgument(isWithin(what, 0, 2));
        if (plan.dips == 0) {
            return NONE;
        }
        orders.findFirst(plan);
        if (what == 0) {
            return orders.late;
        }
        return what == 1 ? orders.least : orders.order;
    }

    public int sweep(int what) throws IllegalArgumentException {
        needArgument(isWithin(what, 0, 1));
        orders.findSweeping(now);
        return what == 0 ? orders.least : orders.order;
    }

    public int ice(int n, int what) throws IllegalArgumentException {
        needArgument(isWithin(n, 1, 9999) && isWithin(what, 0, 2));
        if (what == 0) {
            return now.iceCells(n);
        }
        return what == 1 ? now.longestIce(n) : now.personsOnIce(n);
    }

    public int image() {
        if (images == MOST_IMAGES) {
            return NONE;
        }
        streetImages[images].become(now);
        planImages[images].become(plan);
        images++;
        return images;
    }

    public int restore() {
        if (images == 0) {
            return NONE;
        }
        images--;
        now.become(streetImages[images]);
        plan.become(planImages[images]);
        return images;
    }

    public int status(int what) {
        return isWithin(what, 0, 3) ? refused[what] : NONE;
    }

    public int count(int what) {
        switch (what) {
            case 0: return plan.cars;
            case 1: return plan.dips;
            case 2: return images;
            case 3: return tape.fed;
            default: return NONE;
        }
    }

    private void beginText(int n) {
        needArgument(isWithin(n, 0, tape.fed));
        tape.begin(n);
    }

    private void needCell(int x, int y) {
        if (!now.has(x, y)) {
            refused[0]++;
            throw new IndexOutOfBoundsException("no such cell");
        }
    }

    private void needRain(int rain) {
        needElement(isWithin(rain, 0, rainsTold - 1));
    }

    private void needLaw(int law) {
        needElement(isWithin(law, 0, lawsTold - 1));
    }

    private void needElement(boolean is) {
        if (!is) {
            refused[1]++;
            throw new NoSuchElementException("there is none of that number");
        }
    }

    private void needArgument(boolean is) {
        if (!is) {
            refused[2]++;
            throw new IllegalArgumentException("a number is none such");
        }
    }

    private void needState(boolean is) {
        if (!is) {
            refused[3]++;
            throw new IllegalStateException("there is no street, or its time is over");
        }
    }

    // Without a street there is no row, so no car either.
    private boolean isCar(int row, int pace, int tyre, int kind) {
        return isWithin(row, 0, now.rows - 1) && isWithin(pace, 1, Car.MOST_PACE)
                && isWithin(tyre, 1, 9) && isWithin(kind, Car.PLAIN, Car.MEANS);
    }

    private static boolean isWithin(int number, int least, int most) {
        return number >= least && number <= most;
    }

    private static int held(long number, int least, int most) {
        if (number < least) {
            return least;
        }
        return number > most ? most : (int) number;
    }

    /** The words of the three texts. */
    private enum Word {
        NO("", NONE, NONE, NONE),
        SIZE("size", NONE, NONE, NONE),
        HIGH("high", NONE, NONE, NONE),
        DRAIN("drain", NONE, NONE, NONE),
        PERSON("person", NONE, NONE, NONE),
        SHELTER("shelter", NONE, NONE, Law.SHELTER),
        CLEAR("clear", Street.CLEAR, NONE, NONE),
        RAISE("raise", Street.RAISE, NONE, NONE),
        LOWER("lower", Street.LOWER, NONE, NONE),
        BORE("bore", Street.BORE, NONE, NONE),
        RAIN("rain", NONE, NONE, NONE),
        THROW("throw", NONE, Law.THROW, NONE),
        REACH("reach", NONE, Law.REACH, NONE),
        WET("wet", NONE, Law.WET, NONE),
        SLOW("slow", NONE, Law.SLOW, NONE),
        OUT("out", NONE, Law.OUT, NONE),
        IF("if", NONE, NONE, NONE),
        THEN("then", NONE, NONE, NONE),
        ELSE("else", NONE, NONE, NONE),
        OR("or", NONE, NONE, NONE),
        AND("and", NONE, NONE, NONE),
        NOT("not", NONE, NONE, NONE),
        DEPTH("depth", NONE, NONE, Law.DEPTH),
        PACE("pace", NONE, NONE, Law.PACE),
        TYRE("tyre", NONE, NONE, Law.TYRE),
        ROW("row", NONE, NONE, Law.ROW),
        FAR("far", NONE, NONE, Law.FAR),
        PEOPLE("people", NONE, NONE, Law.PEOPLE);

        private static final Word[] ALL = values();

        private final String letters;
        private final int work;
        private final int saying;
        private final int name;

        Word(String letters, int work, int saying, int name) {
            this.letters = letters;
            this.work = work;
            this.saying = saying;
            this.name = name;
        }

        private static Word of(byte[] bytes, int from, int end) {
            for (int i = 0; i < ALL.length; i++) {
                String letters = ALL[i].letters;
                int same = 0;
                while (same < letters.length() && from + same < end && bytes[from + same] == letters.charAt(same)) {
                    same++;
                }
                if (same == letters.length() && from + same == end) {
                    return ALL[i];
                }
            }
            return NO;
        }

        private boolean beginsClause() {
            return work != NONE || this == SIZE || this == HIGH || this == DRAIN || this == PERSON || this == SHELTER;
        }
    }

    /** The bytes that were fed, and the reading of a text among them, up to its first fault. */
    private static final class Tape {
        private static final int MOST = 600;
        private static final int FEED = 20;
        private static final int END = -1;
        private static final int TOO_MUCH = 10000;

        private static final int CANT_STAND = 1;
        private static final int NO_SUCH_NUMBER = 2;
        private static final int TOO_MANY = 3;
        private static final int TOO_LATE = 4;

        private final byte[] bytes = new byte[MOST];
        private int fed;
        private int length;
        private int at;
        private int wordEnd;
        private int fault;
        private int faultAt = NONE;

        private boolean hasRoom() {
            return fed + FEED <= MOST;
        }

        private void add(int number) {
            for (int shift = 24; shift >= 0 && fed < MOST; shift -= 8) {
                bytes[fed] = (byte) (number >> shift);
                fed++;
            }
        }

        // The bytes themselves stay till the next ones are fed, so the text can still be read.
        private void begin(int n) {
            length = n;
            fed = 0;
            at = 0;
            wordEnd = 0;
            fault = 0;
            faultAt = NONE;
        }

        private boolean good() {
            return fault == 0;
        }

        private void refuse(int why) {
            if (fault == 0) {
                fault = why;
                faultAt = at;
            }
        }

        // Behind a fault nothing more is seen, so that all reading ends at once.
        private int sign() {
            if (fault != 0) {
                return END;
            }
            while (at < length && bytes[at] == ' ') {
                at++;
            }
            return at < length ? bytes[at] & 255 : END;
        }

        private boolean hasMore() {
            return sign() != END;
        }

        private boolean take(char wanted) {
            if (sign() != wanted) {
                return false;
            }
            at++;
            return true;
        }

        private void want(char wanted) {
            if (sign() == wanted) {
                at++;
            } else {
                refuse(CANT_STAND);
            }
        }

        private Word word() {
            if (sign() == END) {
                return Word.NO;
            }
            wordEnd = at;
            while (wordEnd < length && bytes[wordEnd] >= 'a' && bytes[wordEnd] <= 'z') {
                wordEnd++;
            }
            return Word.of(bytes, at, wordEnd);
        }

        private boolean takeWord(Word wanted) {
            if (word() != wanted) {
                return false;
            }
            at = wordEnd;
            return true;
        }

        private void wantWord(Word wanted) {
            if (word() == wanted) {
                at = wordEnd;
            } else {
                refuse(CANT_STAND);
            }
        }

        private int number(int least, int most) {
            if (!isDigit(sign())) {
                refuse(CANT_STAND);
                return least;
            }
            int end = at;
            int value = 0;
            while (end < length && isDigit(bytes[end])) {
                value = Math.min(value * 10 + bytes[end] - '0', TOO_MUCH);
                end++;
            }
            if (isWithin(value, least, most)) {
                at = end;
            } else {
                refuse(NO_SUCH_NUMBER);
            }
            return value;
        }

        private static boolean isDigit(int sign) {
            return sign >= '0' && sign <= '9';
        }
    }

    /** Reads a street from the tape. */
    private static final class StreetReader {
        private static final int MOST_CLAUSES = 60;

        private final Tape tape;
        private final Street street;

        private StreetReader(Tape tape, Street street) {
            this.tape = tape;
            this.street = street;
        }

        private void read() {
            street.reset();
            for (int clauses = 0; clauses <= MOST_CLAUSES && tape.hasMore(); clauses++) {
                readClause(clauses);
            }
        }

        private void readClause(int clauses) {
            Word word = tape.word();
            if (!word.beginsClause()) {
                tape.refuse(Tape.CANT_STAND);
            } else if (clauses == MOST_CLAUSES || isFull(word)) {
                tape.refuse(Tape.TOO_MANY);
            } else if (word == Word.SIZE && clauses > 0) {
                tape.refuse(Tape.TOO_LATE);
            } else {
                tape.takeWord(word);
                readNumbers(word);
                tape.want(';');
            }
        }

        private boolean isFull(Word word) {
            if (word == Word.DRAIN) {
                return street.drains >= Street.MOST_DRAINS;
            }
            if (word == Word.PERSON) {
                return street.persons >= Street.MOST_PERSONS;
            }
            if (word == Word.SHELTER) {
                return street.shelters >= Street.MOST_SHELTERS;
            }
            return word.work != NONE && street.works >= Street.MOST_WORKS;
        }

        private void readNumbers(Word word) {
            if (word.work != NONE) {
                readWork(word.work);
            } else if (word == Word.SIZE) {
                readSize();
            } else if (word == Word.PERSON) {
                readPerson();
            } else if (word == Word.SHELTER) {
                readShelter();
            } else {
                readOfCell(word);
            }
        }

        private void readSize() {
            int wide = tape.number(2, Street.MOST_WIDE);
            int rows = tape.number(1, Street.MOST_ROWS);
            if (tape.good()) {
                street.wide = wide;
                street.rows = rows;
            }
        }

        private void readPerson() {
            int x = tape.number(0, street.wide - 1);
            int feet = tape.number(0, Street.MOST_FEET);
            if (tape.good()) {
                street.addPerson(x, feet);
            }
        }

        private void readShelter() {
            int from = tape.number(0, street.wide - 1);
            int to = tape.number(from, street.wide - 1);
            if (tape.good()) {
                street.addShelter(from, to);
            }
        }

        private void readOfCell(Word word) {
            int x = tape.number(0, street.wide - 1);
            int y = tape.number(0, street.rows - 1);
            if (word == Word.HIGH) {
                int high = tape.number(0, Street.MOST_HEIGHT);
                if (tape.good()) {
                    street.height[street.index(x, y)] = high;
                }
                return;
            }
            int rate = tape.number(1, 99);
            int leaves = tape.number(0, Street.ALL_LEAVES);
            if (tape.good()) {
                street.addDrain(x, y, rate, leaves);
                street.drainsTold = street.drains;
            }
        }

        private void readWork(int kind) {
            int x;
            int y = 0;
            int by = 0;
            if (kind == Street.CLEAR) {
                x = tape.number(0, street.drains - 1);
            } else {
                x = tape.number(0, street.wide - 1);
                y = tape.number(0, street.rows - 1);
                by = tape.number(1, kind == Street.BORE ? 99 : 50);
            }
            int coin = tape.number(1, 99);
            if (tape.good()) {
                street.addWork(kind, coin, x, y, by);
            }
        }
    }

    /** A rain: how much falls in each of its minutes. */
    private static final class Rain {
        private static final int MOST_PIECES = 8;
        private static final int MOST_TIME = 30;
        private static final int MOST_FALL = 20;

        private final int[] falls = new int[MOST_PIECES * MOST_TIME];
        private int minutes;

        private void read(Tape tape) {
            minutes = 0;
            if (!tape.hasMore()) {
                tape.refuse(Tape.CANT_STAND);
            }
            for (int pieces = 0; pieces <= MOST_PIECES && tape.hasMore(); pieces++) {
                readPiece(tape, pieces);
            }
        }

        private void readPiece(Tape tape, int pieces) {
            if (tape.word() == Word.RAIN && pieces == MOST_PIECES) {
                tape.refuse(Tape.TOO_MANY);
            }
            tape.wantWord(Word.RAIN);
            int fall = tape.number(0, MOST_FALL);
            int time = tape.number(1, MOST_TIME);
            tape.want(';');
            if (tape.good()) {
                add(fall, time);
            }
        }

        private void add(int fall, int time) {
            for (int i = 0; i < time && minutes < falls.length; i++) {
                falls[minutes] = fall;
                minutes++;
            }
        }
    }

    /** A law, as steps that work on a row of values; a step is its kind and a number. */
    private static final class Law {
        private static final int THROW = 0;
        private static final int REACH = 1;
        private static final int WET = 2;
        private static final int SLOW = 3;
        private static final int OUT = 4;

        private static final int DEPTH = 0;
        private static final int PACE = 1;
        private static final int TYRE = 2;
        private static final int ROW = 3;
        private static final int FAR = 4;
        private static final int PEOPLE = 5;
        private static final int SHELTER = 6;
        private static final int NAMES = 7;

        private static final int NUMBER = 0;
        private static final int NAME = 1;
        private static final int PLUS = 2;
        private static final int LESS = 3;
        private static final int TIMES = 4;
        private static final int BY = 5;
        private static final int BELOW = 6;
        private static final int ABOVE = 7;
        private static final int SAME = 8;
        private static final int BOTH = 9;
        private static final int EITHER = 10;
        private static final int SKIP = 11;
        private static final int SKIP_IF_NOT = 12;
        private static final int END = 13;
        private static final int KIND_BITS = 4;
        private static final int KIND_MASK = 15;

        // Each step comes of a byte of the text or more, so the text's bytes are enough.
        private final int[] steps = new int[Tape.MOST];
        private int size;
        private final int[] starts = new int[5];
        // Six open at one time, each with five values that wait at most, and two outside.
        private final int[] values = new int[40];

        private void reset() {
            size = 0;
            Arrays.fill(starts, NONE);
        }

        private int add(int kind, int number) {
            if (size < steps.length) {
                steps[size] = (number << KIND_BITS) | kind;
                size++;
            }
            return size - 1;
        }

        /** Lets an earlier skip end where the next step will stand. */
        private void aim(int step) {
            if (step >= 0 && step < size) {
                steps[step] = (size << KIND_BITS) | (steps[step] & KIND_MASK);
            }
        }

        private int value(int what, int[] names) {
            int at = starts[what];
            int top = 0;
            values[0] = 0;
            for (int i = 0; i < size && at >= 0 && at < size; i++) {
                int kind = steps[at] & KIND_MASK;
                int number = steps[at] >> KIND_BITS;
                at++;
                if (kind == END) {
                    return values[0];
                }
                if (kind == SKIP) {
                    at = number;
                } else if (kind == SKIP_IF_NOT) {
                    top = top > 0 ? top - 1 : 0;
                    at = values[top] == 0 ? number : at;
                } else if (kind == NUMBER || kind == NAME) {
                    if (top < values.length) {
                        values[top] = kind == NUMBER || number >= NAMES ? number : names[number];
                        top++;
                    }
                } else if (top >= 2) {
                    top--;
                    values[top - 1] = joined(kind, values[top - 1], values[top]);
                }
            }
            return values[0];
        }

        private static int joined(int kind, int left, int right) {
            switch (kind) {
                case PLUS: return left + right;
                case LESS: return left - right;
                case TIMES: return left * right;
                case BY: return right == 0 ? 0 : left / right;
                case BELOW: return left < right ? 1 : 0;
                case ABOVE: return left > right ? 1 : 0;
                case SAME: return left == right ? 1 : 0;
                case BOTH: return left & right;
                default: return left | right;
            }
        }
    }

    /** Reads a law from the tape; what is open at one time keeps its calls few. */
    private static final class LawReader {
        private static final int MOST_OPEN = 6;

        private final Tape tape;
        private final Law law;
        private int opened;

        private LawReader(Tape tape, Law law) {
            this.tape = tape;
            this.law = law;
        }

        private void read() {
            law.reset();
            for (int i = 0; i < Tape.MOST && tape.hasMore(); i++) {
                readSaying();
            }
        }

        private void readSaying() {
            Word word = tape.word();
            if (word.saying == NONE) {
                tape.refuse(Tape.CANT_STAND);
                return;
            }
            if (law.starts[word.saying] != NONE) {
                tape.refuse(Tape.TOO_LATE);
                return;
            }
            law.starts[word.saying] = law.size;
            tape.takeWord(word);
            tape.want('=');
            readValue();
            tape.want(';');
            law.add(Law.END, 0);
        }

        private void readValue() {
            if (tape.word() == Word.IF) {
                readChoice();
                return;
            }
            readProduct();
            for (int i = 0; i < Tape.MOST && tape.good(); i++) {
                if (tape.take('+')) {
                    readProduct();
                    law.add(Law.PLUS, 0);
                } else if (tape.take('-')) {
                    readProduct();
                    law.add(Law.LESS, 0);
                } else {
                    return;
                }
            }
        }

        private void readChoice() {
            if (!open()) {
                return;
            }
            tape.wantWord(Word.IF);
            readCondition();
            tape.wantWord(Word.THEN);
            int toElse = law.add(Law.SKIP_IF_NOT, 0);
            readValue();
            tape.wantWord(Word.ELSE);
            int toEnd = law.add(Law.SKIP, 0);
            law.aim(toElse);
            readValue();
            law.aim(toEnd);
            opened--;
        }

        private void readProduct() {
            readUnit();
            for (int i = 0; i < Tape.MOST && tape.good(); i++) {
                if (tape.take('*')) {
                    readUnit();
                    law.add(Law.TIMES, 0);
                } else if (tape.take('/')) {
                    readUnit();
                    law.add(Law.BY, 0);
                } else {
                    return;
                }
            }
        }

        private void readUnit() {
            Word word = tape.word();
            if (word.name != NONE) {
                tape.takeWord(word);
                law.add(Law.NAME, word.name);
            } else if (tape.sign() == '(') {
                if (open()) {
                    tape.want('(');
                    readValue();
                    tape.want(')');
                    opened--;
                }
            } else {
                law.add(Law.NUMBER, tape.number(0, 9999));
            }
        }

        private void readCondition() {
            readAlternative();
            for (int i = 0; i < Tape.MOST && tape.takeWord(Word.OR); i++) {
                readAlternative();
                law.add(Law.EITHER, 0);
            }
        }

        private void readAlternative() {
            readTest();
            for (int i = 0; i < Tape.MOST && tape.takeWord(Word.AND); i++) {
                readTest();
                law.add(Law.BOTH, 0);
            }
        }

        private void readTest() {
            if (tape.word() == Word.NOT) {
                if (open()) {
                    tape.wantWord(Word.NOT);
                    readTest();
                    law.add(Law.NUMBER, 0);
                    law.add(Law.SAME, 0);
                    opened--;
                }
            } else if (tape.sign() == '[') {
                if (open()) {
                    tape.want('[');
                    readCondition();
                    tape.want(']');
                    opened--;
                }
            } else {
                readComparison();
            }
        }

        private void readComparison() {
            readValue();
            int kind = Law.SAME;
            if (tape.take('<')) {
                kind = Law.BELOW;
            } else if (tape.take('>')) {
                kind = Law.ABOVE;
            } else {
                tape.want('=');
            }
            readValue();
            law.add(kind, 0);
        }

        private boolean open() {
            if (opened >= MOST_OPEN) {
                tape.refuse(Tape.TOO_MANY);
                return false;
            }
            opened++;
            return true;
        }
    }

    /** A street with all that stands on it, its water and what became of it. */
    private static final class Street {
        private static final int MOST_WIDE = 16;
        private static final int MOST_ROWS = 6;
        private static final int MOST_HEIGHT = 99;
        private static final int MOST_DRAINS = 6;
        private static final int MOST_PERSONS = 8;
        private static final int MOST_SHELTERS = 2;
        private static final int MOST_WORKS = 8;
        private static final int MOST_FEET = 19;
        private static final int MOST_MINUTES = 600;
        private static final int ROUNDS = 8;
        private static final int ALL_LEAVES = 16;

        private static final int CLEAR = 0;
        private static final int RAISE = 1;
        private static final int LOWER = 2;
        private static final int BORE = 3;

        // Rows of numbers: of a drain x, y, rate, leaves; of a person x, feet, wet, hits;
        // of a work kind, coin, x (or the drain), y, by how much.
        private static final int STRIDE = 4;
        private static final int WORK_STRIDE = 5;
        private static final int RATE = 2;
        private static final int LEAVES = 3;
        private static final int FEET = 1;
        private static final int WETNESS = 2;
        private static final int HITS = 3;

        private int wide;
        private int rows;
        private final int[] height = new int[MOST_WIDE * MOST_ROWS];
        private final int[] water = new int[MOST_WIDE * MOST_ROWS];
        private int drains;
        private int drainsTold;
        private final int[] drain = new int[STRIDE * (MOST_DRAINS + MOST_WORKS)];
        private int persons;
        private final int[] person = new int[STRIDE * (MOST_PERSONS + MOST_FEET + 1)];
        // Rows behind the persons' for one person more, at one x, one for each told number of feet.
        private int guesses;
        private int shelters;
        private final int[] shelter = new int[2 * MOST_SHELTERS];
        private int works;
        private final int[] work = new int[WORK_STRIDE * MOST_WORKS];
        private int done;
        private int minutes;
        private int fallen;
        private int taken;
        private int gone;

        private void reset() {
            wide = 8;
            rows = 3;
            Arrays.fill(height, 50);
            Arrays.fill(water, 0);
            drains = 0;
            drainsTold = 0;
            persons = 0;
            guesses = 0;
            shelters = 0;
            works = 0;
            done = 0;
            minutes = 0;
            fallen = 0;
            taken = 0;
            gone = 0;
        }

        private void become(Street other) {
            wide = other.wide;
            rows = other.rows;
            System.arraycopy(other.height, 0, height, 0, height.length);
            System.arraycopy(other.water, 0, water, 0, water.length);
            drains = other.drains;
            drainsTold = other.drainsTold;
            System.arraycopy(other.drain, 0, drain, 0, drain.length);
            persons = other.persons;
            System.arraycopy(other.person, 0, person, 0, person.length);
            guesses = other.guesses;
            shelters = other.shelters;
            System.arraycopy(other.shelter, 0, shelter, 0, shelter.length);
            works = other.works;
            System.arraycopy(other.work, 0, work, 0, work.length);
            done = other.done;
            minutes = other.minutes;
            fallen = other.fallen;
            taken = other.taken;
            gone = other.gone;
        }

        private boolean isTold() {
            return wide > 0;
        }

        private boolean hasTime() {
            return minutes < MOST_MINUTES;
        }

        private int cells() {
            return wide * rows;
        }

        private boolean has(int x, int y) {
            return x >= 0 && x < wide && y >= 0 && y < rows;
        }

        private int index(int x, int y) {
            return y * wide + x;
        }

        private int surface(int at) {
            return height[at] + water[at];
        }

        private int standing() {
            int all = 0;
            for (int at = 0; at < cells(); at++) {
                all += water[at];
            }
            return all;
        }

        private void addDrain(int x, int y, int rate, int leaves) {
            int at = STRIDE * drains;
            if (at + STRIDE > drain.length) {
                return;
            }
            drain[at] = x;
            drain[at + 1] = y;
            drain[at + RATE] = rate;
            drain[at + LEAVES] = leaves;
            drains++;
        }

        private void addPerson(int x, int feet) {
            putPerson(persons, x, feet);
            persons++;
        }

        private void putPerson(int k, int x, int feet) {
            int at = STRIDE * k;
            if (at + STRIDE > person.length) {
                return;
            }
            person[at] = x;
            person[at + FEET] = feet;
            person[at + WETNESS] = 0;
            person[at + HITS] = 0;
        }

        private void guessPerson(int x, int most) {
            for (int feet = 0; feet <= most; feet++) {
                putPerson(persons + feet, x, feet);
            }
            guesses = most + 1;
        }

        private void addShelter(int from, int to) {
            int at = 2 * shelters;
            if (at + 2 > shelter.length) {
                return;
            }
            shelter[at] = from;
            shelter[at + 1] = to;
            shelters++;
        }

        private void addWork(int kind, int coin, int x, int y, int by) {
            int at = WORK_STRIDE * works;
            if (at + WORK_STRIDE > work.length) {
                return;
            }
            work[at] = kind;
            work[at + 1] = coin;
            work[at + 2] = x;
            work[at + 3] = y;
            work[at + 4] = by;
            works++;
        }

        private int coinOf(int set) {
            int coin = 0;
            for (int k = 0; k < works; k++) {
                if ((set >> k & 1) != 0) {
                    coin += work[WORK_STRIDE * k + 1];
                }
            }
            return coin;
        }

        private boolean doWork(int k) {
            if ((done >> k & 1) != 0) {
                return false;
            }
            done |= 1 << k;
            int at = WORK_STRIDE * k;
            int x = work[at + 2];
            int y = work[at + 3];
            int by = work[at + 4];
            switch (work[at]) {
                case CLEAR:
                    drain[STRIDE * x + LEAVES] = 0;
                    break;
                case RAISE:
                    changeHeight(index(x, y), by);
                    break;
                case LOWER:
                    changeHeight(index(x, y), -by);
                    break;
                default:
                    addDrain(x, y, by, 0);
                    break;
            }
            return true;
        }

        private void changeHeight(int at, int by) {
            height[at] = held(height[at] + by, 0, MOST_HEIGHT);
        }

        private void doWorks(int set) {
            for (int k = 0; k < works; k++) {
                if ((set >> k & 1) != 0) {
                    doWork(k);
                }
            }
        }

        private int passMinutes(int n, int rain) {
            int went = Math.min(n, MOST_MINUTES - minutes);
            for (int i = 0; i < went; i++) {
                passMinute(rain);
            }
            return went;
        }

        private int passRain(Rain rain) {
            int went = Math.min(rain.minutes, MOST_MINUTES - minutes);
            for (int i = 0; i < went; i++) {
                passMinute(rain.falls[i]);
            }
            return went;
        }

        private void passMinute(int rain) {
            int cells = cells();
            for (int at = 0; at < cells; at++) {
                water[at] += rain;
            }
            fallen += rain * cells;
            runRounds(ROUNDS);
            for (int k = 0; k < drains; k++) {
                takeByDrain(STRIDE * k);
            }
            minutes++;
        }

        private void takeByDrain(int of) {
            int at = index(drain[of], drain[of + 1]);
            int most = drain[of + RATE] * (ALL_LEAVES - drain[of + LEAVES]) / ALL_LEAVES;
            int takes = Math.min(most, water[at]);
            water[at] -= takes;
            taken += takes;
        }

        // Behind a round in which nothing ran nothing runs in the next ones either.
        private void runRounds(int rounds) {
            boolean runs = true;
            for (int i = 0; i < rounds && runs; i++) {
                runs = runRound();
            }
        }

        private boolean runRound() {
            boolean ran = false;
            int at = 0;
            for (int y = 0; y < rows; y++) {
                for (int x = 0; x < wide; x++) {
                    if (water[at] > 0 && runFrom(x, y, at)) {
                        ran = true;
                    }
                    at++;
                }
            }
            return ran;
        }

        private boolean runFrom(int x, int y, int at) {
            int own = height[at] + water[at];
            int least = own;
            int to = at;
            if (x > 0 && height[at - 1] + water[at - 1] < least) {
                to = at - 1;
                least = height[to] + water[to];
            }
            if (x + 1 < wide && height[at + 1] + water[at + 1] < least) {
                to = at + 1;
                least = height[to] + water[to];
            }
            if (y > 0 && height[at - wide] + water[at - wide] < least) {
                to = at - wide;
                least = height[to] + water[to];
            }
            if (y + 1 < rows && height[at + wide] + water[at + wide] < least) {
                to = at + wide;
                least = height[to] + water[to];
            }
            int half = (own - least) / 2;
            int runs = half < water[at] ? half : water[at];
            water[at] -= runs;
            water[to] += runs;
            return runs > 0;
        }

        /** Takes what is thrown from a cell: half of it falls into the next row, the rest is gone. */
        private void throwFrom(int x, int y, int thrown) {
            water[index(x, y)] -= thrown;
            int falls = 0;
            if (y + 1 < rows) {
                falls = thrown / 2;
                water[index(x, y + 1)] += falls;
            }
            gone += thrown - falls;
        }

        private int peopleAt(int x) {
            int people = 0;
            for (int k = 0; k < persons; k++) {
                if (person[STRIDE * k] == x) {
                    people++;
                }
            }
            boolean guessed = guesses > 0 && person[STRIDE * persons] == x;
            return guessed ? people + 1 : people;
        }

        private boolean isSheltered(int x) {
            for (int k = 0; k < shelters; k++) {
                if (isWithin(x, shelter[2 * k], shelter[2 * k + 1])) {
                    return true;
                }
            }
            return false;
        }

        private boolean canStep(int step) {
            for (int k = 0; k < persons; k++) {
                if (!isWithin(person[STRIDE * k] + step, 0, wide - 1)) {
                    return false;
                }
            }
            return true;
        }

        private void stepAll(int step) {
            for (int k = 0; k < persons; k++) {
                person[STRIDE * k] += step;
            }
        }

        private int iceCells(int n) {
            int ice = 0;
            for (int at = 0; at < cells(); at++) {
                if (water[at] >= n) {
                    ice++;
                }
            }
            return ice;
        }

        private int longestIce(int n) {
            int longest = 0;
            for (int y = 0; y < rows; y++) {
                int row = 0;
                for (int x = 0; x < wide; x++) {
                    row = water[index(x, y)] >= n ? row + 1 : 0;
                    longest = Math.max(longest, row);
                }
            }
            return longest;
        }

        private int personsOnIce(int n) {
            int on = 0;
            for (int k = 0; k < persons; k++) {
                if (water[index(person[STRIDE * k], 0)] >= n) {
                    on++;
                }
            }
            return on;
        }
    }

    /** What is told beside the street: traffic, the dips of the town, the shares of the kinds. */
    private static final class Plan {
        private static final int MOST_CARS = 20;
        private static final int MOST_DIPS = 9;
        private static final int CAR_STRIDE = 5;
        private static final int DIP_STRIDE = 3;

        private int cars;
        private final int[] traffic = new int[CAR_STRIDE * MOST_CARS];
        private int dips;
        private final int[] dip = new int[DIP_STRIDE * MOST_DIPS];
        private final int[] shares = {1, 1, 1, 1};

        private void reset() {
            cars = 0;
            dips = 0;
            Arrays.fill(shares, 1);
        }

        private void become(Plan other) {
            cars = other.cars;
            System.arraycopy(other.traffic, 0, traffic, 0, traffic.length);
            dips = other.dips;
            System.arraycopy(other.dip, 0, dip, 0, dip.length);
            System.arraycopy(other.shares, 0, shares, 0, shares.length);
        }

        private int addCar(int rounds, int row, int pace, int tyre, int kind) {
            if (cars == MOST_CARS) {
                return NONE;
            }
            int at = CAR_STRIDE * cars;
            traffic[at] = rounds;
            traffic[at + 1] = row;
            traffic[at + 2] = pace;
            traffic[at + 3] = tyre;
            traffic[at + 4] = kind;
            cars++;
            return cars;
        }

        private int addDip(int persons, int days, int by) {
            if (dips == MOST_DIPS) {
                return NONE;
            }
            int at = DIP_STRIDE * dips;
            dip[at] = persons;
            dip[at + 1] = days;
            dip[at + 2] = by;
            dips++;
            return dips;
        }
    }

    /** A car on its way along a street, by a law. */
    private static final class Car {
        private static final int MOST_PACE = 60;
        private static final int PLAIN = 0;
        private static final int SLOWS = 1;
        private static final int STEERS = 2;
        private static final int MEANS = 3;
        private static final int MOST_WET = 99;

        private final int[] names = new int[Law.NAMES];
        private int row;
        private int pace;
        private int tyre;
        private int kind;
        private int rowThere;
        private int paceThere;

        private void become(int row, int pace, int tyre, int kind) {
            this.row = row;
            this.pace = pace;
            this.tyre = tyre;
            this.kind = kind;
        }

        /** How much more wet all are behind it. */
        private int drive(Street street, Law law) {
            int wetter = 0;
            for (int x = 0; x < street.wide; x++) {
                come(street, law, x);
                int share = held(law.value(Law.THROW, names), 0, 16);
                int thrown = names[Law.DEPTH] * share / 16;
                if (thrown > 0) {
                    street.throwFrom(x, rowThere, thrown);
                    wetter += hit(street, law, x);
                }
            }
            return wetter;
        }

        /** Finds in which row and how fast it is at x. */
        private void come(Street street, Law law, int x) {
            names[Law.TYRE] = tyre;
            names[Law.PEOPLE] = street.peopleAt(x);
            names[Law.FAR] = 0;
            names[Law.SHELTER] = 0;
            names[Law.PACE] = pace;
            see(street, x, kind == MEANS ? 0 : row);
            if (kind == STEERS) {
                long steered = (long) row + law.value(Law.OUT, names);
                see(street, x, held(steered, 0, street.rows - 1));
            }
            paceThere = kind == SLOWS ? held(law.value(Law.SLOW, names), 1, pace) : pace;
            names[Law.PACE] = paceThere;
        }

        private void see(Street street, int x, int row) {
            rowThere = row;
            names[Law.ROW] = row;
            names[Law.DEPTH] = street.water[street.index(x, row)];
        }

        private int hit(Street street, Law law, int x) {
            int reach = law.value(Law.REACH, names);
            names[Law.SHELTER] = street.isSheltered(x) ? 1 : 0;
            int wetter = 0;
            for (int k = 0; k < street.persons + street.guesses; k++) {
                int at = Street.STRIDE * k;
                int far = street.person[at + Street.FEET] + rowThere;
                if (street.person[at] == x && far < reach) {
                    names[Law.FAR] = far;
                    int wet = held(law.value(Law.WET, names), 0, MOST_WET);
                    street.person[at + Street.WETNESS] += wet;
                    street.person[at + Street.HITS]++;
                    wetter += wet;
                }
            }
            return wetter;
        }
    }

    /** What would come of it, tried on a street of its own, so that nothing stays changed. */
    private static final class WhatIf {
        private static final int MOST_STEP = 15;
        private static final int ALL_SETS = 1 << Street.MOST_WORKS;

        private final Street trial = new Street();
        private final Car car = new Car();
        // Of each drain that it may be, the water of all cells.
        private final int[] seen = new int[(Street.MOST_DRAINS + Street.MOST_WORKS)
                * Street.MOST_WIDE * Street.MOST_ROWS];
        private int found;
        private int worth;

        private int answer(int what) {
            return what == 0 ? found : worth;
        }

        private int depthBehind(Street street, Rain rain, int cell) {
            trial.become(street);
            trial.passRain(rain);
            return trial.water[cell];
        }

        private int minuteOf(Street street, Rain rain, int cell, int n) {
            if (street.water[cell] >= n) {
                return 0;
            }
            trial.become(street);
            for (int i = 0; i < rain.minutes && trial.hasTime(); i++) {
                trial.passMinute(rain.falls[i]);
                if (trial.water[cell] >= n) {
                    return i + 1;
                }
            }
            return NONE;
        }

        private void findBlame(Street street, Rain rain, int cell) {
            trial.become(street);
            trial.passRain(rain);
            int asItIs = trial.water[cell];
            int least = asItIs;
            found = NONE;
            for (int k = 0; k < street.drainsTold; k++) {
                trial.become(street);
                trial.drain[Street.STRIDE * k + Street.LEAVES] = 0;
                trial.passRain(rain);
                if (trial.water[cell] < least) {
                    least = trial.water[cell];
                    found = k;
                }
            }
            worth = asItIs - least;
        }

        private void findLook(Street street, Rain rain) {
            found = NONE;
            worth = NONE;
            int cells = street.cells();
            for (int k = 0; k < street.drains; k++) {
                trial.become(street);
                for (int other = 0; other < street.drains; other++) {
                    trial.drain[Street.STRIDE * other + Street.LEAVES] = other == k ? Street.ALL_LEAVES : 0;
                }
                trial.passRain(rain);
                System.arraycopy(trial.water, 0, seen, cells * k, cells);
            }
            if (street.drains == 0) {
                return;
            }
            for (int x = 0; x < street.wide; x++) {
                for (int y = 0; y < street.rows; y++) {
                    int kinds = kindsAt(street.index(x, y), street.drains, cells);
                    if (kinds > worth) {
                        worth = kinds;
                        found = 100 * x + y;
                    }
                }
            }
        }

        private int kindsAt(int cell, int drains, int cells) {
            int kinds = 0;
            for (int k = 0; k < drains; k++) {
                boolean isNew = true;
                for (int before = 0; before < k && isNew; before++) {
                    isNew = seen[cells * before + cell] != seen[cells * k + cell];
                }
                if (isNew) {
                    kinds++;
                }
            }
            return kinds;
        }

        private int passTraffic(Street street, Plan plan, Law law) {
            int wetter = 0;
            for (int k = 0; k < plan.cars; k++) {
                int at = Plan.CAR_STRIDE * k;
                street.runRounds(plan.traffic[at]);
                car.become(plan.traffic[at + 1], plan.traffic[at + 2], plan.traffic[at + 3], plan.traffic[at + 4]);
                wetter += car.drive(street, law);
            }
            return wetter;
        }

        // Water depends on where one more stands, not on how many feet away: one trial for all of these.
        private void findStand(Street street, Plan plan, Law law, int most) {
            found = NONE;
            worth = Integer.MAX_VALUE;
            for (int x = 0; x < street.wide && worth > 0; x++) {
                trial.become(street);
                trial.guessPerson(x, most);
                passTraffic(trial, plan, law);
                for (int feet = 0; feet <= most; feet++) {
                    int wet = trial.person[Street.STRIDE * (street.persons + feet) + Street.WETNESS];
                    if (wet < worth) {
                        worth = wet;
                        found = 100 * x + feet;
                    }
                }
            }
        }

        private int greatestPace(Street street, Law law, int row, int tyre, int n) {
            for (int pace = Car.MOST_PACE; pace >= 1; pace--) {
                trial.become(street);
                car.become(row, pace, tyre, Car.PLAIN);
                if (car.drive(trial, law) <= n) {
                    return pace;
                }
            }
            return NONE;
        }

        private void findStep(Street street, Plan plan, Law law) {
            found = NONE;
            worth = Integer.MAX_VALUE;
            for (int step = -MOST_STEP; step <= MOST_STEP && worth > 0; step++) {
                if (street.canStep(step)) {
                    trial.become(street);
                    trial.stepAll(step);
                    int wetter = passTraffic(trial, plan, law);
                    if (wetter < worth) {
                        worth = wetter;
                        found = step;
                    }
                }
            }
        }

        // Sets are tried from the cheapest on, so the first that does is the one.
        private void findMend(Street street, Rain rain, int cell, int n) {
            found = NONE;
            worth = NONE;
            int rank = nextRank(street, NONE);
            for (int i = 0; i < ALL_SETS && rank != NONE; i++) {
                int set = rank & (ALL_SETS - 1);
                trial.become(street);
                trial.doWorks(set);
                trial.passRain(rain);
                if (trial.water[cell] <= n) {
                    found = set;
                    worth = rank >> Street.MOST_WORKS;
                    return;
                }
                rank = nextRank(street, rank);
            }
        }

        /** The least rank above the last one, of sets of works not done; a rank is by coin, then by bits. */
        private int nextRank(Street street, int last) {
            int least = NONE;
            for (int set = 0; set < 1 << street.works; set++) {
                if ((set & street.done) == 0) {
                    int rank = (street.coinOf(set) << Street.MOST_WORKS) | set;
                    if (rank > last && (least == NONE || rank < least)) {
                        least = rank;
                    }
                }
            }
            return least;
        }

        private int shareMeant(Street street, Plan plan, Law law, int x, int seenRow, int seenPace) {
            int all = 0;
            int mean = 0;
            for (int kind = Car.PLAIN; kind <= Car.MEANS; kind++) {
                car.kind = kind;
                car.come(street, law, x);
                if (car.rowThere == seenRow && car.paceThere == seenPace) {
                    all += plan.shares[kind];
                    mean += kind == Car.MEANS ? plan.shares[kind] : 0;
                }
            }
            return all == 0 ? 0 : 1000 * mean / all;
        }
    }

    /** Finds orders: of the dips of a town, and of the drains that are swept. */
    private static final class Orders {
        // More than all persons by all days, so that a late dip outweighs them.
        private static final int LATE = 1000000;

        private int late;
        private int least;
        private int order;
        // Of each set of dips that are done already, what the others weigh at best.
        private final int[] best = new int[1 << Plan.MOST_DIPS];

        private void findFirst(Plan plan) {
            int all = (1 << plan.dips) - 1;
            best[all] = 0;
            for (int done = all - 1; done >= 0; done--) {
                int next = bestNext(plan, done);
                best[done] = next == NONE ? 0 : weigh(plan, done, next);
            }
            late = best[0] / LATE;
            least = best[0] % LATE;
            order = 0;
            int done = 0;
            for (int i = 0; i < plan.dips; i++) {
                int next = Math.max(bestNext(plan, done), 0);
                order = order * 10 + next;
                done |= 1 << next;
            }
        }

        private int bestNext(Plan plan, int done) {
            int next = NONE;
            int lightest = Integer.MAX_VALUE;
            for (int k = 0; k < plan.dips; k++) {
                if ((done >> k & 1) == 0) {
                    int weight = weigh(plan, done, k);
                    if (weight < lightest) {
                        lightest = weight;
                        next = k;
                    }
                }
            }
            return next;
        }

        private int weigh(Plan plan, int done, int next) {
            int after = done | 1 << next;
            int day = 0;
            for (int k = 0; k < plan.dips; k++) {
                if ((after >> k & 1) != 0) {
                    day += plan.dip[Plan.DIP_STRIDE * k + 1];
                }
            }
            int at = Plan.DIP_STRIDE * next;
            int weight = plan.dip[at] * day + best[after];
            return day > plan.dip[at + 2] ? weight + LATE : weight;
        }

        private void findSweeping(Street street) {
            int leafy = 0;
            for (int k = 0; k < street.drainsTold; k++) {
                if (street.drain[Street.STRIDE * k + Street.LEAVES] > 0) {
                    leafy |= 1 << k;
                }
            }
            least = leafy == 0 ? 0 : Integer.MAX_VALUE;
            order = 0;
            if (leafy != 0) {
                goOn(street, leafy, NONE, 0, 0);
            }
        }

        // Goes no deeper than there are drains: each call leaves one less to go to.
        private void goOn(Street street, int leafy, int last, int far, int gone) {
            if (leafy == 0) {
                int all = far + steps(street, last, NONE);
                if (all < least) {
                    least = all;
                    order = gone;
                }
                return;
            }
            for (int k = 0; k < street.drainsTold; k++) {
                if ((leafy >> k & 1) != 0) {
                    goOn(street, leafy & ~(1 << k), k, far + steps(street, last, k), gone * 10 + k);
                }
            }
        }

        private static int steps(Street street, int from, int to) {
            int along = of(street, from, 0) - of(street, to, 0);
            int across = of(street, from, 1) - of(street, to, 1);
            return Math.abs(along) + Math.abs(across);
        }

        private static int of(Street street, int drain, int what) {
            return drain == NONE ? 0 : street.drain[Street.STRIDE * drain + what];
        }
    }
}
