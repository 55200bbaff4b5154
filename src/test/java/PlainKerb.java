import java.util.ArrayList;
import java.util.Arrays;
import java.util.HashMap;
import java.util.HashSet;
import java.util.List;
import java.util.Map;
import java.util.NoSuchElementException;
import java.util.Set;

/**
 * The document once more, as slow and as plain as can be, to hold KerbSplash against: states are copied whole,
 * sets and orders are all tried, laws are trees. It shares no code with the class.
 */
public final class PlainKerb {
    static final class Fault extends RuntimeException {
        private static final long serialVersionUID = 1;
        final int why;
        final int place;

        Fault(int why, int place) {
            this.why = why;
            this.place = place;
        }
    }

    interface Formula {
        int of(Map<String, Integer> names);
    }

    static final class State {
        int w;
        int d;
        int[][] high = new int[0][0];
        int[][] water = new int[0][0];
        List<int[]> drains = new ArrayList<>();
        int toldDrains;
        List<int[]> persons = new ArrayList<>();
        List<int[]> shelters = new ArrayList<>();
        List<int[]> works = new ArrayList<>();
        Set<Integer> done = new HashSet<>();
        int minutes;
        int fallen;
        int taken;
        int gone;
        List<int[]> cars = new ArrayList<>();
        List<int[]> dips = new ArrayList<>();
        int[] shares = {1, 1, 1, 1};

        State copy() {
            State c = new State();
            c.w = w;
            c.d = d;
            c.high = copyRows(high);
            c.water = copyRows(water);
            c.drains = copyList(drains);
            c.toldDrains = toldDrains;
            c.persons = copyList(persons);
            c.shelters = copyList(shelters);
            c.works = copyList(works);
            c.done = new HashSet<>(done);
            c.minutes = minutes;
            c.fallen = fallen;
            c.taken = taken;
            c.gone = gone;
            c.cars = copyList(cars);
            c.dips = copyList(dips);
            c.shares = shares.clone();
            return c;
        }

        static int[][] copyRows(int[][] rows) {
            int[][] c = new int[rows.length][];
            for (int i = 0; i < rows.length; i++) {
                c[i] = rows[i].clone();
            }
            return c;
        }

        static List<int[]> copyList(List<int[]> list) {
            List<int[]> c = new ArrayList<>();
            for (int[] one : list) {
                c.add(one.clone());
            }
            return c;
        }

        void size(int wide, int rows) {
            w = wide;
            d = rows;
            high = new int[wide][rows];
            water = new int[wide][rows];
            for (int[] column : high) {
                Arrays.fill(column, 50);
            }
        }

        void round() {
            int[][] beside = {{-1, 0}, {1, 0}, {0, -1}, {0, 1}};
            for (int y = 0; y < d; y++) {
                for (int x = 0; x < w; x++) {
                    int bx = -1;
                    int by = -1;
                    for (int[] step : beside) {
                        int nx = x + step[0];
                        int ny = y + step[1];
                        if (nx < 0 || nx >= w || ny < 0 || ny >= d) {
                            continue;
                        }
                        if (bx < 0 || high[nx][ny] + water[nx][ny] < high[bx][by] + water[bx][by]) {
                            bx = nx;
                            by = ny;
                        }
                    }
                    int more = high[x][y] + water[x][y] - high[bx][by] - water[bx][by];
                    if (more >= 2) {
                        int goes = Math.min(more / 2, water[x][y]);
                        water[x][y] -= goes;
                        water[bx][by] += goes;
                    }
                }
            }
        }

        void minute(int rain) {
            for (int x = 0; x < w; x++) {
                for (int y = 0; y < d; y++) {
                    water[x][y] += rain;
                    fallen += rain;
                }
            }
            for (int i = 0; i < 8; i++) {
                round();
            }
            for (int[] drain : drains) {
                int takes = Math.min(drain[2] * (16 - drain[3]) / 16, water[drain[0]][drain[1]]);
                water[drain[0]][drain[1]] -= takes;
                taken += takes;
            }
            minutes++;
        }

        int rain(List<Integer> falls) {
            int went = 0;
            for (int fall : falls) {
                if (minutes < 600) {
                    minute(fall);
                    went++;
                }
            }
            return went;
        }

        int doWork(int k) {
            if (!done.add(k)) {
                return 0;
            }
            int[] work = works.get(k);
            if (work[0] == 0) {
                drains.get(work[2])[3] = 0;
            } else if (work[0] == 1) {
                high[work[2]][work[3]] = Math.min(99, high[work[2]][work[3]] + work[4]);
            } else if (work[0] == 2) {
                high[work[2]][work[3]] = Math.max(0, high[work[2]][work[3]] - work[4]);
            } else {
                drains.add(new int[] {work[2], work[3], work[4], 0});
            }
            return 1;
        }

        int[] where(Map<String, Formula> law, int x, int[] car) {
            int row = car[3] == 3 ? 0 : car[0];
            if (car[3] == 2) {
                long out = (long) car[0] + say(law, "out", names(x, car[0], car[1], car[2]));
                row = (int) Math.max(0, Math.min(d - 1, out));
            }
            int pace = car[1];
            if (car[3] == 1) {
                pace = Math.max(1, Math.min(car[1], say(law, "slow", names(x, row, car[1], car[2]))));
            }
            return new int[] {row, pace};
        }

        Map<String, Integer> names(int x, int row, int pace, int tyre) {
            Map<String, Integer> names = new HashMap<>();
            names.put("depth", water[x][row]);
            names.put("pace", pace);
            names.put("tyre", tyre);
            names.put("row", row);
            names.put("far", 0);
            names.put("people", (int) persons.stream().filter(p -> p[0] == x).count());
            names.put("shelter", 0);
            return names;
        }

        int drive(Map<String, Formula> law, int[] car) {
            int wetter = 0;
            for (int x = 0; x < w; x++) {
                int[] there = where(law, x, car);
                Map<String, Integer> names = names(x, there[0], there[1], car[2]);
                int share = Math.max(0, Math.min(16, say(law, "throw", names)));
                int thrown = water[x][there[0]] * share / 16;
                if (thrown == 0) {
                    continue;
                }
                int reach = say(law, "reach", names);
                water[x][there[0]] -= thrown;
                int half = there[0] + 1 < d ? thrown / 2 : 0;
                if (half > 0) {
                    water[x][there[0] + 1] += half;
                }
                gone += thrown - half;
                for (int[] person : persons) {
                    if (person[0] == x && person[1] + there[0] < reach) {
                        names.put("far", person[1] + there[0]);
                        int at = x;
                        names.put("shelter", shelters.stream().anyMatch(s -> s[0] <= at && at <= s[1]) ? 1 : 0);
                        int wet = Math.max(0, Math.min(99, say(law, "wet", names)));
                        person[2] += wet;
                        person[3]++;
                        wetter += wet;
                    }
                }
            }
            return wetter;
        }

        int pass(Map<String, Formula> law) {
            int wetter = 0;
            for (int[] car : cars) {
                for (int i = 0; i < car[0]; i++) {
                    round();
                }
                wetter += drive(law, new int[] {car[1], car[2], car[3], car[4]});
            }
            return wetter;
        }
    }

    static int say(Map<String, Formula> law, String word, Map<String, Integer> names) {
        Formula formula = law.get(word);
        return formula == null ? 0 : formula.of(names);
    }

    static final class Reader {
        final String text;
        int at;
        int open;

        Reader(String text) {
            this.text = text;
        }

        void blanks() {
            while (at < text.length() && text.charAt(at) == ' ') {
                at++;
            }
        }

        boolean ended() {
            blanks();
            return at == text.length();
        }

        String peek() {
            blanks();
            if (at == text.length()) {
                return "";
            }
            int end = at;
            while (end < text.length() && text.charAt(end) >= 'a' && text.charAt(end) <= 'z') {
                end++;
            }
            return text.substring(at, Math.max(end, at + 1));
        }

        boolean takes(String token) {
            if (!peek().equals(token)) {
                return false;
            }
            at += token.length();
            return true;
        }

        void must(String token) {
            if (!takes(token)) {
                throw new Fault(1, at);
            }
        }

        int number(int least, int most) {
            blanks();
            int end = at;
            while (end < text.length() && text.charAt(end) >= '0' && text.charAt(end) <= '9') {
                end++;
            }
            if (end == at) {
                throw new Fault(1, at);
            }
            java.math.BigInteger value = new java.math.BigInteger(text.substring(at, end));
            if (value.compareTo(java.math.BigInteger.valueOf(least)) < 0
                    || value.compareTo(java.math.BigInteger.valueOf(most)) > 0) {
                throw new Fault(2, at);
            }
            at = end;
            return value.intValue();
        }

        void opens() {
            if (open == 6) {
                throw new Fault(3, at);
            }
            open++;
        }

        Formula value() {
            if (peek().equals("if")) {
                opens();
                must("if");
                Formula condition = condition();
                must("then");
                Formula yes = value();
                must("else");
                Formula no = value();
                open--;
                return n -> condition.of(n) != 0 ? yes.of(n) : no.of(n);
            }
            Formula sum = product();
            while (true) {
                Formula left = sum;
                if (takes("+")) {
                    Formula right = product();
                    sum = n -> left.of(n) + right.of(n);
                } else if (takes("-")) {
                    Formula right = product();
                    sum = n -> left.of(n) - right.of(n);
                } else {
                    return sum;
                }
            }
        }

        Formula product() {
            Formula product = unit();
            while (true) {
                Formula left = product;
                if (takes("*")) {
                    Formula right = unit();
                    product = n -> left.of(n) * right.of(n);
                } else if (takes("/")) {
                    Formula right = unit();
                    product = n -> right.of(n) == 0 ? 0 : left.of(n) / right.of(n);
                } else {
                    return product;
                }
            }
        }

        Formula unit() {
            String token = peek();
            if (List.of("depth", "pace", "tyre", "row", "far", "people", "shelter").contains(token)) {
                must(token);
                return n -> n.get(token);
            }
            if (token.equals("(")) {
                opens();
                must("(");
                Formula inner = value();
                must(")");
                open--;
                return inner;
            }
            int number = number(0, 9999);
            return n -> number;
        }

        Formula condition() {
            Formula all = alternative();
            while (takes("or")) {
                Formula left = all;
                Formula right = alternative();
                all = n -> left.of(n) != 0 || right.of(n) != 0 ? 1 : 0;
            }
            return all;
        }

        Formula alternative() {
            Formula all = test();
            while (takes("and")) {
                Formula left = all;
                Formula right = test();
                all = n -> left.of(n) != 0 && right.of(n) != 0 ? 1 : 0;
            }
            return all;
        }

        Formula test() {
            if (peek().equals("not")) {
                opens();
                must("not");
                Formula inner = test();
                open--;
                return n -> inner.of(n) == 0 ? 1 : 0;
            }
            if (peek().equals("[")) {
                opens();
                must("[");
                Formula inner = condition();
                must("]");
                open--;
                return inner;
            }
            Formula left = value();
            String sign = peek();
            if (!List.of("<", ">", "=").contains(sign)) {
                throw new Fault(1, at);
            }
            must(sign);
            Formula right = value();
            if (sign.equals("<")) {
                return n -> left.of(n) < right.of(n) ? 1 : 0;
            }
            return sign.equals(">") ? n -> left.of(n) > right.of(n) ? 1 : 0 : n -> left.of(n) == right.of(n) ? 1 : 0;
        }
    }

    static State readStreet(String text) {
        Reader r = new Reader(text);
        State s = new State();
        s.size(8, 3);
        int clauses = 0;
        List<String> works = List.of("clear", "raise", "lower", "bore");
        while (!r.ended()) {
            String word = r.peek();
            if (!works.contains(word) && !List.of("size", "high", "drain", "person", "shelter").contains(word)) {
                throw new Fault(1, r.at);
            }
            if (clauses == 60 || word.equals("drain") && s.drains.size() == 6
                    || word.equals("person") && s.persons.size() == 8
                    || word.equals("shelter") && s.shelters.size() == 2
                    || works.contains(word) && s.works.size() == 8) {
                throw new Fault(3, r.at);
            }
            if (word.equals("size") && clauses > 0) {
                throw new Fault(4, r.at);
            }
            r.must(word);
            clauses++;
            readClause(r, s, word, works.indexOf(word));
            r.must(";");
        }
        return s;
    }

    static void readClause(Reader r, State s, String word, int work) {
        if (word.equals("size")) {
            int w = r.number(2, 16);
            s.size(w, r.number(1, 6));
        } else if (word.equals("person")) {
            int x = r.number(0, s.w - 1);
            s.persons.add(new int[] {x, r.number(0, 19), 0, 0});
        } else if (word.equals("shelter")) {
            int from = r.number(0, s.w - 1);
            s.shelters.add(new int[] {from, r.number(from, s.w - 1)});
        } else if (work == 0) {
            int k = r.number(0, s.drains.size() - 1);
            s.works.add(new int[] {0, r.number(1, 99), k});
        } else {
            int x = r.number(0, s.w - 1);
            int y = r.number(0, s.d - 1);
            if (word.equals("high")) {
                s.high[x][y] = r.number(0, 99);
            } else if (word.equals("drain")) {
                int rate = r.number(1, 99);
                s.drains.add(new int[] {x, y, rate, r.number(0, 16)});
                s.toldDrains++;
            } else {
                int by = r.number(1, work == 3 ? 99 : 50);
                s.works.add(new int[] {work, r.number(1, 99), x, y, by});
            }
        }
    }

    static List<Integer> readRain(String text) {
        Reader r = new Reader(text);
        List<Integer> falls = new ArrayList<>();
        int pieces = 0;
        do {
            String word = r.peek();
            if (!word.equals("rain")) {
                throw new Fault(1, r.at);
            }
            if (pieces == 8) {
                throw new Fault(3, r.at);
            }
            pieces++;
            r.must("rain");
            int fall = r.number(0, 20);
            int time = r.number(1, 30);
            r.must(";");
            for (int i = 0; i < time; i++) {
                falls.add(fall);
            }
        } while (!r.ended());
        return falls;
    }

    static final List<String> SAYINGS = List.of("throw", "reach", "wet", "slow", "out");

    static Map<String, Formula> readLaw(String text) {
        Reader r = new Reader(text);
        Map<String, Formula> law = new HashMap<>();
        while (!r.ended()) {
            String word = r.peek();
            if (!SAYINGS.contains(word)) {
                throw new Fault(1, r.at);
            }
            if (law.containsKey(word)) {
                throw new Fault(4, r.at);
            }
            r.must(word);
            r.must("=");
            law.put(word, r.value());
            r.must(";");
        }
        return law;
    }

    private StringBuilder tape = new StringBuilder();
    private State s = new State();
    private final List<List<Integer>> rains = new ArrayList<>();
    private final List<Map<String, Formula>> laws = new ArrayList<>();
    private final List<State> images = new ArrayList<>();
    private int faultAt = -1;
    private final int[] refused = new int[4];

    private void cellThere(int x, int y) {
        if (x < 0 || y < 0 || x >= s.w || y >= s.d) {
            refused[0]++;
            throw new IndexOutOfBoundsException();
        }
    }

    private void there(int k, int size) {
        if (k < 0 || k >= size) {
            refused[1]++;
            throw new NoSuchElementException();
        }
    }

    private void fits(int number, int least, int most) {
        if (number < least || number > most) {
            refused[2]++;
            throw new IllegalArgumentException();
        }
    }

    private void mustBe(boolean so) {
        if (!so) {
            refused[3]++;
            throw new IllegalStateException();
        }
    }

    private void carFits(int row, int pace, int tyre, int kind) {
        fits(row, 0, s.d - 1);
        fits(pace, 1, 60);
        fits(tyre, 1, 9);
        fits(kind, 0, 3);
    }

    public int feed(int a, int b, int c, int d, int e) {
        if (tape.length() > 580) {
            return -1;
        }
        for (int number : new int[] {a, b, c, d, e}) {
            for (int i = 3; i >= 0; i--) {
                tape.append((char) (number >>> 8 * i & 255));
            }
        }
        return tape.length();
    }

    private String text(int n) {
        fits(n, 0, tape.length());
        String text = tape.substring(0, n);
        tape = new StringBuilder();
        faultAt = -1;
        return text;
    }

    public int street(int n) {
        String text = text(n);
        try {
            s = readStreet(text);
        } catch (Fault fault) {
            faultAt = fault.place;
            return fault.why - 10;
        }
        images.clear();
        return s.w * s.d;
    }

    public int rain(int n) {
        String text = text(n);
        if (rains.size() == 4) {
            return -1;
        }
        try {
            rains.add(readRain(text));
        } catch (Fault fault) {
            faultAt = fault.place;
            return fault.why - 10;
        }
        return rains.size() - 1;
    }

    public int law(int n) {
        String text = text(n);
        if (laws.size() == 4) {
            return -1;
        }
        try {
            laws.add(readLaw(text));
        } catch (Fault fault) {
            faultAt = fault.place;
            return fault.why - 10;
        }
        return laws.size() - 1;
    }

    public int fault() {
        return faultAt;
    }

    public int told(int what) {
        fits(what, 0, 8);
        return new int[] {s.w, s.d, s.drains.size(), s.persons.size(), s.shelters.size(), s.works.size(),
            rains.size(), laws.size(), s.minutes}[what];
    }

    public int cell(int x, int y, int what) {
        cellThere(x, y);
        fits(what, 0, 2);
        return new int[] {s.high[x][y], s.water[x][y], s.high[x][y] + s.water[x][y]}[what];
    }

    public int drain(int drain, int what) {
        there(drain, s.drains.size());
        fits(what, 0, 3);
        return s.drains.get(drain)[what];
    }

    public int leaves(int drain, int n) {
        there(drain, s.drains.size());
        fits(n, 0, 16);
        fits(drain, 0, s.toldDrains - 1);
        int was = s.drains.get(drain)[3];
        s.drains.get(drain)[3] = n;
        return was;
    }

    public int person(int person, int what) {
        there(person, s.persons.size());
        fits(what, 0, 3);
        return s.persons.get(person)[what];
    }

    public int work(int work, int what) {
        there(work, s.works.size());
        fits(what, 0, 1);
        return s.works.get(work)[what];
    }

    public int does(int work) {
        there(work, s.works.size());
        return s.doWork(work);
    }

    public int minutes(int n, int rain) {
        fits(n, 1, 60);
        fits(rain, 0, 20);
        mustBe(s.w > 0 && s.minutes < 600);
        return s.rain(java.util.Collections.nCopies(n, rain));
    }

    public int shower(int rain) {
        there(rain, rains.size());
        mustBe(s.w > 0 && s.minutes < 600);
        return s.rain(rains.get(rain));
    }

    public int sums(int what) {
        fits(what, 0, 3);
        int stands = 0;
        for (int[] column : s.water) {
            stands += Arrays.stream(column).sum();
        }
        return new int[] {s.fallen, s.taken, s.gone, stands}[what];
    }

    public int says(int law, int what, int depth, int pace, int tyre, int row, int far, int people, int shelter) {
        there(law, laws.size());
        fits(what, 0, 4);
        Map<String, Integer> names = Map.of("depth", depth, "pace", pace, "tyre", tyre, "row", row, "far", far,
                "people", people, "shelter", shelter);
        return say(laws.get(law), SAYINGS.get(what), names);
    }

    public int car(int law, int row, int pace, int tyre, int kind) {
        there(law, laws.size());
        carFits(row, pace, tyre, kind);
        return s.drive(laws.get(law), new int[] {row, pace, tyre, kind});
    }

    public int traffic(int rounds, int row, int pace, int tyre, int kind) {
        fits(rounds, 0, 99);
        carFits(row, pace, tyre, kind);
        if (s.cars.size() == 20) {
            return -1;
        }
        s.cars.add(new int[] {rounds, row, pace, tyre, kind});
        return s.cars.size();
    }

    public int pass(int law) {
        there(law, laws.size());
        mustBe(s.w > 0);
        return s.pass(laws.get(law));
    }

    public int clear() {
        int went = s.cars.size();
        s.cars.clear();
        return went;
    }

    public int deep(int rain, int x, int y) {
        cellThere(x, y);
        there(rain, rains.size());
        State t = s.copy();
        t.rain(rains.get(rain));
        return t.water[x][y];
    }

    public int when(int rain, int x, int y, int n) {
        cellThere(x, y);
        there(rain, rains.size());
        fits(n, 1, 9999);
        for (int m = 0; m <= rains.get(rain).size(); m++) {
            State t = s.copy();
            t.rain(rains.get(rain).subList(0, m));
            if (t.water[x][y] >= n) {
                return m;
            }
        }
        return -1;
    }

    public int blame(int rain, int x, int y, int what) {
        cellThere(x, y);
        there(rain, rains.size());
        fits(what, 0, 1);
        State t = s.copy();
        t.rain(rains.get(rain));
        int now = t.water[x][y];
        int[] without = new int[s.drains.size()];
        for (int k = 0; k < without.length; k++) {
            t = s.copy();
            t.drains.get(k)[3] = 0;
            t.rain(rains.get(rain));
            without[k] = t.water[x][y];
        }
        int least = Arrays.stream(without).min().orElse(now);
        if (least >= now) {
            return what == 0 ? -1 : 0;
        }
        for (int k = 0; ; k++) {
            if (without[k] == least) {
                return what == 0 ? k : now - least;
            }
        }
    }

    public int look(int rain, int what) {
        there(rain, rains.size());
        fits(what, 0, 1);
        mustBe(s.w > 0);
        if (s.drains.isEmpty()) {
            return -1;
        }
        List<State> behind = new ArrayList<>();
        for (int k = 0; k < s.drains.size(); k++) {
            State t = s.copy();
            for (int[] drain : t.drains) {
                drain[3] = 0;
            }
            t.drains.get(k)[3] = 16;
            t.rain(rains.get(rain));
            behind.add(t);
        }
        int most = 0;
        int where = -1;
        for (int x = 0; x < s.w; x++) {
            for (int y = 0; y < s.d; y++) {
                Set<Integer> kinds = new HashSet<>();
                for (State t : behind) {
                    kinds.add(t.water[x][y]);
                }
                if (kinds.size() > most) {
                    most = kinds.size();
                    where = 100 * x + y;
                }
            }
        }
        return what == 0 ? where : most;
    }

    public int stand(int law, int most, int what) {
        there(law, laws.size());
        fits(most, 0, 19);
        fits(what, 0, 1);
        mustBe(s.w > 0);
        int least = Integer.MAX_VALUE;
        int where = -1;
        for (int x = 0; x < s.w; x++) {
            for (int f = 0; f <= most; f++) {
                State t = s.copy();
                int[] one = {x, f, 0, 0};
                t.persons.add(one);
                t.pass(laws.get(law));
                if (one[2] < least) {
                    least = one[2];
                    where = 100 * x + f;
                }
            }
        }
        return what == 0 ? where : least;
    }

    public int pace(int law, int row, int tyre, int n) {
        there(law, laws.size());
        carFits(row, 1, tyre, 0);
        fits(n, 0, 9999);
        int greatest = -1;
        for (int pace = 1; pace <= 60; pace++) {
            if (s.copy().drive(laws.get(law), new int[] {row, pace, tyre, 0}) <= n) {
                greatest = pace;
            }
        }
        return greatest;
    }

    public int moved(int law, int what) {
        there(law, laws.size());
        fits(what, 0, 1);
        mustBe(s.w > 0);
        int best = 0;
        int least = Integer.MAX_VALUE;
        for (int step = 15; step >= -15; step--) {
            State t = s.copy();
            boolean off = false;
            for (int[] person : t.persons) {
                person[0] += step;
                off |= person[0] < 0 || person[0] >= s.w;
            }
            if (!off) {
                int wet = t.pass(laws.get(law));
                if (wet <= least) {
                    least = wet;
                    best = step;
                }
            }
        }
        return what == 0 ? best : least;
    }

    public int mend(int rain, int x, int y, int n, int what) {
        cellThere(x, y);
        there(rain, rains.size());
        fits(n, 0, 9999);
        fits(what, 0, 1);
        int bestBits = -1;
        int bestCoin = -1;
        for (int bits = 0; bits < 1 << s.works.size(); bits++) {
            State t = s.copy();
            int coin = 0;
            boolean again = false;
            for (int k = 0; k < s.works.size(); k++) {
                if ((bits >> k & 1) == 1) {
                    coin += s.works.get(k)[1];
                    again |= t.doWork(k) == 0;
                }
            }
            if (again || bestBits >= 0 && coin >= bestCoin) {
                continue;
            }
            t.rain(rains.get(rain));
            if (t.water[x][y] <= n) {
                bestBits = bits;
                bestCoin = coin;
            }
        }
        return what == 0 ? bestBits : bestCoin;
    }

    public int share(int kind, int n) {
        fits(kind, 0, 3);
        fits(n, 0, 99);
        int was = s.shares[kind];
        s.shares[kind] = n;
        return was;
    }

    public int meant(int law, int x, int seenRow, int seenPace, int row, int pace, int tyre) {
        cellThere(x, seenRow);
        there(law, laws.size());
        fits(seenPace, 1, 60);
        carFits(row, pace, tyre, 0);
        int all = 0;
        for (int kind = 0; kind < 4; kind++) {
            int[] there = s.where(laws.get(law), x, new int[] {row, pace, tyre, kind});
            if (there[0] == seenRow && there[1] == seenPace) {
                all += s.shares[kind];
            }
        }
        return all == 0 || seenRow != 0 || seenPace != pace ? 0 : 1000 * s.shares[3] / all;
    }

    public int dip(int persons, int days, int by) {
        fits(persons, 1, 99);
        fits(days, 1, 30);
        fits(by, 1, 99);
        if (s.dips.size() == 9) {
            return -1;
        }
        s.dips.add(new int[] {persons, days, by});
        return s.dips.size();
    }

    private int[] best;

    private void tryOrders(List<Integer> order, List<Integer> left) {
        if (left.isEmpty()) {
            int day = 0;
            int late = 0;
            int sum = 0;
            int digits = 0;
            for (int k : order) {
                int[] dip = s.dips.get(k);
                day += dip[1];
                late += day > dip[2] ? 1 : 0;
                sum += day * dip[0];
                digits = digits * 10 + k;
            }
            if (best == null || late < best[0] || late == best[0] && sum < best[1]) {
                best = new int[] {late, sum, digits};
            }
            return;
        }
        for (int i = 0; i < left.size(); i++) {
            Integer k = left.remove(i);
            order.add(k);
            tryOrders(order, left);
            order.remove(order.size() - 1);
            left.add(i, k);
        }
    }

    private static List<Integer> upTo(int n) {
        List<Integer> all = new ArrayList<>();
        for (int i = 0; i < n; i++) {
            all.add(i);
        }
        return all;
    }

    public int town(int what) {
        fits(what, 0, 2);
        if (s.dips.isEmpty()) {
            return -1;
        }
        best = null;
        tryOrders(new ArrayList<>(), upTo(s.dips.size()));
        return best[what];
    }

    private void trySweeps(List<Integer> order, List<Integer> left) {
        if (left.isEmpty()) {
            int x = 0;
            int y = 0;
            int far = 0;
            int digits = 0;
            for (int k : order) {
                int[] drain = s.drains.get(k);
                far += Math.abs(drain[0] - x) + Math.abs(drain[1] - y);
                x = drain[0];
                y = drain[1];
                digits = digits * 10 + k;
            }
            far += x + y;
            if (best == null || far < best[0]) {
                best = new int[] {far, digits};
            }
            return;
        }
        for (int i = 0; i < left.size(); i++) {
            Integer k = left.remove(i);
            order.add(k);
            trySweeps(order, left);
            order.remove(order.size() - 1);
            left.add(i, k);
        }
    }

    public int sweep(int what) {
        fits(what, 0, 1);
        List<Integer> leafy = upTo(s.drains.size());
        leafy.removeIf(k -> s.drains.get(k)[3] == 0);
        best = null;
        trySweeps(new ArrayList<>(), leafy);
        return best[what];
    }

    public int ice(int n, int what) {
        fits(n, 1, 9999);
        fits(what, 0, 2);
        int cells = 0;
        int longest = 0;
        for (int y = 0; y < s.d; y++) {
            StringBuilder row = new StringBuilder();
            for (int x = 0; x < s.w; x++) {
                row.append(s.water[x][y] >= n ? 'i' : ' ');
                cells += s.water[x][y] >= n ? 1 : 0;
            }
            for (String run : row.toString().split(" ")) {
                longest = Math.max(longest, run.length());
            }
        }
        int on = (int) s.persons.stream().filter(p -> s.water[p[0]][0] >= n).count();
        return new int[] {cells, longest, on}[what];
    }

    public int image() {
        if (images.size() == 3) {
            return -1;
        }
        images.add(s.copy());
        return images.size();
    }

    public int restore() {
        if (images.isEmpty()) {
            return -1;
        }
        s = images.remove(images.size() - 1);
        return images.size();
    }

    public int status(int what) {
        return what >= 0 && what < 4 ? refused[what] : -1;
    }

    public int count(int what) {
        return what < 0 || what > 3 ? -1
                : new int[] {s.cars.size(), s.dips.size(), images.size(), tape.length()}[what];
    }
}
