import java.lang.reflect.InvocationTargetException;
import java.lang.reflect.Method;
import java.util.ArrayList;
import java.util.HashMap;
import java.util.List;
import java.util.Map;
import java.util.Random;
import java.util.TreeMap;

/** Runs of calls drawn by fixed seeds, each call answered by KerbSplash as by PlainKerb. */
public final class RandomRunsTest {
    private static final Map<String, Method> FACE = methods(KerbSplash.class);
    private static final Map<String, Method> PLAIN = methods(PlainKerb.class);
    private static final String[] NAMES = {"depth", "pace", "tyre", "row", "far", "people", "shelter"};
    private static final String[] SAYINGS = {"throw", "reach", "wet", "slow", "out"};
    private static final String[] SOUP = {"size", "high", "drain", "person", "shelter", "clear", "raise", "lower",
        "bore", "rain", "throw", "reach", "wet", "slow", "out", "=", ";", "if", "then", "else", "or", "and", "not",
        "depth", "pace", "(", ")", "[", "]", "<", ">", "+", "-", "*", "/", "0", "1", "2", "16", "17", "50", "99",
        "100", "9999", "10000", "x", "_"};

    private final Random random;
    private final KerbSplash face = new KerbSplash();
    private final PlainKerb plain = new PlainKerb();
    private final List<String> log = new ArrayList<>();
    private final Map<String, Integer> tally;
    private int wide = 8;
    private int rows = 3;
    private int calls;
    private boolean wrong;

    private RandomRunsTest(long seed, Map<String, Integer> tally) {
        random = new Random(seed);
        this.tally = tally;
    }

    private static Map<String, Method> methods(Class<?> of) {
        Map<String, Method> all = new HashMap<>();
        for (Method method : of.getDeclaredMethods()) {
            if (java.lang.reflect.Modifier.isPublic(method.getModifiers())) {
                all.put(method.getName(), method);
            }
        }
        return all;
    }

    private static String answer(Method method, Object of, Object[] arguments) {
        try {
            return String.valueOf(method.invoke(of, arguments));
        } catch (InvocationTargetException thrown) {
            return thrown.getCause().getClass().getSimpleName();
        } catch (IllegalAccessException never) {
            return never.toString();
        }
    }

    private String call(String name, int... arguments) {
        if (wrong || calls == 512) {
            return "";
        }
        calls++;
        Object[] boxed = new Object[arguments.length];
        StringBuilder row = new StringBuilder(name).append('(');
        for (int i = 0; i < boxed.length; i++) {
            boxed[i] = arguments[i];
            row.append(i == 0 ? "" : ", ").append(arguments[i]);
        }
        String due = answer(PLAIN.get(name), plain, boxed);
        String got = answer(FACE.get(name), face, boxed);
        log.add(row.append(") = ").append(got).toString());
        String kind = due.endsWith("Exception") ? due : due.startsWith("-") ? due.length() > 2 ? "less" : due : "n";
        tally.merge(name + " " + kind, 1, Integer::sum);
        if (!due.equals(got)) {
            wrong = true;
            System.out.println("due is " + due + " at the last of");
            log.forEach(System.out::println);
        }
        return got;
    }

    private int in(int least, int most) {
        return least + random.nextInt(most - least + 1);
    }

    // Mostly within the bounds, now and then just outside of them or far away.
    private int near(int least, int most) {
        int way = random.nextInt(60);
        if (way == 0) {
            return least - 1;
        }
        if (way == 1) {
            return most + 1;
        }
        if (way == 2) {
            return random.nextBoolean() ? Integer.MIN_VALUE : Integer.MAX_VALUE;
        }
        if (way < 6) {
            return random.nextBoolean() ? least : most;
        }
        return in(least, Math.max(least, most));
    }

    private String number(int least, int most) {
        int value = random.nextInt(12) == 0 ? near(least, most) : in(least, Math.max(least, most));
        String zeros = random.nextInt(40) == 0 ? "00" : "";
        return zeros + Math.abs((long) value);
    }

    private String blank() {
        return random.nextInt(15) == 0 ? "  " : " ";
    }

    private String clause(int drains) {
        String x = blank() + number(0, wide - 1);
        String y = blank() + number(0, rows - 1);
        String coin = blank() + number(1, 99);
        switch (random.nextInt(10)) {
            case 0: case 1: case 2: return "high" + x + y + blank() + number(0, 99);
            case 3: case 4: return "drain" + x + y + blank() + number(1, 99) + blank() + number(0, 16);
            case 5: case 6: return "person" + x + blank() + number(0, random.nextBoolean() ? 3 : 19);
            case 7: return "shelter" + x + blank() + number(wide / 2, wide - 1);
            case 8: return drains == 0 ? "bore" + x + y + blank() + number(1, 99) + coin
                : "clear" + blank() + number(0, drains - 1) + coin;
            default: return (random.nextBoolean() ? "raise" : "lower") + x + y + blank() + number(1, 50) + coin;
        }
    }

    private String street() {
        StringBuilder text = new StringBuilder();
        wide = 8;
        rows = 3;
        if (random.nextInt(6) > 0) {
            wide = random.nextInt(8) == 0 ? 16 : in(2, 7);
            rows = random.nextInt(8) == 0 ? 6 : in(1, 4);
            text.append("size ").append(wide).append(' ').append(rows).append(';');
        }
        int[] most = {6, 8, 2, 8};
        int[] has = new int[4];
        int clauses = in(0, 34);
        for (int i = 0; i < clauses && text.length() < 560; i++) {
            String clause = clause(has[0]);
            int kind = clause.startsWith("dr") ? 0 : clause.startsWith("pe") ? 1 : clause.startsWith("sh") ? 2
                : clause.startsWith("high") ? -1 : 3;
            if (kind >= 0 && has[kind] == most[kind] && random.nextInt(30) > 0) {
                continue;
            }
            if (kind >= 0) {
                has[kind]++;
            }
            text.append(clause).append(random.nextInt(20) == 0 ? " ;" : ";");
        }
        return text.toString();
    }

    private String rain() {
        StringBuilder text = new StringBuilder();
        int pieces = random.nextInt(12) == 0 ? in(0, 9) : in(1, 3);
        for (int i = 0; i < pieces; i++) {
            text.append("rain ").append(number(0, random.nextBoolean() ? 3 : 20)).append(' ')
                .append(number(1, random.nextInt(3) == 0 ? 30 : 6)).append(';');
        }
        return text.toString();
    }

    private String value(int depth) {
        if (depth > 0 && random.nextInt(4) == 0) {
            return "if " + condition(depth - 1) + " then " + value(depth - 1) + " else " + value(depth - 1);
        }
        StringBuilder text = new StringBuilder(product(depth));
        while (random.nextInt(3) == 0) {
            text.append(random.nextBoolean() ? "+" : " - ").append(product(depth));
        }
        return text.toString();
    }

    private String product(int depth) {
        StringBuilder text = new StringBuilder(unit(depth));
        while (random.nextInt(3) == 0) {
            text.append(random.nextBoolean() ? "*" : "/").append(unit(depth));
        }
        return text.toString();
    }

    private String unit(int depth) {
        int way = random.nextInt(10);
        if (way == 0 && depth > 0) {
            return "(" + value(depth - 1) + ")";
        }
        if (way < 6) {
            return NAMES[random.nextInt(NAMES.length)];
        }
        return way == 6 ? String.valueOf(in(0, 9999)) : number(0, 20);
    }

    // Opens one in another, some six of them, so that a seventh is met.
    private String nested(int left) {
        if (left == 0) {
            return NAMES[random.nextInt(NAMES.length)];
        }
        if (random.nextBoolean()) {
            return "(" + nested(left - 1) + ")";
        }
        int way = random.nextInt(4);
        if (way == 0) {
            return "(if " + nested(left / 2) + "<1 then 1 else " + nested(Math.max(0, left - 2)) + ")";
        }
        if (way == 1 || left < 3) {
            return "(if not " + nested(Math.max(0, left - 3)) + "=2 then 1 else 2)";
        }
        return "(if [" + nested(left - 3) + ">3 or not [1=1]] then 3 else " + nested(left - 2) + ")";
    }

    private String condition(int depth) {
        StringBuilder text = new StringBuilder(alternative(depth));
        while (random.nextInt(3) == 0) {
            text.append(" or ").append(alternative(depth));
        }
        return text.toString();
    }

    private String alternative(int depth) {
        StringBuilder text = new StringBuilder(test(depth));
        while (random.nextInt(3) == 0) {
            text.append(" and ").append(test(depth));
        }
        return text.toString();
    }

    private String test(int depth) {
        int way = random.nextInt(6);
        if (way == 0 && depth > 0) {
            return "not " + test(depth - 1);
        }
        if (way == 1 && depth > 0) {
            return "[" + condition(depth - 1) + "]";
        }
        return value(Math.max(0, depth - 1)) + "<>=".charAt(random.nextInt(3)) + value(Math.max(0, depth - 1));
    }

    private String law() {
        StringBuilder text = new StringBuilder();
        int depth = random.nextInt(5) == 0 ? in(3, 7) : in(0, 2);
        for (String saying : SAYINGS) {
            if (random.nextInt(10) == 0) {
                continue;
            }
            String formula = random.nextInt(8) == 0 ? nested(in(4, 7)) : value(depth);
            if (random.nextInt(3) > 0) {
                formula = saying.equals("throw") ? "4+depth/2" : saying.equals("reach") ? "pace/3+depth"
                    : saying.equals("wet") ? "depth+20-far-9*shelter+pace/9" : formula;
            }
            text.append(saying).append('=').append(formula).append(';');
        }
        if (random.nextInt(20) == 0) {
            text.append("wet=1;");
        }
        return text.toString();
    }

    private String spoilt(String text) {
        int way = random.nextInt(40);
        int at = text.isEmpty() ? 0 : random.nextInt(text.length());
        if (way == 0) {
            return text.substring(0, at);
        }
        if (way == 1) {
            return text.substring(0, at) + SOUP[random.nextInt(SOUP.length)] + text.substring(at);
        }
        if (way == 2 && !text.isEmpty()) {
            return text.substring(0, at) + text.substring(at + 1);
        }
        if (way == 3) {
            return text + "  ";
        }
        if (way == 4) {
            return text.substring(0, at) + (char) in(0, 255) + text.substring(at);
        }
        if (way == 5) {
            StringBuilder soup = new StringBuilder();
            for (int i = 0; i < 12; i++) {
                soup.append(SOUP[random.nextInt(SOUP.length)]).append(random.nextBoolean() ? " " : "");
            }
            return soup.toString();
        }
        return text;
    }

    private void tell(String what, String text) {
        String cut = text.length() > 600 ? text.substring(0, 600) : text;
        log.add("  \"" + cut + "\"");
        int[] five = new int[5];
        for (int from = 0; from < cut.length(); from += 20) {
            for (int i = 0; i < 5; i++) {
                five[i] = 0;
                for (int j = 0; j < 4; j++) {
                    int at = from + 4 * i + j;
                    five[i] = five[i] << 8 | (at < cut.length() ? cut.charAt(at) : 0);
                }
            }
            call("feed", five);
        }
        if (random.nextInt(30) == 0) {
            call(what, cut.length() + 21);
        }
        call(what, cut.length());
        call("fault");
    }

    private int law0() {
        return random.nextInt(25) == 0 ? near(0, 4) : 0;
    }

    private int rain0() {
        return random.nextInt(25) == 0 ? near(0, 4) : 0;
    }

    private void oneCall() {
        int x = near(0, wide - 1);
        int y = near(0, rows - 1);
        int row = near(0, rows - 1);
        int pace = near(1, 60);
        int tyre = near(1, 9);
        int what = near(0, 1);
        switch (random.nextInt(46)) {
            case 0: call("told", near(0, 8)); break;
            case 1: case 2: call("cell", x, y, near(0, 2)); break;
            case 3: call("drain", near(0, 6), near(0, 3)); break;
            case 4: case 5: call("leaves", near(0, 5), near(0, 16)); break;
            case 6: case 7: call("person", near(0, 7), near(0, 3)); break;
            case 8: call("work", near(0, 7), near(0, 1)); break;
            case 9: call("does", near(0, 7)); break;
            case 10: case 11: call("minutes", near(1, 4), near(0, 20)); break;
            case 12: call("shower", rain0()); break;
            case 13: case 14: call("sums", near(0, 3)); break;
            case 15: call("says", law0(), near(0, 4), random.nextInt(), pace, tyre, row, x, y, what); break;
            case 16: call("says", law0(), near(0, 4), in(0, 50), pace, tyre, row, in(0, 20), in(0, 3), what); break;
            case 17: case 18: case 19: call("car", law0(), row, pace, tyre, near(0, 3)); break;
            case 20: case 21: case 22:
                call("traffic", near(0, random.nextInt(9) == 0 ? 99 : 3), row, pace, tyre, near(0, 3)); break;
            case 23: case 24: call("pass", law0()); break;
            case 25: if (random.nextInt(4) == 0) { call("clear"); } break;
            case 26: call("deep", rain0(), x, y); break;
            case 27: call("when", rain0(), x, y, near(1, random.nextBoolean() ? 30 : 9999)); break;
            case 28: case 29: call("blame", rain0(), x, y, what); break;
            case 30: call("look", rain0(), what); break;
            case 31: call("stand", law0(), near(0, random.nextBoolean() ? 2 : 19), what); break;
            case 32: call("pace", law0(), row, tyre, near(0, random.nextBoolean() ? 99 : 9999)); break;
            case 33: call("moved", law0(), what); break;
            case 34: call("mend", rain0(), x, y, near(0, random.nextBoolean() ? 30 : 9999), what); break;
            case 35: call("share", near(0, 3), near(0, 99)); break;
            case 36: case 37: call("meant", law0(), x, random.nextBoolean() ? 0 : y,
                random.nextBoolean() ? pace : near(1, 60), row, pace, tyre); break;
            case 38: call("dip", near(1, 99), near(1, 30), near(1, 99)); break;
            case 39: call("town", near(0, 2)); break;
            case 40: call("sweep", what); break;
            case 41: case 42: call("ice", near(1, 12), near(0, 2)); break;
            case 43: call("image"); break;
            case 44: call("restore"); break;
            default: call(random.nextBoolean() ? "status" : "count", near(0, 3)); break;
        }
    }

    private void longTimes() {
        for (int i = 0; i < 12 && random.nextInt(12) > 0; i++) {
            call("minutes", 60, in(0, 4));
        }
    }

    // What may be told only so often is told once more than that, for its own answer is due then.
    private void tooMuch() {
        int way = random.nextInt(5);
        for (int i = 0; i < 5 && way == 0; i++) {
            tell("rain", spoilt(rain()));
        }
        for (int i = 0; i < 5 && way == 1; i++) {
            tell("law", spoilt(law()));
        }
        for (int i = 0; i < 21 && way == 2; i++) {
            call("traffic", in(0, 5), in(0, rows - 1), in(1, 60), in(1, 9), in(0, 3));
        }
        for (int i = 0; i < 10 && way == 3; i++) {
            call("dip", in(1, 99), in(1, 30), in(1, 99));
        }
        for (int i = 0; i < 31 && way == 4; i++) {
            call("feed", random.nextInt(), 0x3b3b3b3b, 0, -1, i);
        }
    }

    private boolean run() {
        for (int i = 0; i < 4; i++) {
            oneCall();
        }
        int streets = in(1, 3);
        for (int i = 0; i < streets; i++) {
            tell("street", spoilt(street()));
            tell("rain", spoilt(rain()));
            tell("law", spoilt(law()));
            int some = in(10, 60);
            for (int j = 0; j < some; j++) {
                oneCall();
            }
            if (random.nextInt(8) == 0) {
                longTimes();
            }
            if (random.nextInt(4) == 0) {
                tooMuch();
            }
            for (int j = 0; j < 15; j++) {
                oneCall();
            }
        }
        for (int what = -1; what < 5; what++) {
            call("status", what);
            call("count", what);
        }
        return !wrong;
    }

    public static void main(String[] args) {
        int runs = args.length > 0 ? Integer.parseInt(args[0]) : 400;
        long first = args.length > 1 ? Long.parseLong(args[1]) : 1;
        Map<String, Integer> tally = new TreeMap<>();
        for (long seed = first; seed < first + runs; seed++) {
            if (!new RandomRunsTest(seed, tally).run()) {
                System.out.println("seed " + seed);
                System.exit(1);
            }
        }
        if (args.length > 0) {
            tally.forEach((name, times) -> System.out.println(name + ": " + times));
        }
        System.out.println(runs + " random runs answered as the plain model does");
    }
}
