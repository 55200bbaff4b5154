import java.util.NoSuchElementException;

/** What the tests by hand have in common: telling texts, and holding answers against those that are due. */
class Checks {
    interface Call {
        int answer();
    }

    static final Class<?> OUTSIDE = IndexOutOfBoundsException.class;
    static final Class<?> NO_SUCH = NoSuchElementException.class;
    static final Class<?> ARGUMENT = IllegalArgumentException.class;
    static final Class<?> STATE = IllegalStateException.class;

    static int checks;
    static int wrong;
    /** What is looked at: it is told with every wrong answer. */
    static String about = "";

    static void due(String what, int got, int want) {
        checks++;
        if (got != want) {
            tell(what, String.valueOf(got), String.valueOf(want));
        }
    }

    static void refused(String what, Class<?> want, Call call) {
        checks++;
        String got = outcome(call);
        if (!got.equals(want.getSimpleName())) {
            tell(what, got, want.getSimpleName());
        }
    }

    static String outcome(Call call) {
        try {
            return String.valueOf(call.answer());
        } catch (RuntimeException thrown) {
            return thrown.getClass().getSimpleName();
        }
    }

    static void tell(String what, String got, String want) {
        wrong++;
        System.out.println(about + ": " + what + " answered " + got + ", due is " + want);
    }

    static void feed(KerbSplash k, String text) {
        int[] five = new int[5];
        for (int from = 0; from < text.length(); from += 20) {
            for (int i = 0; i < 5; i++) {
                five[i] = 0;
                for (int j = from + 4 * i; j < from + 4 * i + 4; j++) {
                    five[i] = five[i] << 8 | (j < text.length() ? text.charAt(j) & 255 : 0);
                }
            }
            k.feed(five[0], five[1], five[2], five[3], five[4]);
        }
    }

    static int street(KerbSplash k, String text) {
        feed(k, text);
        return k.street(text.length());
    }

    static int rain(KerbSplash k, String text) {
        feed(k, text);
        return k.rain(text.length());
    }

    static int law(KerbSplash k, String text) {
        feed(k, text);
        return k.law(text.length());
    }

    static KerbSplash with(String street) {
        KerbSplash k = new KerbSplash();
        int cells = street(k, street);
        if (cells < 0) {
            due("the street \"" + street + "\" with its fault at " + k.fault(), cells, 0);
        }
        return k;
    }

    static KerbSplash with(String street, String law) {
        KerbSplash k = with(street);
        due("the law \"" + law + "\"", law(k, law), 0);
        return k;
    }

    static void streetFault(String text, int why, int place) {
        KerbSplash k = new KerbSplash();
        due("street \"" + text + "\"", street(k, text), why - 10);
        due("fault of \"" + text + "\"", k.fault(), place);
        due("told(0) behind \"" + text + "\"", k.told(0), 0);
    }

    static void rainFault(String text, int why, int place) {
        KerbSplash k = new KerbSplash();
        due("rain \"" + text + "\"", rain(k, text), why - 10);
        due("fault of \"" + text + "\"", k.fault(), place);
        due("told(6) behind \"" + text + "\"", k.told(6), 0);
    }

    static void lawFault(String text, int why, int place) {
        KerbSplash k = new KerbSplash();
        due("law \"" + text + "\"", law(k, text), why - 10);
        due("fault of \"" + text + "\"", k.fault(), place);
        due("told(7) behind \"" + text + "\"", k.told(7), 0);
    }

    /** What a formula is, where depth, pace, tyre, row, far, people, shelter are 3, 5, 7, 11, 13, 17, 19. */
    static void value(String formula, int want) {
        KerbSplash k = new KerbSplash();
        String text = "out=" + formula + ";";
        int told = law(k, text);
        due("law \"" + text + "\"", told, 0);
        if (told == 0) {
            due(formula, k.says(0, 4, 3, 5, 7, 11, 13, 17, 19), want);
        }
    }

    static void end(String what) {
        System.out.println(what + ", " + checks + " checks, " + wrong + " wrong");
        if (wrong != 0) {
            System.exit(1);
        }
    }
}
