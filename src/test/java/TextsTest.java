/** What the document says of the three texts, sentence by sentence: the edges that each of them names. */
public final class TextsTest extends Checks {
    private static final int STREET = 0;
    private static final int RAIN = 1;
    private static final int LAW = 2;
    private static final int MAX = Integer.MAX_VALUE;
    private static final int MIN = Integer.MIN_VALUE;
    private static final String SMALL = "size 5 2;";
    private static final String[] ALL_CLAUSES = {"high 0 0 1;", "drain 0 0 1 1;", "person 0 0;", "shelter 0 0;",
        "raise 0 0 1 1;", "lower 0 0 1 1;", "bore 0 0 1 1;"};

    private static int tell(KerbSplash k, int kind, String text) {
        return kind == STREET ? street(k, text) : kind == RAIN ? rain(k, text) : law(k, text);
    }

    private static void taken(int kind, String text) {
        KerbSplash k = new KerbSplash();
        int got = tell(k, kind, text);
        due("\"" + text + "\" is taken (" + got + ")", got < 0 ? got : 0, 0);
        due("\"" + text + "\" has no fault", k.fault(), -1);
    }

    private static void fault(int kind, String text, int why, int place) {
        if (kind == STREET) {
            streetFault(text, why, place);
        } else if (kind == RAIN) {
            rainFault(text, why, place);
        } else {
            lawFault(text, why, place);
        }
    }

    /** A number of a text: the least and the most are taken, one beyond is not, nor what would wrap to a good one. */
    private static void number(int kind, String before, int least, int most, String after) {
        taken(kind, before + least + after);
        taken(kind, before + most + after);
        taken(kind, before + "000000000000" + most + after);
        int place = before.length();
        if (least > 0) {
            fault(kind, before + (least - 1) + after, 2, place);
        }
        fault(kind, before + (most + 1) + after, 2, place);
        fault(kind, before + (4294967296L + least) + after, 2, place);
        fault(kind, before + "18446744073709551616" + least + after, 2, place);
        fault(kind, before + "-" + most + after, 1, place);
        fault(kind, before + "x" + after, 1, place);
        fault(kind, before, 1, place);
    }

    private static void upTo600Bytes() {
        taken(STREET, "size 2 1;" + " ".repeat(591));
        streetFault("size 2 1;" + " ".repeat(590) + "x", 1, 599);
        taken(RAIN, " ".repeat(591) + "rain 1 1;");
        rainFault("rain 1 1;" + " ".repeat(590) + "x", 1, 599);
        rainFault(" ".repeat(592) + "rain 1 1", 1, 600);
        lawFault("wet=1;" + " ".repeat(593) + "x", 1, 599);
        value("1+".repeat(297) + "1", 298);
        value("(1)*".repeat(148) + "(1)", 1);
        due("a street of 600 bytes", street(new KerbSplash(), "high0 0 1;".repeat(60)), 24);
    }

    private static void clauses() {
        StringBuilder text = new StringBuilder();
        for (int i = 0; i < 59; i++) {
            text.append("high").append(i % 8).append(" 0 ").append(i % 10).append(';');
        }
        due("59 clauses", street(new KerbSplash(), text.toString()), 24);
        KerbSplash k = new KerbSplash();
        due("60 clauses", street(k, text + "high7 2 9;"), 24);
        due("the last of them", k.cell(7, 2, 0), 9);
    }

    private static void clausesTooMany() {
        String most = "size2 1;drain0 0 1 0;" + "clear0 1;".repeat(8) + "high0 0 1;".repeat(49) + "high0 0 7;";
        KerbSplash k = new KerbSplash();
        due("60 of them", street(k, most), 2);
        due("the last of them", k.cell(0, 0, 0), 7);
        int end = most.length();
        streetFault(most + "high", 3, end);
        streetFault(most + "   high", 3, end + 3);
        streetFault(most + "bore", 3, end);
        streetFault(most + "size", 3, end);
        streetFault(most + "highs", 1, end);
        streetFault(most + ";", 1, end);
        streetFault(most + "7", 1, end);
        due("blanks behind", street(new KerbSplash(), most + "    "), 2);
    }

    private static void size() {
        number(STREET, "size ", 2, 16, " 1;");
        number(STREET, "size 2 ", 1, 6, ";");
        int[][] sizes = {{2, 1}, {2, 6}, {16, 1}, {16, 6}};
        for (int[] size : sizes) {
            KerbSplash k = new KerbSplash();
            due("cells", street(k, "size " + size[0] + " " + size[1] + ";"), size[0] * size[1]);
            due("told(0)", k.told(0), size[0]);
            due("told(1)", k.told(1), size[1]);
            due("the last cell", k.cell(size[0] - 1, size[1] - 1, 0), 50);
            refused("behind it along", OUTSIDE, () -> k.cell(size[0], 0, 0));
            refused("behind it across", OUTSIDE, () -> k.cell(0, size[1], 0));
        }
    }

    private static void sizeWithout() {
        KerbSplash k = with("high 7 2 1;");
        due("8 along", k.told(0), 8);
        due("3 rows", k.told(1), 3);
        due("the last cell", k.cell(7, 2, 0), 1);
        streetFault("high 8 2 1;", 2, 5);
        streetFault("high 7 3 1;", 2, 7);
        due("with none at all", street(new KerbSplash(), ""), 24);
    }

    private static void sizeAheadOfAllOnce() {
        for (String clause : ALL_CLAUSES) {
            due("size ahead of " + clause, street(new KerbSplash(), SMALL + clause), 10);
            streetFault(clause + SMALL, 4, clause.length());
            streetFault(clause + "  size", 4, clause.length() + 2);
        }
        streetFault("drain 0 0 1 1;clear 0 1;size 2 1;", 4, 24);
        streetFault(SMALL + SMALL, 4, 9);
        streetFault(SMALL + "size", 4, 9);
        streetFault(SMALL + "sizes", 1, 9);
    }

    private static void high() {
        number(STREET, SMALL + "high ", 0, 4, " 0 1;");
        number(STREET, SMALL + "high 0 ", 0, 1, " 1;");
        number(STREET, SMALL + "high 0 0 ", 0, 99, ";");
        KerbSplash k = with(SMALL + "high 4 1 0;high 0 0 99;high 1 0 7;high 1 0 8;");
        due("0", k.cell(4, 1, 0), 0);
        due("99", k.cell(0, 0, 0), 99);
        due("50 without", k.cell(3, 1, 0), 50);
        due("the later one", k.cell(1, 0, 0), 8);
    }

    private static void drains() {
        number(STREET, SMALL + "drain ", 0, 4, " 0 1 1;");
        number(STREET, SMALL + "drain 0 ", 0, 1, " 1 1;");
        number(STREET, SMALL + "drain 0 0 ", 1, 99, " 1;");
        number(STREET, SMALL + "drain 0 0 1 ", 0, 16, ";");
        String one = "drain 1 1 9 3;";
        KerbSplash k = with(one.repeat(5) + "drain 7 2 99 16;");
        due("6 of them", k.told(2), 6);
        due("the sixth", k.drain(5, 2), 99);
        streetFault(one.repeat(6) + "drain", 3, 6 * one.length());
        streetFault(one.repeat(6) + "  drain 99 9 9 9;", 3, 6 * one.length() + 2);
        streetFault(one.repeat(6) + "drains", 1, 6 * one.length());
        taken(STREET, one.repeat(6) + "bore 0 0 1 1;high 0 0 1;");
    }

    private static void persons() {
        number(STREET, SMALL + "person ", 0, 4, " 0;");
        number(STREET, SMALL + "person 0 ", 0, 19, ";");
        String one = "person 1 1;";
        KerbSplash k = with(one.repeat(7) + "person 7 19;");
        due("8 of them", k.told(3), 8);
        due("the eighth", k.person(7, 0) * 100 + k.person(7, 1), 719);
        streetFault(one.repeat(8) + " person", 3, 8 * one.length() + 1);
        streetFault(one.repeat(8) + "person 9 99;", 3, 8 * one.length());
    }

    private static void shelters() {
        number(STREET, SMALL + "shelter ", 0, 4, " 4;");
        number(STREET, SMALL + "shelter 0 ", 0, 4, ";");
        number(STREET, SMALL + "shelter 2 ", 2, 4, ";");
        number(STREET, SMALL + "shelter 4 ", 4, 4, ";");
        String one = "shelter 1 2;";
        due("2 of them", with(one.repeat(2)).told(4), 2);
        streetFault(one.repeat(2) + " shelter", 3, 2 * one.length() + 1);
    }

    private static void works() {
        String drain = "drain 0 0 1 1;";
        String[] kinds = {"clear 0 1;", "raise 0 0 1 1;", "lower 0 0 1 1;", "bore 0 0 1 1;"};
        for (int last = 0; last < 4; last++) {
            String eight = drain + kinds[0] + kinds[1] + kinds[2] + kinds[3] + kinds[3] + kinds[2] + kinds[1];
            KerbSplash k = with(eight + kinds[last]);
            due("8 of them", k.told(5), 8);
            due("the eighth", k.work(7, 0), last);
            String full = eight + kinds[last];
            streetFault(full + kinds[last], 3, full.length());
            streetFault(full + "  " + kinds[3 - last], 3, full.length() + 2);
        }
    }

    private static void clearing() {
        String two = "drain 0 0 16 5;drain 1 0 16 6;";
        number(STREET, two + "clear ", 0, 1, " 1;");
        number(STREET, two + "clear 0 ", 1, 99, ";");
        number(STREET, "drain 0 0 1 1;".repeat(6) + "clear ", 0, 5, " 1;");
        streetFault("clear 0 1;", 2, 6);
        KerbSplash k = with(two + "clear 1 99;clear 0 1;");
        due("coin", k.work(0, 1) * 100 + k.work(1, 1), 9901);
        k.does(0);
        due("leaves are 0 then", k.drain(1, 3), 0);
        due("those of the other are not", k.drain(0, 3), 5);
        k.leaves(1, 9);
        due("done already", k.does(0), 0);
        due("so leaves stay", k.drain(1, 3), 9);
    }

    private static void raisingAndLowering() {
        for (String word : new String[] {"raise", "lower"}) {
            number(STREET, SMALL + word + " ", 0, 4, " 0 1 1;");
            number(STREET, SMALL + word + " 0 ", 0, 1, " 1 1;");
            number(STREET, SMALL + word + " 0 0 ", 1, 50, " 1;");
            number(STREET, SMALL + word + " 0 0 1 ", 1, 99, ";");
        }
    }

    private static void to99And0AtMost() {
        int[][] raised = {{48, 50, 98}, {49, 50, 99}, {50, 50, 99}, {99, 1, 99}, {98, 1, 99}, {0, 1, 1}};
        for (int[] one : raised) {
            KerbSplash k = with("high 0 0 " + one[0] + ";raise 0 0 " + one[1] + " 1;");
            k.does(0);
            due(one[0] + " raised by " + one[1], k.cell(0, 0, 0), one[2]);
        }
        int[][] lowered = {{51, 50, 1}, {50, 50, 0}, {49, 50, 0}, {0, 1, 0}, {1, 1, 0}, {99, 1, 98}};
        for (int[] one : lowered) {
            KerbSplash k = with("high 0 0 " + one[0] + ";lower 0 0 " + one[1] + " 1;");
            k.does(0);
            due(one[0] + " lowered by " + one[1], k.cell(0, 0, 0), one[2]);
        }
        KerbSplash wet = with("size 2 1;high 0 0 20;lower 0 0 50 1;");
        wet.minutes(1, 3);
        wet.does(0);
        due("its water stays", wet.cell(0, 0, 1), 6);
    }

    private static void boring() {
        number(STREET, SMALL + "bore ", 0, 4, " 0 1 1;");
        number(STREET, SMALL + "bore 0 ", 0, 1, " 1 1;");
        number(STREET, SMALL + "bore 0 0 ", 1, 99, " 1;");
        number(STREET, SMALL + "bore 0 0 1 ", 1, 99, ";");
        KerbSplash k = with("drain 0 0 1 1;".repeat(6) + "bore 7 2 99 1;bore 6 1 98 99;" + "bore 5 0 97 1;".repeat(6));
        due("none yet", k.told(2), 6);
        for (int work = 1; work < 8; work++) {
            k.does(work);
        }
        k.does(0);
        due("6 in all no matter", k.told(2), 14);
        due("behind all others, as they are done", k.drain(6, 2) * 100 + k.drain(13, 2), 9899);
        due("it never has leaves", k.drain(13, 3), 0);
        refused("not even if told so", ARGUMENT, () -> k.leaves(13, 1));
        refused("nor none", ARGUMENT, () -> k.leaves(6, 0));
        due("the last told one may have", k.leaves(5, 16), 1);
        KerbSplash alone = with("size 2 1;high 0 0 99;bore 1 0 99 1;");
        alone.does(0);
        due("no drain but a bored one", alone.told(2), 1);
        alone.minutes(1, 20);
        due("it takes what there is", alone.sums(1), 40);
    }

    private static void rainPieces() {
        number(RAIN, "rain ", 0, 20, " 1;");
        number(RAIN, "rain 0 ", 1, 30, ";");
        String one = "rain 1 30;";
        KerbSplash k = with("size 2 1;");
        due("one of them", rain(k, "rain 20 1;"), 0);
        due("eight of them", rain(k, one.repeat(7) + "rain 20 30;"), 1);
        due("240 minutes", k.shower(1), 240);
        due("all that fell", k.sums(0), 2 * (210 + 600));
        rainFault(one.repeat(8) + "rain", 3, 8 * one.length());
        rainFault(one.repeat(8) + "  rain 99 99;", 3, 8 * one.length() + 2);
        rainFault(one.repeat(8) + "rains", 1, 8 * one.length());
        rainFault(one.repeat(8) + ";", 1, 8 * one.length());
        rainFault("", 1, 0);
        rainFault("  ", 1, 2);
    }

    private static void lawWords() {
        String[] words = {"throw", "reach", "wet", "slow", "out"};
        for (int i = 0; i < 5; i++) {
            KerbSplash k = new KerbSplash();
            due("one alone", law(k, words[i] + "=7;"), 0);
            for (int what = 0; what < 5; what++) {
                due(words[i] + " alone, what " + what, k.says(0, what, 0, 0, 0, 0, 0, 0, 0), what == i ? 7 : 0);
            }
            lawFault(words[i] + "=7; " + words[i], 4, words[i].length() + 4);
            lawFault("throw=1;reach=2;wet=3;slow=4;out=5;" + words[i] + "=6;", 4, 35);
            lawFault(words[i] + "=7;" + words[i] + "s=1;", 1, words[i].length() + 3);
        }
        taken(LAW, "throw=1;reach=2;wet=3;slow=4;out=5;");
        taken(LAW, "");
        taken(LAW, "    ");
        for (String name : new String[] {"depth", "pace", "tyre", "row", "far", "people", "shelter", "if", "then"}) {
            lawFault(name + "=1;", 1, 0);
        }
    }

    private static void lawNumbers() {
        number(LAW, "wet=", 0, 9999, ";");
        number(LAW, "wet=5*(depth-", 0, 9999, ");");
        number(LAW, "wet=if 1<", 0, 9999, " then 1 else 2;");
        value("0009999", 9999);
        value("0", 0);
    }

    private static void formulas() {
        value("10-4-3", 3);
        value("10-(4-3)", 9);
        value("100/7/2", 7);
        value("100/(7/2)", 33);
        value("7*3/2", 10);
        value("7/2*3", 9);
        value("2+3*4", 14);
        value("2*3+4", 10);
        value("(2+3)*4", 20);
        value("20-6/2", 17);
        value("if 1=1 then 2+3 else 4", 5);
        value("if 1=2 then 2 else 4*5", 20);
        value("if 1+1=2*1 then 1 else 0", 1);
        value("if 3>2 and 2>1 or 1>2 then 1 else 0", 1);
        value("if 1>2 or 3>2 and 2>1 then 1 else 0", 1);
        value("if 1>2 and 1=1 or 1=1 then 1 else 0", 1);
        value("if 1=1 or 1=1 and 1>2 then 1 else 0", 1);
        value("if 1>2 and [1=1 or 1=1] then 1 else 0", 0);
        value("if not 1>2 and 1>2 then 1 else 0", 0);
        value("if not [1>2 and 1>2] then 1 else 0", 1);
        value("if not not 1=1 then 1 else 0", 1);
    }

    private static void relations() {
        int[][] pairs = {{1, 2}, {2, 2}, {3, 2}};
        for (int[] pair : pairs) {
            int a = pair[0];
            int b = pair[1];
            value("if " + a + "<" + b + " then 1 else 0", a < b ? 1 : 0);
            value("if " + a + ">" + b + " then 1 else 0", a > b ? 1 : 0);
            value("if " + a + "=" + b + " then 1 else 0", a == b ? 1 : 0);
            value("if not " + a + "<" + b + " then 1 else 0", a < b ? 0 : 1);
        }
        String[] trues = {"1<2", "2>1", "2=2", "not 1=2", "[1=1]"};
        String[] falses = {"2<2", "2>2", "1=2", "not 1=1", "[1=2]"};
        for (int i = 0; i < 5; i++) {
            for (int j = 0; j < 5; j++) {
                value("if " + trues[i] + " and " + trues[j] + " then 1 else 0", 1);
                value("if " + trues[i] + " and " + falses[j] + " then 1 else 0", 0);
                value("if " + falses[i] + " and " + trues[j] + " then 1 else 0", 0);
                value("if " + falses[i] + " or " + trues[j] + " then 1 else 0", 1);
                value("if " + trues[i] + " or " + falses[j] + " then 1 else 0", 1);
                value("if " + falses[i] + " or " + falses[j] + " then 1 else 0", 0);
                value("if " + trues[i] + " or " + trues[j] + " then 1 else 0", 1);
            }
        }
        lawFault("wet=if 1<=2 then 1 else 2;", 1, 9);
        lawFault("wet=if 1 then 1 else 2;", 1, 9);
        lawFault("wet=if 1<2<3 then 1 else 2;", 1, 10);
    }

    private static void whereThingsCanStand() {
        lawFault("wet=if 1=1 then 1 else 2", 1, 24);
        lawFault("wet=if 1=1 then 1 2;", 1, 18);
        lawFault("wet=if 1=1 then 1 else", 1, 22);
        lawFault("wet=if 1=1 1 else 2;", 1, 11);
        lawFault("wet=if", 1, 6);
        lawFault("wet=if not", 1, 10);
        lawFault("wet=if [1=1;", 1, 11);
        lawFault("wet=if [1=1) then 1 else 2;", 1, 11);
        lawFault("wet=(1];", 1, 6);
        lawFault("wet=[1=1];", 1, 4);
        lawFault("wet=not 1=1;", 1, 4);
        lawFault("wet=();", 1, 5);
        lawFault("wet=1*if 1=1 then 1 else 2;", 1, 6);
        lawFault("wet=1 and 2;", 1, 6);
        lawFault("wet=+1;", 1, 4);
        lawFault("wet=1++1;", 1, 6);
        lawFault("wet", 1, 3);
        lawFault("wet;", 1, 3);
        lawFault("wet==1;", 1, 4);
        lawFault("=1;", 1, 0);
        lawFault(";", 1, 0);
        lawFault("wet=1;;", 1, 6);
        lawFault("wet=1.5;", 1, 5);
        streetFault(";", 1, 0);
        streetFault("high 1,2,3;", 1, 6);
        streetFault("high 1 2 3,", 1, 10);
        streetFault("high 1 2 3 4;", 1, 11);
        streetFault("high 1 2;", 1, 8);
        streetFault("person 1 2 high 1 2 3;", 1, 11);
        rainFault("rain 1 1;high 0 0 1;", 1, 9);
        rainFault("rain 1 1 rain 1 1;", 1, 9);
        rainFault("1 1;", 1, 0);
    }

    private static void digits() {
        streetFault("size 22;", 2, 5);
        streetFault("size 2;1;", 1, 6);
        KerbSplash k = with("size5 2;high4 1 12;high 00000 0000 00034;");
        due("12", k.cell(4, 1, 0), 12);
        due("34", k.cell(0, 0, 0), 34);
        value("12/5", 2);
        value("1234", 1234);
        lawFault("wet=1 2;", 1, 6);
        lawFault("wet=12345;", 2, 4);
        lawFault("wet=  00010000;", 2, 6);
    }

    private static void words() {
        for (String wrongOne : new String[] {"highhigh 0 0 1;", "hig 0 0 1;", "High 0 0 1;", "HIGH 0 0 1;",
            "hi gh 0 0 1;", "h", "highx0 0 1;", "zhigh 0 0 1;"}) {
            streetFault(wrongOne, 1, 0);
        }
        taken(STREET, "high0 0 1;person0 0;drain0 0 1 1;");
        lawFault("wet=depthpace;", 1, 4);
        lawFault("wet=dept;", 1, 4);
        lawFault("wet=depths;", 1, 4);
        lawFault("wet=if notdepth=1 then 1 else 2;", 1, 7);
        lawFault("wet=ifdepth=1 then 1 else 2;", 1, 4);
        lawFault("wet=if 1=1 thendepth else 2;", 1, 11);
        lawFault("wet=if depth=1 or2=2 thenn 1 else 2;", 1, 21);
        value("if not1=2and1=1or2=3then4else5", 4);
        value("depth+pace*tyre", 38);
        lawFault("wet=1if 1=1 then 1 else 2;", 1, 5);
        lawFault("wet=Depth;", 1, 4);
    }

    private static String otherLetter(String word, int at) {
        char letter = word.charAt(at) == 'q' ? 'z' : 'q';
        return word.substring(0, at) + letter + word.substring(at + 1);
    }

    private static void everyLetter() {
        for (String clause : ALL_CLAUSES) {
            for (int at = 0; clause.charAt(at) != ' '; at++) {
                streetFault(otherLetter(clause, at), 1, 0);
            }
        }
        for (int at = 0; at < 4; at++) {
            streetFault(otherLetter("size 2 1;", at), 1, 0);
            rainFault(otherLetter("rain 2 1;", at), 1, 0);
        }
        for (int at = 0; at < 5; at++) {
            streetFault("drain 0 0 1 1;" + otherLetter("clear 0 1;", at), 1, 14);
        }
        for (String word : new String[] {"throw", "reach", "wet", "slow", "out"}) {
            for (int at = 0; at < word.length(); at++) {
                lawFault(otherLetter(word, at) + "=1;", 1, 0);
            }
        }
        for (String name : new String[] {"depth", "pace", "tyre", "row", "far", "people", "shelter"}) {
            taken(LAW, "wet=" + name + ";");
            for (int at = 0; at < name.length(); at++) {
                lawFault("wet=" + otherLetter(name, at) + ";", 1, 4);
            }
        }
        String law = "wet=if not 1=1 and 1=1 or 1=1 then 1 else 2;";
        taken(LAW, law);
        for (int from : new int[] {4, 7, 15, 23, 30, 37}) {
            for (int at = from; law.charAt(at) != ' '; at++) {
                lawFault(otherLetter(law, at), 1, from);
            }
        }
    }

    private static void wordsAtTheVeryEnd() {
        streetFault(" ".repeat(597) + "hig", 1, 597);
        streetFault(" ".repeat(596) + "high", 1, 600);
        streetFault(" ".repeat(590) + "high 0 0 9", 1, 600);
        streetFault(" ".repeat(587) + "high 0 0 9;hi", 1, 598);
        rainFault(" ".repeat(597) + "rai", 1, 597);
        rainFault(" ".repeat(593) + "rain 20", 1, 600);
        lawFault(" ".repeat(592) + "wet=dept", 1, 596);
        lawFault(" ".repeat(591) + "wet=depth", 1, 600);
        lawFault(" ".repeat(591) + "wet=10000", 2, 595);
        lawFault(" ".repeat(592) + "wet=if 1", 1, 600);
    }

    private static void blanks() {
        due("ahead of all", street(new KerbSplash(), "   size   2   1   ;   high   1   0   9   ;   "), 2);
        due("ahead of none", street(new KerbSplash(), "size2 1;high1 0 9;"), 2);
        taken(RAIN, "  rain  1  2  ;  ");
        value("  if  [  1  =  2  ]  then  (  3  )  else  4  *  5  -  6  ", 14);
        for (int sign : new int[] {0, 9, 10, 13, 31, 33, 95, 127, 160, 255}) {
            String other = String.valueOf((char) sign);
            streetFault(other, 1, 0);
            streetFault("size 2 1;" + other, 1, 9);
            streetFault("size" + other + "2 1;", 1, 4);
            streetFault("size 2" + other + "1;", 1, 6);
            rainFault("rain 1 1" + other + ";", 1, 8);
            lawFault("wet=" + other + "1;", 1, 4);
            lawFault("wet=1" + other + ";", 1, 5);
        }
        streetFault("size 1 6;", 2, 5);
        streetFault("size     1 6;", 2, 9);
        streetFault("   sizes 1 6;", 1, 3);
    }

    private static void firstFromTheLeft() {
        streetFault("high 0 0 100;size 1 1;", 2, 9);
        streetFault("size 4 2;size 99 99;", 4, 9);
        streetFault("high 0 0 1;size x;", 4, 11);
        streetFault("shelter 0 1;shelter 0 1;shelter 9 9;high x;", 3, 24);
        streetFault("high 9 9 999;", 2, 5);
        streetFault("high 0 9 999;", 2, 7);
        streetFault("high 0 0 999", 2, 9);
        rainFault("rain 21 99;", 2, 5);
        rainFault("rain 1 99", 2, 7);
        lawFault("wet=10000;wet=1;", 2, 4);
        lawFault("wet=1;wet=10000;", 4, 6);
        lawFault("wet=((((((( 10000", 3, 10);
        lawFault("wet=((((((10000(", 2, 10);
    }

    private static void tooEarly() {
        String street = "size 4 2;drain 3 1 9 9;";
        for (int n = 10; n < street.length(); n++) {
            boolean inWord = n < 14;
            streetFault(street.substring(0, n), 1, inWord ? 9 : n);
        }
        streetFault("size 4 2;drain 3 1 9 9   ", 1, 25);
        String rain = "rain 12 3;";
        for (int n = 0; n < rain.length(); n++) {
            rainFault(rain.substring(0, n), 1, n == 0 ? 0 : n < 4 ? 0 : n);
        }
        String law = "out=if 1=1 then 2 else 3;";
        int[] places = {-1, 0, 0, 3, 4, 4, 6, 7, 8, 9, 10, 11, 11, 11, 11, 15, 16, 17, 18, 18, 18, 18, 22, 23, 24};
        for (int n = 1; n < law.length(); n++) {
            lawFault(law.substring(0, n), 1, places[n]);
        }
    }

    private static void ofOneTheLeast() {
        String most = "size2 1;drain0 0 1 0;" + "clear0 1;".repeat(8) + "high0 0 1;".repeat(50);
        streetFault(most + "size", 3, most.length());
        streetFault(most + "sized", 1, most.length());
        streetFault("raise 0 0 1 1;".repeat(8) + "raised", 1, 112);
        lawFault("wet=((((((1+if 1=1 then 1 else 2))))));", 1, 12);
        lawFault("wet=((((((1+[1))))));", 1, 12);
        lawFault("wet=((((((not 1))))));", 1, 10);
        lawFault("wet=1;wets=1;", 1, 6);
    }

    private static void openParentheses() {
        value("((((((4))))))", 4);
        lawFault("wet=(((((((4)))))));", 3, 10);
        lawFault("wet=  (  (  (  (  (  (  (", 3, 24);
        value("((((((4))))))+((((((5))))))", 9);
        value("((((((4)))+(((5))))))", 9);
        lawFault("wet=((((((4)))+((((5))))))));", 3, 18);
    }

    private static void openBrackets() {
        value("if [[[[[1=1]]]]] then 4 else 5", 4);
        lawFault("wet=if [[[[[[1=1]]]]]] then 4 else 5;", 3, 12);
        value("if [[[[[1=1]]]]] and [[[[[1=1]]]]] or [[[[[1=2]]]]] then 4 else 5", 4);
        value("if [1=1] and [1=1] and [1=1] and [1=1] and [1=1] and [1=1] and [1=1] and [1=1] then 4 else 5", 4);
        value("(if [1=1] and [1=1] and [1=1] and [1=1] and [1=1] and [1=1] and [1=1] and [1=1] then 4 else 5)", 4);
        lawFault("wet=if [[[[[1=(1)]]]]] then 4 else 5;", 3, 14);
        value("if [[[[1=(1)]]]] then 4 else 5", 4);
    }

    private static void openNots() {
        value("if not not not not not 1=1 then 4 else 5", 5);
        lawFault("wet=if not not not not not not 1=1 then 4 else 5;", 3, 27);
        value("if not 1=2 and not 1=2 and not 1=2 and not 1=2 and not 1=2 and not 1=2 and not 1=2 then 4 else 5", 4);
        value("if not 1=2 or not 1=2 or not 1=2 or not 1=2 or not 1=2 or not 1=2 or not 1=2 then 4 else 5", 4);
        value("if not 1=((((1)))) then 4 else 5", 5);
        lawFault("wet=if not 1=(((((1))))) then 4 else 5;", 3, 17);
        value("if not ((((1))))=1 then 4 else 5", 5);
        lawFault("wet=if not (((((1)))))=1 then 4 else 5;", 3, 15);
        value("if not 1=1 or 1=(((((1))))) then 4 else 5", 4);
        value("if not [not [not 1=1]] then 4 else 5", 5);
        lawFault("wet=if not [not [not [1=1]]] then 4 else 5;", 3, 21);
    }

    private static void openIfs() {
        String then = "if 1=1 then ";
        value(then.repeat(6) + "1" + " else 2".repeat(6), 1);
        lawFault("wet=" + then.repeat(7) + "1" + " else 2".repeat(7) + ";", 3, 4 + 6 * then.length());
        String other = "if 1=2 then 1 else ";
        value(other.repeat(6) + "9", 9);
        lawFault("wet=" + other.repeat(7) + "9;", 3, 4 + 6 * other.length());
        String inside = "if ";
        String rest = " then 1 else 0=1";
        value(inside.repeat(6) + "1=1" + rest.repeat(5) + " then 8 else 9", 8);
        lawFault("wet=" + inside.repeat(7) + "1=1" + rest.repeat(6) + " then 8 else 9;", 3, 4 + 18);
        StringBuilder waiting = new StringBuilder();
        for (int i = 1; i <= 6; i++) {
            waiting.append("if 1=2 or 1=1 and ").append(i).append('=');
        }
        // Six of them open, each with what stands to the left of its own sign.
        value(waiting + "2+2*2" + " then 1 else 0".repeat(6), 0);
        value(waiting + "2+2*2" + " then 5 else 0 then 4 else 0 then 3 else 0 then 2 else 0 then 1 else 0 then 77 else 0", 77);
        value("(if 1=1 then 1 else 2)+(if 1=1 then 1 else 2)+(if 1=1 then 1 else 2)+((((((1))))))", 4);
        value("if 1=1 then (((((1))))) else (((((2)))))", 1);
        lawFault("wet=if 1=1 then ((((((1)))))) else 2;", 3, 21);
        lawFault("wet=if 1=1 then 1 else ((((((2))))));", 3, 28);
        lawFault("wet=if ((((((1))))))=1 then 1 else 2;", 3, 12);
        value("if if 1=1 then 1 else 2=(((((1))))) then 3 else 4", 3);
        lawFault("wet=if if 1=1 then 1 else (((((2)))))=1 then 3 else 4;", 3, 30);
    }

    private static int says(String formula, int depth, int pace) {
        KerbSplash k = new KerbSplash();
        due("law " + formula, law(k, "reach=" + formula + ";"), 0);
        return k.says(0, 1, depth, pace, 0, 0, 0, 0, 0);
    }

    private static void valuesThatWrap() {
        due("most and 1", says("depth+1", MAX, 0), MIN);
        due("most and most", says("depth+depth", MAX, 0), -2);
        due("least less 1", says("depth-1", MIN, 0), MAX);
        due("0 less least", says("0-depth", MIN, 0), MIN);
        due("most by 2", says("depth*2", MAX, 0), -2);
        due("65536 by 65536", says("depth*depth", 65536, 0), 0);
        due("46341 by 46341", says("depth*pace", 46341, 46341), -2147479015);
        due("least by less 1", says("depth*pace", MIN, -1), MIN);
        due("a comparison of what wrapped", says("if depth+1<depth then 1 else 2", MAX, 0), 1);
        due("most against least", says("if depth<pace then 1 else 2", MIN, MAX), 1);
        due("least against most", says("if depth>pace then 1 else 2", MIN, MAX), 2);
    }

    private static void divisionCuts() {
        int[][] all = {{7, 2, 3}, {-7, 2, -3}, {7, -2, -3}, {-7, -2, 3}, {1, 2, 0}, {-1, 2, 0}, {MAX, 1, MAX},
            {MIN, 1, MIN}, {MIN, MAX, -1}, {MAX, MIN, 0}, {MIN, MIN, 1}, {6, 3, 2}, {5, 3, 1}};
        for (int[] one : all) {
            due(one[0] + " by " + one[1], says("depth/pace", one[0], one[1]), one[2]);
        }
        due("least by less 1 wraps", says("depth/pace", MIN, -1), MIN);
    }

    private static void divisionBy0() {
        due("7 by 0", says("depth/pace", 7, 0), 0);
        due("least by 0", says("depth/pace", MIN, 0), 0);
        due("0 by 0", says("depth/pace", 0, 0), 0);
        due("and on", says("depth/pace+5", 7, 0), 5);
        due("by what is 0 then", says("depth/(pace-pace)", 7, 3), 0);
        due("on the side that is not asked for", says("if 1=1 then 3 else 1/0", 7, 3), 3);
        due("in a condition", says("if 1=1 or 1/0=1 then 3 else 4", 7, 3), 3);
    }

    private static void onlyTheOneOfThenAndElse() {
        due("then", says("if depth>pace then depth-pace else pace-depth", 9, 4), 5);
        due("else", says("if depth>pace then depth-pace else pace-depth", 4, 9), 5);
        due("same", says("if depth>pace then depth-pace else 77", 4, 4), 77);
        due("inside", says("2*(if depth=1 then if pace=1 then 11 else 12 else 13)+1", 1, 2), 25);
        due("in then and else", says("if depth=1 then if pace=1 then 11 else 12 else if pace=1 then 13 else 14", 2, 1), 13);
        due("a choice in a condition", says("if if depth=1 then pace else 5=7 then 1 else 2", 1, 7), 1);
        due("behind its sign", says("if 7=if depth=1 then pace else 5 then 1 else 2", 1, 7), 1);
    }

    private static final String[] SENTENCES = {
        "THREE TEXTS of up to 600 bytes", "A STREET: at most 60", "a CLAUSE too many (at its word)",
        "size: cells along 2 to 16, rows 1 to 6", "8 and 3 without", "ahead of all others, once; size too late",
        "high: a CELL's height, 0 to 99; 50 without", "drain: 6 at most, R 1 to 99, L 0 to 16",
        "person: 8, F 0 to 19", "shelter: from X A to B, no less than A; 2 at most", "a WORK (8 at most)",
        "clear: a DRAIN's leaves are 0 then; C 1 to 99", "raise, lower: by N, 1 to 50", "to 99, 0 at most",
        "bore: R 1 to 99, never leaves, behind all others; 6 in all no matter",
        "A RAIN: N 0 to 20, T 1 to 30; 1 to 8 of them", "A LAW: each once at most", "U: N (0 to 9,999)",
        "E, T, C, D, B", "R: <, > or =", "what can't stand there", "Numbers: digits, as many as stand there",
        "WORDS: small letters, as many as stand there", "each letter of a word", "a word at the end of 600 bytes",
        "blanks (32) may stand ahead of all these, and at the end",
        "FAULTS, the first from the left, at its first byte", "at the length, if the text ends too early",
        "of one the least", "a 7th of ( open", "a 7th of [ open", "a 7th of not open, till its B ends",
        "a 7th of if open, till its E ends", "whole numbers of 32 bits that wrap", "/ cuts", "by 0 it is 0",
        "of then and else only the one"};

    private static final Runnable[] TESTS = {TextsTest::upTo600Bytes, TextsTest::clauses, TextsTest::clausesTooMany,
        TextsTest::size, TextsTest::sizeWithout, TextsTest::sizeAheadOfAllOnce, TextsTest::high, TextsTest::drains,
        TextsTest::persons, TextsTest::shelters, TextsTest::works, TextsTest::clearing, TextsTest::raisingAndLowering,
        TextsTest::to99And0AtMost, TextsTest::boring, TextsTest::rainPieces, TextsTest::lawWords,
        TextsTest::lawNumbers, TextsTest::formulas, TextsTest::relations, TextsTest::whereThingsCanStand,
        TextsTest::digits, TextsTest::words, TextsTest::everyLetter, TextsTest::wordsAtTheVeryEnd, TextsTest::blanks, TextsTest::firstFromTheLeft, TextsTest::tooEarly,
        TextsTest::ofOneTheLeast, TextsTest::openParentheses, TextsTest::openBrackets, TextsTest::openNots,
        TextsTest::openIfs, TextsTest::valuesThatWrap, TextsTest::divisionCuts, TextsTest::divisionBy0,
        TextsTest::onlyTheOneOfThenAndElse};

    public static void main(String[] args) {
        for (int i = 0; i < TESTS.length; i++) {
            about = SENTENCES[i];
            TESTS[i].run();
        }
        due("sentences", SENTENCES.length, TESTS.length);
        end(TESTS.length + " sentences of the texts");
    }
}
