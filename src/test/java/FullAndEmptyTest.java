import java.lang.reflect.InvocationTargetException;
import java.lang.reflect.Method;

/**
 * Nothing told, and as many told as may be: the widest street with all its drains, persons, shelters and works, the
 * longest rain, all of traffic, dips and images. Where an answer is too long to work out by hand, PlainKerb works it.
 */
public final class FullAndEmptyTest extends Checks {
    private static final String LONGEST_RAIN = "rain 20 30;".repeat(8);
    private static final String BLOCKED = "size 16 6;" + "drain15 5 99 16;".repeat(6) + "person15 19;".repeat(8)
        + "shelter0 15;shelter15 15;" + "bore15 5 99 99;".repeat(8);
    private static final String UNEVEN = "size 16 6;high15 5 0;high0 5 99;high8 2 9;high15 0 77;high3 3 20;drain15 5 9 16;"
        + "drain0 0 99 3;drain8 2 30 16;drain3 3 5 8;drain15 0 16 1;drain7 5 40 0;person15 19;person0 0;person8 3;"
        + "person8 0;person15 0;person1 9;person2 2;person14 1;shelter0 3;shelter8 15;clear5 9;clear0 7;lower15 5 50 3;"
        + "raise8 2 50 20;bore8 2 99 9;bore15 5 9 2;lower0 5 50 1;bore3 3 1 1;";
    private static final String LAW = "throw=depth;reach=pace/3+depth;wet=depth+30-far-9*shelter+pace/9+people;"
        + "slow=pace-depth;out=if people>0 then 2 else tyre-5;";

    private final KerbSplash face = new KerbSplash();
    private final PlainKerb plain = new PlainKerb();

    private static String answer(Object of, String name, int[] arguments) {
        Class<?>[] kinds = new Class<?>[arguments.length];
        Object[] boxed = new Object[arguments.length];
        for (int i = 0; i < arguments.length; i++) {
            kinds[i] = int.class;
            boxed[i] = arguments[i];
        }
        try {
            Method method = of.getClass().getMethod(name, kinds);
            return String.valueOf(method.invoke(of, boxed));
        } catch (InvocationTargetException thrown) {
            return thrown.getCause().getClass().getSimpleName();
        } catch (ReflectiveOperationException never) {
            return never.toString();
        }
    }

    private void both(String name, int... arguments) {
        checks++;
        String got = answer(face, name, arguments);
        String due = answer(plain, name, arguments);
        if (!got.equals(due)) {
            tell(name + java.util.Arrays.toString(arguments), got, due);
        }
    }

    private void bothTold(String kind, String text) {
        for (int from = 0; from < text.length(); from += 20) {
            int[] five = new int[5];
            for (int i = 0; i < 20; i++) {
                five[i / 4] = five[i / 4] << 8 | (from + i < text.length() ? text.charAt(from + i) : 0);
            }
            both("feed", five);
        }
        both(kind, text.length());
        both("fault");
    }

    private static void emptyStreet() {
        about = "a street of nothing";
        KerbSplash k = with("", "");
        rain(k, "rain 2 3;");
        int[] told = {8, 3, 0, 0, 0, 0, 1, 1, 0};
        for (int what = 0; what < 9; what++) {
            due("told(" + what + ")", k.told(what), told[what]);
        }
        due("deep", k.deep(0, 7, 2), 6);
        due("when", k.when(0, 7, 2, 6), 3);
        due("when never", k.when(0, 7, 2, 7), -1);
        due("blame", k.blame(0, 7, 2, 0), -1);
        due("blame by", k.blame(0, 7, 2, 1), 0);
        due("look", k.look(0, 0), -1);
        due("look kinds", k.look(0, 1), -1);
        due("stand", k.stand(0, 19, 0), 0);
        due("stand wet", k.stand(0, 19, 1), 0);
        due("pace", k.pace(0, 0, 1, 0), 60);
        due("moved", k.moved(0, 0), -15);
        due("moved wet", k.moved(0, 1), 0);
        due("mend", k.mend(0, 7, 2, 6, 0), 0);
        due("mend coin", k.mend(0, 7, 2, 6, 1), 0);
        due("mend none does", k.mend(0, 7, 2, 5, 0), -1);
        due("mend no coin does", k.mend(0, 7, 2, 5, 1), -1);
        due("pass", k.pass(0), 0);
        due("car", k.car(0, 2, 60, 9, 3), 0);
        due("clear", k.clear(), 0);
        due("town", k.town(0) + k.town(1) + k.town(2), -3);
        due("sweep", k.sweep(0) + k.sweep(1), 0);
        due("ice", k.ice(1, 0) + k.ice(1, 1) + k.ice(1, 2), 0);
        due("restore", k.restore(), -1);
        for (int what = 0; what < 4; what++) {
            due("sums(" + what + ")", k.sums(what), 0);
            due("count(" + what + ")", k.count(what), 0);
        }
        k.minutes(1, 20);
        due("20 on each", k.sums(0) + k.sums(3), 2 * 480);
        due("ice all over", k.ice(20, 0), 24);
        due("ice along", k.ice(20, 1), 8);
        due("nobody on it", k.ice(20, 2), 0);
        due("no ice of 21", k.ice(21, 0) + k.ice(21, 1), 0);
    }

    private static void fullStreet() {
        about = "a street of all there may be";
        KerbSplash k = with(BLOCKED, "throw=16;reach=20;wet=99;");
        due("the longest rain", rain(k, LONGEST_RAIN), 0);
        int[] told = {16, 6, 6, 8, 2, 8, 1, 1, 0};
        for (int what = 0; what < 9; what++) {
            due("told(" + what + ")", k.told(what), told[what]);
        }
        due("minutes", k.minutes(60, 20), 60);
        due("fallen", k.sums(0), 60 * 20 * 96);
        due("standing", k.sums(3), 60 * 20 * 96);
        due("ice", k.ice(1200, 0), 96);
        due("ice along", k.ice(1200, 1), 16);
        due("persons on it", k.ice(1200, 2), 8);
        due("no ice", k.ice(1201, 0) + k.ice(1201, 1) + k.ice(1201, 2), 0);
        due("deep", k.deep(0, 15, 5), 6000);
        due("when", k.when(0, 15, 5, 6000), 240);
        due("when never", k.when(0, 15, 5, 6001), -1);
        due("when 9999", k.when(0, 15, 5, 9999), -1);
        due("shower", k.shower(0), 240);
        due("shower", k.shower(0), 240);
        due("the rest", k.shower(0), 60);
        due("all that can fall", k.sums(0), 600 * 20 * 96);
        due("stands", k.sums(3), 600 * 20 * 96);
        due("in each cell", k.cell(15, 5, 1), 12000);
        due("ice of 9999", k.ice(9999, 0), 96);
        due("a sweeping", k.sweep(0), 40);
        due("of six", k.sweep(1), 12345);
        due("eight wet", k.car(0, 0, 60, 9, 0), 8 * 99);
        due("half of it gone", k.sums(2), 16 * 6000);
        for (int i = 0; i < 20; i++) {
            k.traffic(99, 0, 60, 9, 3);
        }
        k.pass(0);
        due("21 cars", k.person(7, 2), 21 * 99);
        due("hit as often", k.person(7, 3), 21);
        due("what fell is somewhere", k.sums(1) + k.sums(2) + k.sums(3), 600 * 20 * 96);
        for (int work = 7; work >= 0; work--) {
            due("does", k.does(work), 1);
        }
        due("14 drains", k.told(2), 14);
        due("the last", k.drain(13, 0) * 100 + k.drain(13, 1), 1505);
        due("looks at 600", k.look(0, 1), 1);
        due("stays out of reach", k.stand(0, 19, 1), 20 * 99);
    }

    private static void fourteenDrains() {
        about = "6 drains and 8 bored ones";
        KerbSplash k = with("size 2 1;high 0 0 99;" + "drain 1 0 1 0;".repeat(6) + "bore 1 0 2 1;".repeat(8), "");
        rain(k, "rain 13 2;");
        for (int work = 0; work < 8; work++) {
            k.does(work);
        }
        due("minutes", k.minutes(2, 13), 2);
        due("taken by all of them", k.sums(1), 2 * (6 + 16));
        due("deep", k.deep(0, 1, 0), 4 * (26 - 22));
        due("look", k.look(0, 0), 100);
        due("by those of 1 or of 2", k.look(0, 1), 2);
        due("none is to blame", k.blame(0, 1, 0, 0), -1);
        for (int drain = 0; drain < 6; drain++) {
            k.leaves(drain, 16);
        }
        due("taken by the bored ones", k.deep(0, 1, 0), 2 * (26 - 22) + 2 * (26 - 16));
        due("the first of six is to blame", k.blame(0, 1, 0, 0), 0);
        due("by 1 a minute", k.blame(0, 1, 0, 1), 2);
        due("a sweeping of six", k.sweep(1), 12345);
    }

    private static void oneMoreBehindEight() {
        about = "STAND with 8 persons and F to 19";
        KerbSplash k = with("size 2 1;" + "person 1 0;".repeat(8), "throw=16;reach=19;wet=1+people;");
        k.minutes(1, 1);
        k.traffic(0, 0, 1, 1, 0);
        due("the last F is out of reach", k.stand(0, 19, 0), 19);
        due("dry", k.stand(0, 19, 1), 0);
        due("one less is not", k.stand(0, 18, 0), 0);
        due("wet", k.stand(0, 18, 1), 2);
        KerbSplash beside = with("size 2 1;" + "person 1 0;".repeat(8), "throw=16;reach=99;wet=50-people-far;");
        beside.minutes(1, 1);
        beside.traffic(0, 0, 1, 1, 0);
        due("beside eight, as far as can be", beside.stand(0, 19, 0), 119);
        due("as one of nine", beside.stand(0, 19, 1), 50 - 9 - 19);
        due("they are still eight", beside.pass(0), 8 * (50 - 8));
    }

    private void tellTheFullest() {
        about = "the fullest street against the plain model";
        bothTold("street", UNEVEN);
        bothTold("law", LAW);
        bothTold("rain", LONGEST_RAIN);
        bothTold("rain", "rain 20 5;rain 0 1;rain 7 3;");
        both("minutes", 3, 9);
        for (int i = 0; i < 20; i++) {
            both("traffic", 5 * i + 4, i % 6, 1 + 3 * i, 1 + i % 9, i % 4);
        }
    }

    private void allCells(int what) {
        for (int at = 0; at < 96; at++) {
            both("cell", at % 16, at / 16, what);
        }
    }

    private void wouldComeOfIt() {
        int[][] cells = {{15, 5}, {0, 0}, {8, 2}, {15, 0}, {0, 5}};
        for (int[] cell : cells) {
            both("deep", 0, cell[0], cell[1]);
            both("when", 0, cell[0], cell[1], 400);
            both("when", 0, cell[0], cell[1], 9999);
            both("blame", 1, cell[0], cell[1], 0);
            both("blame", 1, cell[0], cell[1], 1);
            both("mend", 1, cell[0], cell[1], 40, 0);
            both("mend", 1, cell[0], cell[1], 10, 1);
        }
        for (int what = 0; what < 2; what++) {
            both("look", 1, what);
            both("stand", 0, 19, what);
            both("moved", 0, what);
            both("sweep", what);
        }
        for (int row = 0; row < 6; row++) {
            both("pace", 0, row, 9, 60);
            both("pace", 0, row, 1, 300);
            both("meant", 0, 15, row, 30, 5, 30, 9);
            both("meant", 0, 0, row, 60, 0, 60, 1);
        }
    }

    private void fullest() {
        tellTheFullest();
        wouldComeOfIt();
        both("pass", 0);
        allCells(1);
        for (int work = 0; work < 8; work++) {
            both("does", work);
        }
        both("told", 2);
        wouldComeOfIt();
        allCells(2);
        for (int person = 0; person < 8; person++) {
            both("person", person, 2);
            both("person", person, 3);
        }
        for (int what = 0; what < 4; what++) {
            both("sums", what);
            both("count", what);
        }
    }

    private static void fullTown() {
        about = "a town of 9 dips";
        KerbSplash k = new KerbSplash();
        for (int i = 0; i < 9; i++) {
            due("a dip", k.dip(1 + i, 1, 99), i + 1);
        }
        due("none late", k.town(0), 0);
        due("the most persons first", k.town(2), 876543210);
        due("together", k.town(1), 9 + 16 + 21 + 24 + 25 + 24 + 21 + 16 + 9);
        due("a tenth", k.dip(1, 1, 1), -1);
        due("a new street", street(k, ""), 24);
        due("no dips", k.town(2), -1);
        k.dip(1, 30, 99);
        due("one alone", k.town(1), 30);
        due("its order", k.town(2), 0);
        k.dip(99, 30, 29);
        due("one of two is late all ways", k.town(0), 1);
        due("together, the second first", k.town(1), 99 * 30 + 60);
        due("though it is late", k.town(2), 10);
        KerbSplash most = new KerbSplash();
        for (int i = 0; i < 9; i++) {
            most.dip(99, 30, 1);
        }
        due("all nine late", most.town(0), 9);
        due("the most there is", most.town(1), 99 * 30 * 45);
        due("the first order", most.town(2), 12345678);
    }

    public static void main(String[] args) {
        emptyStreet();
        fullStreet();
        fourteenDrains();
        oneMoreBehindEight();
        fullTown();
        new FullAndEmptyTest().fullest();
        end("nothing told, and as many as may be");
    }
}
