/** What the document says of water, cars and traffic, sentence by sentence: the edges that each of them names. */
public final class WaterAndCarsTest extends Checks {
    private static final String MOST = "9999*9999*21+9999*4790+8416";
    private static final String LEAST = "0-(" + MOST + ")-1";

    /** So many rounds go by, and nothing else: the car throws nothing. */
    private static void rounds(KerbSplash k, int n) {
        k.clear();
        k.traffic(n, 0, 1, 1, 0);
        k.pass(0);
        k.clear();
    }

    private static void row(String what, KerbSplash k, int y, int... water) {
        for (int x = 0; x < water.length; x++) {
            due(what + ", water at " + x + " " + y, k.cell(x, y, 1), water[x]);
        }
    }

    /** A flat street with so much water in each cell, on which all works are then done. */
    private static KerbSplash worked(String street, int water) {
        KerbSplash k = with(street, "");
        k.minutes(1, water);
        for (int work = 0; work < k.told(5); work++) {
            k.does(work);
        }
        return k;
    }

    private static void surface() {
        KerbSplash k = with("size 2 1;high 0 0 0;high 1 0 99;");
        due("no water at first", k.cell(0, 0, 1) + k.cell(1, 0, 1) + k.sums(3), 0);
        due("0", k.cell(0, 0, 2), 0);
        due("99", k.cell(1, 0, 2), 99);
        for (int i = 0; i < 10; i++) {
            k.minutes(60, 20);
        }
        due("all that can fall stands", k.sums(3), 2 * 600 * 20);
        due("a surface far above 99", k.cell(0, 0, 2), k.cell(0, 0, 1));
    }

    private static void higherBy2() {
        for (int by = 1; by <= 9; by++) {
            KerbSplash k = worked("size 2 1;lower 1 0 " + by + " 1;", 10);
            rounds(k, 1);
            row("X 1 lower by " + by, k, 0, 10 - by / 2, 10 + by / 2);
            KerbSplash m = worked("size 2 1;lower 0 0 " + by + " 1;", 10);
            rounds(m, 1);
            row("X 0 lower by " + by, m, 0, 10 + by / 2, 10 - by / 2);
            KerbSplash r = worked("size 2 2;lower 0 1 " + by + " 1;lower 1 1 " + by + " 1;", 10);
            rounds(r, 1);
            row("row 1 lower by " + by, r, 1, 10 + by / 2, 10 + by / 2);
        }
    }

    private static void noMoreThanThereIs() {
        int[][] all = {{1, 50, 1}, {2, 50, 2}, {1, 4, 1}, {2, 4, 2}, {3, 4, 2}, {20, 50, 20}, {20, 40, 20}, {20, 39, 19}};
        for (int[] one : all) {
            KerbSplash k = worked("size 2 1;lower 1 0 " + one[1] + " 1;", one[0]);
            rounds(k, 1);
            row(one[0] + " and lower by " + one[1], k, 0, one[0] - one[2], one[0] + one[2]);
        }
        KerbSplash dry = worked("size 2 1;lower 1 0 50 1;", 0);
        rounds(dry, 99);
        row("none", dry, 0, 0, 0);
    }

    private static void theFirstOfTheLeast() {
        KerbSplash left = worked("size 3 3;raise 1 1 10 1;", 20);
        rounds(left, 1);
        row("X less 1 ahead of all", left, 1, 25, 15, 20);
        KerbSplash right = worked("size 3 3;raise 1 1 10 1;raise 0 1 10 1;", 20);
        rounds(right, 1);
        row("X and 1 ahead of Y less 1: 5 go there, of which 2 run on", right, 1, 15, 15, 23);
        row("Y less 1 ahead of Y and 1", right, 0, 25, 20, 22);
        KerbSplash up = worked("size 3 3;raise 1 1 10 1;raise 0 1 10 1;raise 2 1 10 1;", 20);
        rounds(up, 1);
        row("Y less 1 ahead of Y and 1", up, 0, 25, 25, 25);
        row("nothing comes to row 2", up, 2, 20, 20, 20);
        KerbSplash down = worked("size 3 3;raise 1 1 10 1;raise 0 1 10 1;raise 2 1 10 1;raise 1 0 10 1;", 20);
        rounds(down, 1);
        row("Y and 1 as the last", down, 2, 25, 23, 22);
        KerbSplash lower = worked("size 3 3;raise 1 1 10 1;lower 1 2 5 1;", 20);
        rounds(lower, 1);
        row("a lower one ahead of the first", lower, 1, 20, 13, 20);
        row("of which 1 runs on", lower, 2, 21, 26, 20);
    }

    private static void cellByCell() {
        KerbSplash along = worked("size 3 1;lower 1 0 10 1;lower 2 0 30 1;", 8);
        rounds(along, 1);
        row("by X", along, 0, 3, 1, 20);
        KerbSplash across = worked("size 2 3;lower 0 1 10 1;lower 1 1 10 1;lower 0 2 30 1;lower 1 2 30 1;", 8);
        rounds(across, 1);
        row("row 0 first", across, 0, 3, 3);
        row("then row 1", across, 1, 1, 1);
        row("then row 2", across, 2, 20, 20);
    }

    private static void eachNeighbourByItsOwnWater() {
        KerbSplash left = with("size 3 1;drain 0 0 99 0;", "");
        left.minutes(1, 10);
        row("all but X 0", left, 0, 0, 10, 10);
        rounds(left, 1);
        row("runs to X 0", left, 0, 5, 7, 8);
        KerbSplash right = with("size 3 1;drain 2 0 99 0;", "");
        right.minutes(1, 10);
        rounds(right, 1);
        row("runs to X 2; X 0 came ahead of it", right, 0, 10, 5, 5);
        KerbSplash up = with("size 2 3;drain 0 0 99 0;drain 1 0 99 0;", "");
        up.minutes(1, 10);
        rounds(up, 1);
        row("runs to row 0", up, 0, 5, 5);
        row("from row 1, to which comes some of row 2", up, 1, 7, 7);
        row("of which 8 stay", up, 2, 8, 8);
        KerbSplash down = with("size 2 3;drain 0 2 99 0;drain 1 2 99 0;", "");
        down.minutes(1, 10);
        rounds(down, 1);
        row("runs to row 2", down, 2, 5, 5);
        row("row 1", down, 1, 5, 5);
        row("row 0 comes ahead of it", down, 0, 10, 10);
    }

    private static void alwaysOn() {
        KerbSplash k = with("size 3 1;drain 0 0 99 0;drain 1 0 99 0;lower 0 0 40 1;lower 1 0 20 1;", "");
        k.minutes(1, 5);
        k.does(0);
        k.does(1);
        row("all but X 2 is dry", k, 0, 0, 0, 5);
        rounds(k, 1);
        row("all that there is runs", k, 0, 0, 5, 0);
        rounds(k, 1);
        row("and runs on", k, 0, 5, 0, 0);
        KerbSplash two = with("size 3 1;drain 0 0 99 0;drain 1 0 99 0;lower 0 0 40 1;lower 1 0 20 1;", "");
        two.minutes(1, 5);
        two.does(0);
        two.does(1);
        rounds(two, 2);
        row("in two rounds at once, too", two, 0, 5, 0, 0);
    }

    private static void eightRounds() {
        StringBuilder stairs = new StringBuilder("size 16 1;high 0 0 0;");
        for (int x = 1; x < 16; x++) {
            stairs.append("high ").append(x).append(" 0 ").append(20 + 5 * x).append(';');
        }
        KerbSplash k = with(stairs.toString(), "");
        k.minutes(1, 1);
        row("what stands 8 steps away", k, 0, 9, 1, 1, 1, 1, 1, 1, 1, 0, 0, 0, 0, 0, 0, 0, 0);
        rounds(k, 6);
        row("6 rounds more", k, 0, 15, 1, 0);
        rounds(k, 1);
        row("7 rounds more", k, 0, 16, 0, 0);
    }

    private static void drainsBehindTheRounds() {
        KerbSplash k = with("size 2 1;drain 0 0 99 0;");
        k.minutes(1, 5);
        row("nothing runs to it any more", k, 0, 0, 5);
        k.minutes(1, 5);
        row("but in the next minute", k, 0, 0, 8);
        due("taken", k.sums(1), 12);
    }

    private static void whatDrainsTake() {
        int[][] all = {{99, 0, 40}, {40, 0, 40}, {39, 0, 39}, {99, 16, 0}, {99, 15, 6}, {16, 15, 1}, {15, 15, 0},
            {1, 1, 0}, {1, 0, 1}, {32, 15, 2}, {31, 15, 1}, {2, 8, 1}, {1, 8, 0}, {3, 8, 1}, {99, 1, 40}, {17, 1, 15}};
        for (int[] one : all) {
            KerbSplash k = with("size 2 1;high 0 0 99;drain 1 0 " + one[0] + " " + one[1] + ";");
            k.minutes(1, 20);
            due("R " + one[0] + " with leaves " + one[1], k.sums(1), one[2]);
            due("left of 40", k.cell(1, 0, 1), 40 - one[2]);
            due("standing", k.sums(3), 40 - one[2]);
        }
        KerbSplash two = with("size 2 1;high 0 0 99;drain 1 0 30 0;drain 1 0 30 0;");
        two.minutes(1, 20);
        due("two of them no more than there is", two.sums(1), 40);
        KerbSplash dry = with("size 2 1;drain 1 0 99 0;");
        dry.minutes(60, 0);
        due("nothing of nothing", dry.sums(1), 0);
    }

    private static void sixHundredMinutes() {
        KerbSplash k = with("size 2 1;");
        for (int i = 0; i < 9; i++) {
            due("60", k.minutes(60, 1), 60);
        }
        due("59", k.minutes(59, 1), 59);
        due("599", k.told(8), 599);
        due("one is left", k.minutes(60, 20), 1);
        due("600", k.told(8), 600);
        due("fallen", k.sums(0), 2 * (599 + 20));
        refused("one more", STATE, () -> k.minutes(1, 1));
        due("600 still", k.told(8), 600);
    }

    private static KerbSplash flat(int depth, int rows, String people, String law) {
        KerbSplash k = with("size 2 " + rows + ";" + people, law);
        k.minutes(1, depth);
        return k;
    }

    private static void thrown() {
        String[] says = {"16", "17", "9999", MOST, "0", "0-1", LEAST, "1", "15", "4"};
        int[] share = {16, 16, 16, 16, 0, 0, 0, 1, 15, 4};
        for (int i = 0; i < says.length; i++) {
            for (int depth : new int[] {0, 1, 2, 3, 4, 15, 16, 17, 19, 20}) {
                int due = depth * share[i] / 16;
                String what = "throw=" + says[i] + " of " + depth;
                KerbSplash k = flat(depth, 2, "person 0 0;", "throw=" + says[i] + ";reach=9;wet=1;");
                due(what + ", more wet", k.car(0, 0, 9, 1, 0), due > 0 ? 1 : 0);
                due(what + ", hit", k.person(0, 3), due > 0 ? 1 : 0);
                row(what, k, 0, depth - due, depth - due);
                row(what + ", half of it", k, 1, depth + due / 2, depth + due / 2);
                due(what + ", gone", k.sums(2), 2 * (due - due / 2));
                KerbSplash last = flat(depth, 2, "person 0 0;", "throw=" + says[i] + ";reach=9;wet=1;");
                last.car(0, 1, 9, 1, 0);
                row(what + " in the last row", last, 1, depth - due, depth - due);
                row(what + ", row 0", last, 0, depth, depth);
                due(what + ", gone from the last row", last.sums(2), 2 * due);
            }
        }
    }

    private static void theNextRow() {
        KerbSplash k = flat(16, 6, "", "throw=16;");
        k.car(0, 4, 9, 1, 0);
        row("thrown from", k, 4, 0, 0);
        row("into the next", k, 5, 24, 24);
        row("not into the one ahead", k, 3, 16, 16);
        k.car(0, 5, 9, 1, 0);
        row("the last", k, 5, 0, 0);
        row("nothing back", k, 4, 0, 0);
        row("nor to row 0", k, 0, 16, 16);
        due("gone", k.sums(2), 2 * (8 + 24));
        KerbSplash one = flat(16, 1, "", "throw=16;");
        one.car(0, 0, 9, 1, 0);
        due("of one row", one.sums(2), 32);
    }

    private static void reach() {
        String[] says = {"0", "3", "4", "5", "6", "0-1", LEAST, MOST, "21", "22"};
        int[] most = {0, 3, 4, 5, 6, -1, Integer.MIN_VALUE, Integer.MAX_VALUE, 21, 22};
        for (int i = 0; i < says.length; i++) {
            for (int feet : new int[] {0, 1, 2, 3, 4, 19}) {
                for (int row = 0; row < 3; row++) {
                    KerbSplash k = flat(16, 3, "person 1 " + feet + ";", "throw=16;reach=" + says[i] + ";wet=1;");
                    String what = "reach=" + says[i] + ", F " + feet + " and row " + row;
                    due(what, k.car(0, row, 9, 1, 0), feet + row < most[i] ? 1 : 0);
                }
            }
        }
        KerbSplash none = flat(16, 1, "person 0 0;", "throw=16;wet=9;");
        due("reach is not told", none.car(0, 0, 9, 1, 0) + none.person(0, 3), 0);
    }

    private static void wet() {
        String[] says = {"0", "1", "98", "99", "100", "9999", "0-1", LEAST, MOST};
        int[] due = {0, 1, 98, 99, 99, 99, 0, 0, 99};
        for (int i = 0; i < says.length; i++) {
            KerbSplash k = flat(1, 1, "person 0 0;person 0 0;", "throw=16;reach=1;wet=" + says[i] + ";");
            due("wet=" + says[i] + ", both", k.car(0, 0, 9, 1, 0), 2 * due[i]);
            due("the first", k.person(0, 2), due[i]);
            due("the second", k.person(1, 2), due[i]);
            due("hit", k.person(0, 3), 1);
        }
        KerbSplash all = flat(1, 1, "person 0 0;".repeat(8), "throw=16;reach=1;wet=99;");
        due("eight of them", all.car(0, 0, 9, 1, 0), 8 * 99);
        due("no water, so no more", all.car(0, 0, 9, 1, 0), 0);
        all.minutes(1, 1);
        all.car(0, 0, 9, 1, 0);
        due("more and more wet, beyond 99", all.person(7, 2), 198);
        due("hit twice", all.person(7, 3), 2);
        KerbSplash none = flat(1, 1, "person 0 0;", "throw=16;reach=1;");
        due("wet is not told", none.car(0, 0, 9, 1, 0), 0);
        due("but hit", none.person(0, 3), 1);
    }

    private static void shelters() {
        KerbSplash k = with("size 8 1;shelter 2 3;shelter 5 6;person 1 0;person 2 0;person 3 0;person 4 0;person 5 0;"
            + "person 6 0;person 7 0;person 0 0;", "throw=16;reach=1;wet=1+10*shelter;");
        k.minutes(1, 1);
        k.car(0, 0, 9, 1, 0);
        int[] due = {1, 11, 11, 1, 11, 11, 1, 1};
        for (int person = 0; person < 8; person++) {
            due("person " + person, k.person(person, 2), due[person]);
        }
        KerbSplash both = with("size 3 1;shelter 0 1;shelter 1 2;person 1 0;", "throw=16;reach=1;wet=shelter;");
        both.minutes(1, 1);
        due("within two is 1", both.car(0, 0, 9, 1, 0), 1);
        KerbSplash wide = with("size 4 1;shelter 0 3;shelter 1 2;person 0 0;person 3 0;", "throw=16;reach=1;wet=shelter;");
        wide.minutes(1, 1);
        due("the ends of the wider one", wide.car(0, 0, 9, 1, 0), 2);
    }

    private static void people() {
        KerbSplash k = with("size 3 1;" + "person 1 0;".repeat(7) + "person 2 0;", "throw=16*people;reach=1;wet=people;");
        k.minutes(1, 1);
        due("7 by 7 and 1 by 1", k.car(0, 0, 9, 1, 0), 50);
        row("nobody, nothing", k, 0, 1, 0, 0);
        KerbSplash all = with("size 2 1;" + "person 1 0;".repeat(8), "throw=16;reach=1;wet=people;");
        all.minutes(1, 1);
        due("8 by 8", all.car(0, 0, 9, 1, 0), 64);
    }

    private static void far() {
        KerbSplash k = with("size 2 3;shelter 0 1;person 0 3;person 1 19;",
            "throw=16-16*far-16*shelter;reach=99+9999*far+9999*shelter;wet=far;slow=5+far+shelter;out=1+far+shelter;");
        k.minutes(1, 1);
        due("F and row 0", k.car(0, 0, 9, 1, 0), 3 + 19);
        due("F and row 2", k.car(0, 2, 9, 1, 0), 5 + 21);
        KerbSplash slow = with("size 2 3;shelter 0 1;person 0 3;", "throw=16;reach=99;wet=pace;slow=5+far+shelter;");
        slow.minutes(1, 1);
        due("neither is known to slow", slow.car(0, 0, 9, 1, 1), 5);
        KerbSplash out = with("size 2 3;shelter 0 1;person 0 3;", "throw=16;reach=99;wet=row;out=1+far+shelter;");
        out.minutes(1, 1);
        due("nor to out", out.car(0, 0, 9, 1, 2), 1);
        KerbSplash nearer = with("size 2 1;person 0 9;person 0 3;", "throw=16;reach=5-far;wet=1+far;");
        nearer.minutes(1, 1);
        due("nor to reach of the next", nearer.car(0, 0, 9, 1, 0), 4);
    }

    private static void slows() {
        String[] says = {"0", "1", "2", "8", "9", "10", "9999", "0-1", MOST, LEAST, "pace", "pace-1", "pace+1"};
        int[] due = {1, 1, 2, 8, 9, 9, 9, 1, 9, 1, 9, 8, 9};
        for (int i = 0; i < says.length; i++) {
            String law = "throw=16;reach=9;wet=pace;slow=" + says[i] + ";";
            due("slow=" + says[i], flat(1, 1, "person 0 0;", law).car(0, 0, 9, 1, 1), due[i]);
            due("a pace of 1", flat(1, 1, "person 0 0;", law).car(0, 0, 1, 1, 1), 1);
            for (int kind : new int[] {0, 2, 3}) {
                due("kind " + kind + " does not slow", flat(1, 1, "person 0 0;", law).car(0, 0, 9, 1, kind), 9);
            }
        }
        KerbSplash none = flat(1, 1, "person 0 0;", "throw=16;reach=9;wet=pace;");
        due("slow is not told", none.car(0, 0, 60, 1, 1), 1);
        KerbSplash that = flat(1, 1, "person 0 0;", "throw=if pace=4 then 16 else 0;reach=pace;wet=pace;slow=4;");
        due("throw, reach and wet are of that pace", that.car(0, 0, 60, 1, 1), 4);
        KerbSplash own = flat(1, 1, "person 0 0;", "throw=16;reach=9;wet=pace;slow=pace/2;");
        due("slow is of its own pace", own.car(0, 0, 60, 1, 1), 30);
        due("at X 1, too", own.cell(1, 0, 1), 0);
    }

    private static void steers() {
        String[] says = {"0", "1", "2", "3", "9999", MOST, "0-1", "0-2", "0-3", LEAST};
        int[] by = {0, 1, 2, 3, 9, 9, -1, -2, -3, -9};
        for (int i = 0; i < says.length; i++) {
            for (int row = 0; row < 3; row++) {
                String law = "throw=16;reach=99;wet=row+1;out=" + says[i] + ";";
                int due = Math.max(0, Math.min(2, row + by[i]));
                KerbSplash k = flat(1, 3, "person 0 0;", law);
                due("out=" + says[i] + " in row " + row, k.car(0, row, 9, 1, 2), due + 1);
                row("thrown from there", k, due, 0, 0);
                due("slows", flat(1, 3, "person 0 0;", law).car(0, row, 9, 1, 1), row + 1);
                due("plain", flat(1, 3, "person 0 0;", law).car(0, row, 9, 1, 0), row + 1);
                due("means it", flat(1, 3, "person 0 0;", law).car(0, row, 9, 1, 3), 1);
            }
        }
        due("out is not told", flat(1, 3, "person 0 0;", "throw=16;reach=9;wet=row+1;").car(0, 1, 9, 1, 2), 2);
        KerbSplash k = flat(1, 3, "person 0 0;", "throw=16;reach=9;wet=1;out=people;");
        k.car(0, 0, 9, 1, 2);
        row("at each X anew, row 0", k, 0, 1, 0);
        row("row 1", k, 1, 0, 1);
    }

    private static void depthOfThatCell() {
        String walls = "size 2 3;high 0 1 60;high 1 1 60;high 0 2 80;high 1 2 80;person 0 0;";
        KerbSplash k = with(walls, "throw=8;reach=depth+1;wet=depth;out=depth;slow=depth;");
        k.minutes(1, 3);
        row("all ran to row 0", k, 0, 9, 9);
        due("the water ahead of it", k.car(0, 0, 9, 1, 0), 9);
        row("what it leaves", k, 0, 5, 5);
        row("what fell into row 1", k, 1, 2, 2);
        // A car in row 1 steers by the 2 there to row 2, where none is; in row 2 it steers by none.
        due("out is of its own row", k.car(0, 1, 9, 1, 2), 0);
        row("row 1 as it was", k, 1, 2, 2);
        due("slow, too", k.car(0, 1, 9, 1, 1), 2);
        due("one that means it is at the kerb", k.car(0, 2, 9, 1, 3), 5);
    }

    private static void traffic() {
        KerbSplash k = with("size 2 1;person 0 0;", "throw=16;reach=9;wet=1;");
        k.minutes(1, 1);
        for (int i = 1; i <= 20; i++) {
            due("a car", k.traffic(i % 2 == 0 ? 0 : 99, 0, i, 1, 0), i);
        }
        due("a 21st", k.traffic(0, 0, 1, 1, 0), -1);
        due("20", k.count(0), 20);
        due("the first throws all", k.pass(0), 1);
        k.minutes(1, 1);
        due("they stay", k.pass(0), 1);
        due("20 went", k.clear(), 20);
        due("none is left", k.pass(0), 0);
    }

    private static void eachCarAsTold() {
        String law = "throw=4;reach=99;wet=pace+10*tyre+30*row;slow=1;out=1;";
        int[][] cars = {{0, 5, 2, 0, 25}, {1, 5, 2, 0, 55}, {0, 7, 1, 0, 17}, {0, 6, 3, 1, 31}, {0, 6, 3, 2, 66},
            {1, 6, 3, 2, 66}, {1, 9, 5, 3, 59}, {1, 1, 1, 0, 41}, {0, 60, 3, 0, 90}, {0, 1, 9, 0, 91}};
        int all = 0;
        KerbSplash k = flat(20, 2, "person 0 0;", law);
        k.minutes(20, 20);
        for (int[] car : cars) {
            KerbSplash one = flat(20, 2, "person 0 0;", law);
            due("a car in traffic", one.traffic(0, car[0], car[1], car[2], car[3]), 1);
            due("row, pace, tyre, kind " + java.util.Arrays.toString(car), one.pass(0), car[4]);
            k.traffic(3, car[0], car[1], car[2], car[3]);
            all += car[4];
        }
        due("all of them", k.pass(0), all);
    }

    /** One half is emptied by a car, so that the water of the other half runs there for long. */
    private static KerbSplash halfEmpty() {
        StringBuilder people = new StringBuilder("size 16 1;");
        for (int x = 8; x < 16; x++) {
            people.append("person ").append(x).append(" 0;");
        }
        KerbSplash k = with(people.toString(), "throw=16*people;");
        law(k, "");
        for (int i = 0; i < 5; i++) {
            k.minutes(60, 20);
        }
        k.car(0, 0, 1, 1, 0);
        row("one half", k, 0, 6000, 6000, 6000, 6000, 6000, 6000, 6000, 6000, 0, 0, 0, 0, 0, 0, 0, 0);
        return k;
    }

    private static boolean isSame(KerbSplash one, KerbSplash other) {
        for (int x = 0; x < 16; x++) {
            if (one.cell(x, 0, 1) != other.cell(x, 0, 1)) {
                return false;
            }
        }
        return true;
    }

    private static void roundsAheadOfACar() {
        for (int n : new int[] {0, 1, 2, 50, 98, 99}) {
            KerbSplash atOnce = halfEmpty();
            atOnce.traffic(n, 0, 1, 1, 0);
            atOnce.pass(1);
            KerbSplash oneByOne = halfEmpty();
            oneByOne.traffic(1, 0, 1, 1, 0);
            for (int i = 0; i < n; i++) {
                oneByOne.pass(1);
            }
            due(n + " rounds", isSame(atOnce, oneByOne) ? 1 : 0, 1);
            oneByOne.pass(1);
            due(n + " are not one more", isSame(atOnce, oneByOne) ? 1 : 0, 0);
        }
    }

    private static final String[] SENTENCES = {"WATER 0 at first; its SURFACE: height and WATER",
        "if its own is higher by 2 or more, half of that (cut) goes there", "no more than there is",
        "that with the least SURFACE, of these the first", "CELL by CELL (row 0 first, in a row by X)",
        "of its neighbours, each with its own WATER", "a ROUND behind one in which all ran",
        "A MINUTE: rain falls, then 8 ROUNDS", "then DRAINS take",
        "R by (16 less leaves) by 16 (cut), no more than there is", "MINUTES: 600 at most",
        "THROWN as many of 16 as throw says (held to 0 .. 16; cut)", "half (cut) falls into the next row, if there is one",
        "HIT is each PERSON at X whose F and the row are less than reach says", "what wet says (held to 0 .. 99)",
        "shelter: 1 if X is within one, else 0", "people: how many PERSONS are at X", "far, shelter: 0 but of wet",
        "SLOWS: what slow says, held to 1 .. its pace", "STEERS: not wrapping, held to 0 .. the last row",
        "depth: the WATER of that CELL, ahead of it", "TRAFFIC: CARS, 20 at most",
        "each CAR of TRAFFIC with its row, pace, tyre, KIND", "ROUNDS (0 to 99) that go by ahead"};

    private static final Runnable[] TESTS = {WaterAndCarsTest::surface, WaterAndCarsTest::higherBy2,
        WaterAndCarsTest::noMoreThanThereIs, WaterAndCarsTest::theFirstOfTheLeast, WaterAndCarsTest::cellByCell,
        WaterAndCarsTest::eachNeighbourByItsOwnWater, WaterAndCarsTest::alwaysOn,
        WaterAndCarsTest::eightRounds, WaterAndCarsTest::drainsBehindTheRounds, WaterAndCarsTest::whatDrainsTake,
        WaterAndCarsTest::sixHundredMinutes, WaterAndCarsTest::thrown, WaterAndCarsTest::theNextRow,
        WaterAndCarsTest::reach, WaterAndCarsTest::wet, WaterAndCarsTest::shelters, WaterAndCarsTest::people,
        WaterAndCarsTest::far, WaterAndCarsTest::slows, WaterAndCarsTest::steers, WaterAndCarsTest::depthOfThatCell,
        WaterAndCarsTest::traffic, WaterAndCarsTest::eachCarAsTold,
        WaterAndCarsTest::roundsAheadOfACar};

    public static void main(String[] args) {
        for (int i = 0; i < TESTS.length; i++) {
            about = SENTENCES[i];
            TESTS[i].run();
        }
        due("sentences", SENTENCES.length, TESTS.length);
        end(TESTS.length + " sentences of water and cars");
    }
}
