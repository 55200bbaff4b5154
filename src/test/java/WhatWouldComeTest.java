/** What the document says of what would come of it, of a town, of sweeping and of ice: the edges, sentence by sentence. */
public final class WhatWouldComeTest extends Checks {
    // All that falls runs to X 1, as long as there are no more than some 40.
    private static final String DIP = "size 2 1;high 0 0 99;";

    private static KerbSplash atMinute(String street, int minute) {
        KerbSplash k = with(street);
        for (int left = minute; left > 0; left -= 60) {
            k.minutes(Math.min(60, left), 0);
        }
        due("minutes gone", k.told(8), minute);
        return k;
    }

    private static void toMinute600() {
        String street = DIP + "drain 1 0 9 16;clear 0 5;";
        for (int minute = 560; minute <= 600; minute++) {
            KerbSplash k = atMinute(street, minute);
            rain(k, "rain 1 10;");
            int deep = 2 * Math.min(10, 600 - minute);
            due("deep", k.deep(0, 1, 0), deep);
            due("when so deep", deep == 0 ? -1 : k.when(0, 1, 0, deep), deep == 0 ? -1 : deep / 2);
            due("when deeper", k.when(0, 1, 0, deep + 1), -1);
            due("blame", k.blame(0, 1, 0, 0), deep == 0 ? -1 : 0);
            due("blame by", k.blame(0, 1, 0, 1), deep);
            due("mend to nothing", k.mend(0, 1, 0, 0, 0), deep == 0 ? 0 : 1);
            due("the minute is as it was", k.told(8), minute);
        }
    }

    private static void lookToMinute600() {
        String street = DIP + "drain 1 0 1 0;drain 1 0 2 0;";
        for (int minute = 598; minute <= 600; minute++) {
            KerbSplash k = atMinute(street, minute);
            rain(k, "rain 1 10;");
            due("kinds", k.look(0, 1), minute == 600 ? 1 : 2);
            due("where", k.look(0, 0), minute == 600 ? 0 : 100);
        }
    }

    private static void depth() {
        KerbSplash k = with(DIP + "drain 1 0 9 0;");
        rain(k, "rain 10 1;rain 0 1;");
        rain(k, "rain 10 1;");
        due("behind all of it", k.deep(0, 1, 0), 20 - 9 - 9);
        due("behind the other", k.deep(1, 1, 0), 20 - 9);
        due("where it ran off", k.deep(1, 0, 0), 0);
        k.minutes(1, 5);
        due("from now on", k.deep(1, 1, 0), 1 + 20 - 9);
    }

    private static void when() {
        KerbSplash k = with(DIP + "drain 1 0 4 0;");
        rain(k, "rain 0 2;rain 3 2;rain 0 1;");
        // Behind the minutes 0, 0, 2, 4, 0.
        due("1", k.when(0, 1, 0, 1), 3);
        due("2", k.when(0, 1, 0, 2), 3);
        due("3", k.when(0, 1, 0, 3), 4);
        due("4", k.when(0, 1, 0, 4), 4);
        due("5", k.when(0, 1, 0, 5), -1);
        due("9999", k.when(0, 1, 0, 9999), -1);
        k.minutes(1, 3);
        due("1 now", k.when(0, 1, 0, 1), 0);
        due("2 now", k.when(0, 1, 0, 2), 0);
        due("3 not yet", k.when(0, 1, 0, 3), 4);
    }

    private static void blame() {
        int[][] rains = {{7, -1, 0}, {8, 0, 1}, {9, 0, 1}};
        for (int[] one : rains) {
            KerbSplash k = with(DIP + "drain 1 0 16 1;");
            rain(k, "rain " + one[0] + " 1;");
            due("of rain " + one[0], k.blame(0, 1, 0, 0), one[1]);
            due("by", k.blame(0, 1, 0, 1), one[2]);
        }
        KerbSplash same = with(DIP + "drain 0 0 9 9;drain 1 0 8 8;drain 1 0 8 8;");
        rain(same, "rain 9 1;");
        due("of the same the first", same.blame(0, 1, 0, 0), 1);
        due("by 4", same.blame(0, 1, 0, 1), 4);
        KerbSplash least = with(DIP + "drain 1 0 8 8;drain 1 0 9 16;drain 1 0 8 8;");
        rain(least, "rain 9 1;");
        due("the least", least.blame(0, 1, 0, 0), 1);
        due("by 9", least.blame(0, 1, 0, 1), 9);
        least.leaves(1, 0);
        due("without leaves it is not to blame", least.blame(0, 1, 0, 0), 0);
        KerbSplash dry = with(DIP + "drain 1 0 8 8;");
        rain(dry, "rain 0 30;");
        due("nothing less than nothing", dry.blame(0, 1, 0, 0), -1);
    }

    private static void look() {
        KerbSplash one = with(DIP + "drain 1 0 9 9;");
        rain(one, "rain 9 1;");
        due("one drain: anywhere", one.look(0, 0), 0);
        due("one kind", one.look(0, 1), 1);
        KerbSplash alike = with(DIP + "drain 1 0 9 9;drain 1 0 9 0;");
        rain(alike, "rain 9 1;");
        due("two that take as much: anywhere", alike.look(0, 0), 0);
        due("one kind of it", alike.look(0, 1), 1);
        KerbSplash firstX = with("size 3 3;drain 2 0 9 0;drain 1 2 9 0;");
        rain(firstX, "rain 9 1;");
        due("of two cells that with the less X", firstX.look(0, 0), 102);
        KerbSplash firstY = with("size 3 3;drain 1 2 9 0;drain 1 1 9 0;");
        rain(firstY, "rain 9 1;");
        due("of one X that with the less Y", firstY.look(0, 0), 101);
        KerbSplash most = with("size 3 1;drain 0 0 9 0;drain 2 0 5 0;drain 2 0 6 0;");
        rain(most, "rain 9 1;");
        due("the most kinds", most.look(0, 0), 200);
        due("three", most.look(0, 1), 3);
        KerbSplash bored = with("size 3 1;bore 1 0 4 1;");
        rain(bored, "rain 9 1;");
        due("no drains", bored.look(0, 0), -1);
        due("no kinds", bored.look(0, 1), -1);
        bored.does(0);
        due("a bored one is one", bored.look(0, 1), 1);
    }

    private static void stand() {
        KerbSplash k = with("size 3 2;", "throw=16;reach=3;wet=7-far;");
        k.minutes(1, 1);
        k.traffic(0, 0, 1, 1, 0);
        due("F 0 alone", k.stand(0, 0, 0), 0);
        due("wet", k.stand(0, 0, 1), 7);
        due("F to 2", k.stand(0, 2, 0), 2);
        due("less wet", k.stand(0, 2, 1), 5);
        due("F to 3 is out of reach", k.stand(0, 3, 0), 3);
        due("dry", k.stand(0, 3, 1), 0);
        due("F to 19", k.stand(0, 19, 0), 3);
        KerbSplash last = with("size 16 1;shelter 15 15;", "throw=16;reach=99;wet=30-shelter-far;");
        last.minutes(1, 1);
        last.traffic(0, 0, 1, 1, 0);
        due("the last X and F", last.stand(0, 19, 0), 1519);
        due("wet by", last.stand(0, 19, 1), 10);
    }

    private static void pace() {
        KerbSplash one = with("size 2 1;person 0 0;", "throw=16;reach=9;wet=pace;");
        one.minutes(1, 1);
        int[][] ofOne = {{0, -1}, {1, 1}, {2, 2}, {59, 59}, {60, 60}, {61, 60}, {9999, 60}};
        for (int[] n : ofOne) {
            due("one by " + n[0], one.pace(0, 0, 1, n[0]), n[1]);
        }
        KerbSplash two = with("size 2 1;person 0 0;person 1 0;", "throw=16;reach=9;wet=pace;");
        two.minutes(1, 1);
        int[][] ofTwo = {{0, -1}, {1, -1}, {2, 1}, {3, 1}, {4, 2}, {119, 59}, {120, 60}};
        for (int[] n : ofTwo) {
            due("two in all by " + n[0], two.pace(0, 0, 1, n[0]), n[1]);
        }
        KerbSplash dry = with("size 2 1;person 0 0;", "throw=16;reach=9;wet=pace;");
        due("no water", dry.pace(0, 0, 1, 0), 60);
    }

    private static void moved() {
        String law = "throw=16;reach=9;wet=20-shelter;";
        int[][] steps = {{0, 15, 15}, {15, 0, -15}, {7, 7, 0}, {0, 0, 0}, {15, 15, 0}, {3, 9, 6}};
        for (int[] one : steps) {
            KerbSplash k = with("size 16 1;person " + one[0] + " 0;shelter " + one[1] + " " + one[1] + ";", law);
            k.minutes(1, 1);
            k.traffic(0, 0, 1, 1, 0);
            due("from " + one[0] + " to " + one[1], k.moved(0, 0), one[2]);
            due("wet", k.moved(0, 1), 19);
        }
        KerbSplash held = with("size 4 1;person 0 0;person 2 0;shelter 0 0;shelter 3 3;", law);
        held.minutes(1, 1);
        held.traffic(0, 0, 1, 1, 0);
        due("as wet by 0 as by 1, nobody off the street", held.moved(0, 0), 0);
        due("in all", held.moved(0, 1), 39);
        KerbSplash both = with("size 3 1;person 0 0;person 2 0;", law);
        due("at both ends", both.moved(0, 0), 0);
        due("nobody: the least step of all", with("size 2 1;", law).moved(0, 0), -15);
    }

    private static void mend() {
        KerbSplash k = with(DIP + "bore 1 0 3 5;bore 1 0 4 5;bore 1 0 5 10;bore 1 0 3 5;");
        rain(k, "rain 5 1;");
        int[][] all = {{10, 0, 0}, {9999, 0, 0}, {9, 1, 5}, {7, 1, 5}, {6, 2, 5}, {5, 3, 10}, {4, 3, 10}, {3, 3, 10},
            {2, 5, 15}, {1, 6, 15}, {0, 11, 15}};
        for (int[] n : all) {
            due("bits to " + n[0], k.mend(0, 1, 0, n[0], 0), n[1]);
            due("coin to " + n[0], k.mend(0, 1, 0, n[0], 1), n[2]);
        }
        k.does(1);
        due("what is done needs no coin", k.mend(0, 1, 0, 6, 1), 0);
        due("and is in no set", k.mend(0, 1, 0, 5, 0), 1);
        due("two of the same coin", k.mend(0, 1, 0, 1, 0), 4);
        due("all that is left", k.mend(0, 1, 0, 0, 0), 9);
        KerbSplash none = with(DIP + "bore 1 0 9 99;");
        rain(none, "rain 5 1;");
        due("one is left", none.mend(0, 1, 0, 1, 0), 1);
        due("its coin", none.mend(0, 1, 0, 1, 1), 99);
        due("none does", none.mend(0, 1, 0, 0, 0), -1);
        due("for no coin", none.mend(0, 1, 0, 0, 1), -1);
    }

    private static void meant() {
        int[][] shares = {{1, 1, 1, 1, 250}, {1, 1, 0, 1, 333}, {0, 0, 1, 2, 666}, {99, 99, 99, 1, 3}, {99, 99, 99, 0, 0},
            {0, 0, 0, 99, 1000}, {0, 0, 0, 0, 0}, {99, 0, 0, 99, 500}, {1, 0, 0, 99, 990}, {99, 99, 99, 99, 250}};
        for (int[] one : shares) {
            KerbSplash k = with("size 2 2;", "slow=pace;");
            for (int kind = 0; kind < 4; kind++) {
                due("1 at first", k.share(kind, one[kind]), 1);
            }
            due(java.util.Arrays.toString(one), k.meant(0, 1, 0, 60, 0, 60, 9), one[4]);
            due("in another row", k.meant(0, 1, 1, 60, 0, 60, 9), 0);
            due("with another pace", k.meant(0, 1, 0, 59, 0, 60, 9), 0);
            due("from row 1 only these come", k.meant(0, 1, 0, 60, 1, 60, 9), one[3] == 0 ? 0 : 1000);
        }
    }

    private static void inTime() {
        KerbSplash k = new KerbSplash();
        k.dip(1, 1, 1);
        k.dip(99, 1, 2);
        due("both in time", k.town(0), 0);
        due("though the other order is less", k.town(1), 1 + 198);
        due("the first is first", k.town(2), 1);
        KerbSplash edge = new KerbSplash();
        edge.dip(1, 30, 60);
        edge.dip(2, 30, 60);
        due("on the day itself", edge.town(0), 0);
        due("the less of the two orders", edge.town(2), 10);
        KerbSplash past = new KerbSplash();
        past.dip(1, 30, 59);
        past.dip(2, 30, 59);
        due("a day behind it", past.town(0), 1);
    }

    private static void late() {
        KerbSplash k = new KerbSplash();
        k.dip(99, 30, 29);
        due("late by itself", k.town(0), 1);
        k.dip(1, 1, 1);
        due("one, not two", k.town(0), 1);
        due("so it waits for the other", k.town(2), 10);
        due("together", k.town(1), 1 + 99 * 31);
        k.dip(1, 1, 1);
        due("two at least", k.town(0), 2);
        due("of these the least together", k.town(2), 102);
        due("together then", k.town(1), 1 + 99 * 31 + 32);
    }

    private static void numberByNumber() {
        KerbSplash k = new KerbSplash();
        for (int i = 0; i < 9; i++) {
            k.dip(2, 2, 99);
            StringBuilder order = new StringBuilder();
            for (int j = 0; j <= i; j++) {
                order.append(j);
            }
            due("the first order of " + (i + 1), k.town(2), Integer.parseInt(order.toString()));
        }
    }

    private static void sweeping() {
        KerbSplash home = with("drain 0 0 1 1;");
        due("at X 0, row 0", home.sweep(0), 0);
        due("its number", home.sweep(1), 0);
        KerbSplash second = with("drain 7 2 1 0;drain 0 0 1 1;");
        due("no way", second.sweep(0), 0);
        due("number 1", second.sweep(1), 1);
        KerbSplash far = with("size 16 6;drain 15 5 1 16;");
        due("there and back", far.sweep(0), 40);
        far.leaves(0, 0);
        due("not without leaves", far.sweep(0), 0);
        far.leaves(0, 1);
        due("one leaf is enough", far.sweep(0), 40);
        KerbSplash round = with("size 9 4;drain 8 3 1 1;drain 8 0 1 1;drain 0 3 1 1;");
        due("round about", round.sweep(0), 22);
        due("of two ways the first", round.sweep(1), 102);
        KerbSplash same = with("drain 3 1 1 1;".repeat(6));
        due("six at one place", same.sweep(0), 8);
        due("in their order", same.sweep(1), 12345);
    }

    private static void ice() {
        KerbSplash k = with("size 3 2;drain 0 0 99 0;drain 1 0 99 0;drain 1 1 99 0;drain 2 1 99 0;person 2 0;person 0 5;"
            + "person 2 19;person 1 0;");
        k.minutes(1, 5);
        due("of 5", k.ice(5, 0), 2);
        due("of 6", k.ice(6, 0), 0);
        due("of 1", k.ice(1, 0), 2);
        due("a row does not go on in the next", k.ice(5, 1), 1);
        due("only row 0 counts", k.ice(5, 2), 2);
        due("nobody on 6", k.ice(6, 2), 0);
        KerbSplash rows = with("size 5 2;drain 2 0 99 0;");
        rows.minutes(1, 5);
        due("all but one", rows.ice(5, 0), 9);
        due("the longest is row 1", rows.ice(5, 1), 5);
        KerbSplash parts = with("size 6 1;drain 2 0 99 0;");
        parts.minutes(1, 5);
        due("two and three", parts.ice(5, 1), 3);
        due("the later one is as long as it is", parts.ice(5, 0), 5);
    }

    private static final String[] SENTENCES = {"RAINS from now on, at most to MINUTE 600", "LOOK at most to MINUTE 600",
        "DEPTH of a CELL behind a RAIN", "WHEN: n or more for the first time; 0 now; NONE never",
        "BLAME: least, of these the first, if less than as it is", "LOOK: the most kinds, of these the first",
        "STAND: of all X, and F 0 to a told number", "PACE: the greatest (to 60); n in all; NONE",
        "MOVED: -15 to 15, nobody off the street, the first from the least", "MEND: least coin, n or less, least by bits",
        "MEANT: of 1,000 (cut); 0, if none would", "FIRST: each is done by its DAY, if there are any",
        "FIRST: else by which the fewest are late", "FIRST: of these the first (number by number)",
        "SWEEPING: to all DRAINS that have leaves, and back", "ICE: WATER of n or more"};

    private static final Runnable[] TESTS = {WhatWouldComeTest::toMinute600, WhatWouldComeTest::lookToMinute600,
        WhatWouldComeTest::depth, WhatWouldComeTest::when, WhatWouldComeTest::blame, WhatWouldComeTest::look,
        WhatWouldComeTest::stand, WhatWouldComeTest::pace, WhatWouldComeTest::moved, WhatWouldComeTest::mend,
        WhatWouldComeTest::meant, WhatWouldComeTest::inTime, WhatWouldComeTest::late, WhatWouldComeTest::numberByNumber,
        WhatWouldComeTest::sweeping, WhatWouldComeTest::ice};

    public static void main(String[] args) {
        for (int i = 0; i < TESTS.length; i++) {
            about = SENTENCES[i];
            TESTS[i].run();
        }
        due("sentences", SENTENCES.length, TESTS.length);
        end(TESTS.length + " sentences of what would come");
    }
}
