/** For each promise of the document: ordinary inputs, the edges it names, and wrong inputs; worked out by hand. */
public final class PromisesTest extends Checks {
    private static final String DRY_LAW = "throw=8;reach=99;wet=5;";

    private static void newObject() {
        KerbSplash k = new KerbSplash();
        for (int what = 0; what <= 8; what++) {
            due("told(" + what + ")", k.told(what), 0);
        }
        due("fault()", k.fault(), -1);
        for (int what = 0; what <= 3; what++) {
            due("sums(" + what + ")", k.sums(what), 0);
            due("status(" + what + ")", k.status(what), 0);
            due("count(" + what + ")", k.count(what), 0);
            due("share(" + what + ", 1)", k.share(what, 1), 1);
        }
        refused("cell(0, 0, 0)", OUTSIDE, () -> k.cell(0, 0, 0));
        refused("minutes(1, 0)", STATE, () -> k.minutes(1, 0));
        due("NONE", KerbSplash.NONE, -1);
    }

    private static void feeding() {
        KerbSplash k = new KerbSplash();
        for (int i = 1; i <= 30; i++) {
            due("feed " + i, k.feed(0, 0, 0, 0, 0), 20 * i);
        }
        due("feed beyond 600", k.feed(0, 0, 0, 0, 0), -1);
        due("count(3)", k.count(3), 600);
        KerbSplash m = new KerbSplash();
        // "size" " 2 1" ";hig" "h 1 " "0 7;"
        m.feed(0x73697a65, 0x20322031, 0x3b686967, 0x68203120, 0x3020373b);
        due("street(20)", m.street(20), 2);
        due("cell(1, 0, 0)", m.cell(1, 0, 0), 7);
        m.feed(-1, -1, -1, -1, -1);
        due("a street of bytes 255", m.street(20), -9);
        due("its fault", m.fault(), 0);
    }

    private static void streetTexts() {
        due("an empty street", street(new KerbSplash(), ""), 24);
        due("a street of blanks", street(new KerbSplash(), "   "), 24);
        due("the widest", street(new KerbSplash(), "size 16 6;"), 96);
        due("the least", street(new KerbSplash(), "size 2 1;"), 2);
        due("no blanks", street(new KerbSplash(), "size4 2;high0 1 9;"), 8);
        due("blanks all over", street(new KerbSplash(), "  size  4  2  ;  high 0 1 9 ;  "), 8);
        due("leading zeros", street(new KerbSplash(), "size 00000000000000000004 02;"), 8);
        streetFault("high 0 0 1;size 4 2;", 4, 11);
        streetFault("size 4 2;size 4 2;", 4, 9);
        streetFault("size 1 2;", 2, 5);
        streetFault("size 17 2;", 2, 5);
        streetFault("size 4 0;", 2, 7);
        streetFault("size 4 7;", 2, 7);
        streetFault("size 99999999999999999999 7;", 2, 5);
        streetFault("size 4 2", 1, 8);
        streetFault("size 4 2  ", 1, 10);
        streetFault("size 42;", 2, 5);
        streetFault("size 4;", 1, 6);
        streetFault("size", 1, 4);
        streetFault("sizes 4 2;", 1, 0);
        streetFault(" Size 4 2;", 1, 1);
        streetFault("size 4 2;;", 1, 9);
        streetFault("size 4 2 3;", 1, 9);
        streetFault("rain 1 1;", 1, 0);
        streetFault("high 8 0 1;", 2, 5);
        streetFault("high 0 3 1;", 2, 7);
        streetFault("high 0 0 100;", 2, 9);
        streetFault("high 0 0 -1;", 1, 9);
        streetFault("drain 0 0 0 1;", 2, 10);
        streetFault("drain 0 0 100 1;", 2, 10);
        streetFault("drain 0 0 1 17;", 2, 12);
        streetFault("person 8 0;", 2, 7);
        streetFault("person 0 20;", 2, 9);
        streetFault("shelter 2 1;", 2, 10);
        streetFault("shelter 2 8;", 2, 10);
        streetFault("shelter 8 8;", 2, 8);
        streetFault("clear 0 5;", 2, 6);
        streetFault("drain 0 0 1 1;clear 1 5;", 2, 20);
        streetFault("drain 0 0 1 1;clear 0 0;", 2, 22);
        streetFault("raise 8 0 1 1;", 2, 6);
        streetFault("raise 0 3 1 1;", 2, 8);
        streetFault("raise 0 0 0 1;", 2, 10);
        streetFault("raise 0 0 51 1;", 2, 10);
        streetFault("lower 0 0 51 1;", 2, 10);
        streetFault("lower 0 0 50 100;", 2, 13);
        streetFault("bore 0 0 0 1;", 2, 9);
        streetFault("bore 0 0 100 1;", 2, 9);
    }

    private static void streetLimits() {
        String drain = "drain 0 0 1 1;";
        streetFault(drain.repeat(7), 3, 6 * 14);
        streetFault("person 0 0;".repeat(9), 3, 8 * 11);
        streetFault("shelter 0 0;".repeat(3), 3, 2 * 12);
        streetFault("raise 0 0 1 1;".repeat(8) + "bore 0 0 1 1;", 3, 8 * 14);
        due("8 works", with(drain.repeat(6) + "bore 0 0 1 1;".repeat(4) + "clear 5 1;".repeat(4)).told(5), 8);
        String most = "size2 1;drain0 0 1 0;" + "clear0 1;".repeat(8) + "high0 0 1;".repeat(50);
        due("60 clauses", street(new KerbSplash(), most), 2);
        streetFault(most + "high", 3, most.length());
        streetFault(most + "size", 3, most.length());
        streetFault(most + "hig", 1, most.length());
        due("600 bytes", street(new KerbSplash(), "high0 0 1;".repeat(60)), 24);
    }

    private static void streetState() {
        KerbSplash k = with("size 4 2;drain 0 0 5 5;person 1 1;shelter 0 1;bore 0 0 1 1;high 0 0 1;", DRY_LAW);
        rain(k, "rain 1 1;");
        refused("street(1)", ARGUMENT, () -> k.street(1));
        feed(k, "size");
        refused("street(21)", ARGUMENT, () -> k.street(21));
        refused("street(-1)", ARGUMENT, () -> k.street(-1));
        due("the tape stays", k.count(3), 20);
        due("street(4)", k.street(4), -9);
        due("the tape is empty", k.count(3), 0);
        k.minutes(2, 3);
        k.does(0);
        k.traffic(0, 0, 1, 1, 0);
        k.dip(1, 1, 1);
        k.share(0, 7);
        k.image();
        k.car(0, 0, 9, 1, 0);
        due("a faulty one", street(k, "person;"), -9);
        due("minutes stay", k.told(8), 2);
        due("dips stay", k.count(1), 1);
        due("a new one", street(k, "size 3 1;"), 3);
        int[] told = {3, 1, 0, 0, 0, 0, 1, 1, 0};
        for (int what = 0; what <= 8; what++) {
            due("told(" + what + ")", k.told(what), told[what]);
        }
        for (int what = 0; what <= 3; what++) {
            due("sums(" + what + ")", k.sums(what), 0);
            due("count(" + what + ")", k.count(what), 0);
        }
        due("share(0, 1)", k.share(0, 1), 1);
        due("restore()", k.restore(), -1);
        due("height", k.cell(0, 0, 0), 50);
        due("status stays", k.status(2), 3);
    }

    private static void streetsOneBehindAnother() {
        String full = "size 3 1;high 0 0 99;drain 1 0 9 5;person 0 0;person 1 0;shelter 0 1;clear 0 1;bore 1 0 3 1;";
        KerbSplash k = with(full, "throw=16;reach=9;wet=9;");
        k.minutes(3, 5);
        k.does(0);
        k.does(1);
        k.car(0, 0, 1, 1, 0);
        // A street is told while the one ahead of it, then the second one ahead of it has water, wet persons and works.
        for (int i = 0; i < 3; i++) {
            due("a faulty one", street(k, full + "high"), -9);
            due("again", street(k, full), 3);
            int[] told = {3, 1, 1, 2, 1, 2, 0, 1, 0};
            for (int what = 0; what <= 8; what++) {
                due("told(" + what + ")", k.told(what), told[what]);
            }
            for (int what = 0; what < 4; what++) {
                due("sums(" + what + ")", k.sums(what), 0);
            }
            due("no water", k.cell(0, 0, 1) + k.cell(1, 0, 1) + k.cell(2, 0, 1), 0);
            due("dry", k.person(0, 2) + k.person(1, 2) + k.person(0, 3) + k.person(1, 3), 0);
            due("leaves", k.drain(0, 3), 5);
            due("work 0 is to do", k.does(0), 1);
            due("work 1 is to do", k.does(1), 1);
            k.minutes(3, 5);
            k.car(0, 0, 1, 1, 0);
            k.minutes(1, 20);
            due("some of it stands", k.cell(2, 0, 1) > 0 ? 1 : 0, 1);
        }
        due("one without all that", street(k, "bore 0 0 5 5;"), 24);
        int[] told = {8, 3, 0, 0, 0, 1, 0, 1, 0};
        for (int what = 0; what <= 8; what++) {
            due("told(" + what + ") then", k.told(what), told[what]);
        }
        due("its height", k.cell(0, 0, 0), 50);
        k.does(0);
        refused("no leaves for the only drain, a bored one", ARGUMENT, () -> k.leaves(0, 0));
        due("nothing to sweep", k.sweep(0), 0);
        feed(k, "high 0 0 1;");
        due("n 0 with bytes on the tape", k.street(0), 24);
        due("the tape is empty", k.count(3), 0);
    }

    private static void rainBehindAFaultyOne() {
        KerbSplash k = with("size 2 1;");
        due("a faulty one of many minutes", rain(k, "rain 20 30;rain 20 30;rain"), -9);
        due("a good one of two", rain(k, "rain 3 1;rain 0 1;"), 0);
        due("never by what the faulty one told", k.when(0, 0, 0, 4), -1);
        due("deep", k.deep(0, 0, 0), 3);
        due("two minutes", k.shower(0), 2);
        due("and so much", k.sums(0), 6);
    }

    private static void lawBehindAFaultyOne() {
        KerbSplash k = new KerbSplash();
        String sum = "1+".repeat(297) + "1";
        for (int i = 0; i < 4; i++) {
            due("a faulty one of 599 bytes", law(k, "wet=" + sum), -9);
            due("its fault", k.fault(), 599);
            due("a faulty one with more sayings", law(k, "throw=1;reach=2;slow=3;out=4;out"), -6);
            due("a good one of 600 bytes", law(k, "wet=" + sum + ";"), i);
            due("what it says", k.says(i, 2, 0, 0, 0, 0, 0, 0, 0), 298);
            for (int what : new int[] {0, 1, 3, 4}) {
                due("not what the faulty one told", k.says(i, what, 0, 0, 0, 0, 0, 0, 0), 0);
            }
        }
        due("the first still says so", k.says(0, 2, 0, 0, 0, 0, 0, 0, 0), 298);
    }

    private static void rains() {
        KerbSplash k = new KerbSplash();
        due("the first", rain(k, "rain 0 1;"), 0);
        due("the second", rain(k, " rain20 30 ; "), 1);
        rainFault("", 1, 0);
        rainFault("   ", 1, 3);
        rainFault("rain 21 1;", 2, 5);
        rainFault("rain 0 0;", 2, 7);
        rainFault("rain 0 31;", 2, 7);
        rainFault("rain 0 1", 1, 8);
        rainFault("rain 0;", 1, 6);
        rainFault("snow 0 1;", 1, 0);
        rainFault("rain 0 1;".repeat(9), 3, 72);
        rainFault("rain 0 1;".repeat(8) + "rainy", 1, 72);
        due("eight pieces", rain(k, "rain 0 1;".repeat(8)), 2);
        due("the fourth", rain(k, "rain 1 1;"), 3);
        due("a fifth", rain(k, "rain 1 1;"), -1);
        due("told(6)", k.told(6), 4);
        due("its tape", k.count(3), 0);
        due("a fifth that can't stand is not read", rain(k, "rain 21 1;"), -1);
        due("its fault", k.fault(), -1);
        due("its tape", k.count(3), 0);
        due("a fifth of none", rain(k, ""), -1);
        due("a faulty street", street(k, "size 1;"), -8);
        due("its fault", k.fault(), 5);
        due("a fifth behind it", rain(k, "snow"), -1);
        due("tells no fault", k.fault(), -1);
        due("a law still has its faults", law(k, "wet=;"), -9);
        due("at its place", k.fault(), 4);
        refused("rain(1)", ARGUMENT, () -> k.rain(1));
        refused("rain(-1)", ARGUMENT, () -> k.rain(-1));
    }

    private static void lawTexts() {
        lawFault("wet=1;wet=2;", 4, 6);
        lawFault("out=if 1=1 then 1;", 1, 17);
        lawFault("depth=1;", 1, 0);
        lawFault("wet 1;", 1, 4);
        lawFault("wet=;", 1, 4);
        lawFault("wet=1", 1, 5);
        lawFault("wet=1 2;", 1, 6);
        lawFault("wet=10000;", 2, 4);
        lawFault("wet=1+;", 1, 6);
        lawFault("wet=-1;", 1, 4);
        lawFault("wet=1<2;", 1, 5);
        lawFault("wet=(1;", 1, 6);
        lawFault("wet=1);", 1, 5);
        lawFault("wet=wet;", 1, 4);
        lawFault("wet=1+if 1=1 then 1 else 2;", 1, 6);
        lawFault("wet=if 1 then 1 else 2;", 1, 9);
        lawFault("wet=if [1=1 then 1 else 2;", 1, 12);
        lawFault("wet=if (1=1) then 1 else 2;", 1, 9);
        lawFault("wet=if 1=1 or then 1 else 2;", 1, 14);
        lawFault("wet=notx;", 1, 4);
        due("an empty law", law(new KerbSplash(), ""), 0);
        due("all in any order", law(new KerbSplash(), "out=1;slow=2;wet=3;reach=4;throw=9999;"), 0);
        due("no blanks", law(new KerbSplash(), "wet=if1=1and2=2then2else3;"), 0);
        KerbSplash k = new KerbSplash();
        for (int i = 0; i < 4; i++) {
            due("law " + i, law(k, "wet=" + i + ";"), i);
        }
        due("a fifth", law(k, "wet=9;"), -1);
        due("a fifth that can't stand is not read", law(k, "wet=9;;"), -1);
        due("its fault", k.fault(), -1);
        due("its tape", k.count(3), 0);
        due("told(7)", k.told(7), 4);
        due("a rain still has its faults", rain(k, "rain 1;"), -9);
        due("at its place", k.fault(), 6);
        due("a fifth behind it", law(k, "("), -1);
        due("tells no fault", k.fault(), -1);
        due("the fourth is as it was", k.says(3, 2, 0, 0, 0, 0, 0, 0, 0), 3);
        refused("law(1)", ARGUMENT, () -> k.law(1));
        refused("law(-1)", ARGUMENT, () -> k.law(-1));
    }

    private static void lawsOpen() {
        value("((((((1))))))", 1);
        lawFault("wet=(((((((1)))))));", 3, 10);
        value("(1)+(1)+(1)+(1)+(1)+(1)+(1)", 7);
        value("if not not not not not 1=1 then 1 else 2", 2);
        lawFault("wet=if not not not not not not 1=1 then 1 else 2;", 3, 27);
        lawFault("wet=if [[[[[[1=1]]]]]] then 1 else 2;", 3, 12);
        value("if [[[[[1=1]]]]] and [1=1] then 1 else 2", 1);
        String chain = "if 1=2 then 1 else ";
        value(chain.repeat(6) + "9", 9);
        lawFault("wet=" + chain.repeat(7) + "9;", 3, 4 + 6 * chain.length());
        // An if stays open in its else, a not only till its own test ends.
        value("if not 1=1 and not 1=1 and not 1=1 and not 1=1 and not 1=1 and not 1=1 and not 1=1 then 1 else 2", 2);
        lawFault("wet=" + chain.repeat(6) + "(9);", 3, 4 + 6 * chain.length());
        lawFault("wet=(((((((", 3, 10);
        lawFault("wet=(((((( (", 3, 11);
    }

    private static void faults() {
        KerbSplash k = new KerbSplash();
        due("without a text", k.fault(), -1);
        law(k, "wet=1");
        due("behind a faulty one", k.fault(), 5);
        refused("law(1)", ARGUMENT, () -> k.law(1));
        due("behind none", k.fault(), 5);
        rain(k, "rain 1 1;");
        due("behind a good one", k.fault(), -1);
        street(k, "high 0 0 0;;");
        due("behind a faulty street", k.fault(), 11);
        street(k, "");
        due("behind a good street", k.fault(), -1);
    }

    private static void tellings() {
        KerbSplash k = with("size 5 4;drain 0 0 1 1;drain 1 1 1 1;person 0 0;person 0 1;person 0 2;shelter 0 4;"
            + "bore 0 0 1 1;clear 1 1;raise 0 0 1 1;lower 0 0 1 1;", "wet=1;");
        rain(k, "rain 1 1;");
        k.minutes(7, 0);
        int[] told = {5, 4, 2, 3, 1, 4, 1, 1, 7};
        for (int what = 0; what <= 8; what++) {
            due("told(" + what + ")", k.told(what), told[what]);
        }
        k.does(0);
        due("a bored one, too", k.told(2), 3);
        refused("told(9)", ARGUMENT, () -> k.told(9));
        refused("told(-1)", ARGUMENT, () -> k.told(-1));
    }

    private static void cells() {
        KerbSplash k = with("size 3 2;high 2 1 0;high 0 0 99;");
        k.minutes(1, 1);
        due("height", k.cell(0, 0, 0), 99);
        due("height without", k.cell(1, 0, 0), 50);
        due("the lowest", k.cell(2, 1, 0), 0);
        due("water", k.cell(2, 1, 1), 4);
        due("its surface", k.cell(2, 1, 2), 4);
        due("a surface", k.cell(0, 0, 2), 99);
        refused("cell(3, 0, 0)", OUTSIDE, () -> k.cell(3, 0, 0));
        refused("cell(0, 2, 0)", OUTSIDE, () -> k.cell(0, 2, 0));
        refused("cell(-1, 0, 0)", OUTSIDE, () -> k.cell(-1, 0, 0));
        refused("cell(0, -1, 9)", OUTSIDE, () -> k.cell(0, -1, 9));
        refused("cell(0, 0, 3)", ARGUMENT, () -> k.cell(0, 0, 3));
        refused("cell(0, 0, -1)", ARGUMENT, () -> k.cell(0, 0, -1));
    }

    private static void drains() {
        KerbSplash k = with("drain 7 2 99 16;drain 0 1 1 0;bore 3 2 44 5;");
        int[][] due = {{7, 2, 99, 16}, {0, 1, 1, 0}, {3, 2, 44, 0}};
        refused("drain(2, 0)", NO_SUCH, () -> k.drain(2, 0));
        refused("leaves(2, 0)", NO_SUCH, () -> k.leaves(2, 0));
        k.does(0);
        for (int drain = 0; drain < 3; drain++) {
            for (int what = 0; what < 4; what++) {
                due("drain(" + drain + ", " + what + ")", k.drain(drain, what), due[drain][what]);
            }
        }
        refused("drain(3, 9)", NO_SUCH, () -> k.drain(3, 9));
        refused("drain(-1, 0)", NO_SUCH, () -> k.drain(-1, 0));
        refused("drain(0, 4)", ARGUMENT, () -> k.drain(0, 4));
        refused("drain(0, -1)", ARGUMENT, () -> k.drain(0, -1));
    }

    private static void leaves() {
        KerbSplash k = with("size 2 1;drain 1 0 9 4;bore 0 0 1 1;");
        due("leaves(0, 16)", k.leaves(0, 16), 4);
        due("leaves(0, 0)", k.leaves(0, 0), 16);
        due("drain(0, 3)", k.drain(0, 3), 0);
        refused("leaves(0, 17)", ARGUMENT, () -> k.leaves(0, 17));
        refused("leaves(0, -1)", ARGUMENT, () -> k.leaves(0, -1));
        refused("leaves(-1, 0)", NO_SUCH, () -> k.leaves(-1, 0));
        refused("leaves(1, 17)", NO_SUCH, () -> k.leaves(1, 17));
        k.does(0);
        refused("leaves(1, 0)", ARGUMENT, () -> k.leaves(1, 0));
        refused("leaves(2, 0)", NO_SUCH, () -> k.leaves(2, 0));
    }

    private static void persons() {
        KerbSplash k = with("size 2 1;person 1 19;person 0 3;", "throw=16;reach=4;wet=70;");
        k.minutes(1, 1);
        due("X", k.person(0, 0), 1);
        due("F", k.person(0, 1), 19);
        k.car(0, 0, 1, 1, 0);
        k.minutes(1, 1);
        k.car(0, 0, 1, 1, 0);
        due("out of reach", k.person(0, 3), 0);
        due("wet", k.person(1, 2), 140);
        due("hit", k.person(1, 3), 2);
        refused("person(2, 0)", NO_SUCH, () -> k.person(2, 0));
        refused("person(-1, 9)", NO_SUCH, () -> k.person(-1, 9));
        refused("person(0, 4)", ARGUMENT, () -> k.person(0, 4));
        refused("person(0, -1)", ARGUMENT, () -> k.person(0, -1));
    }

    private static void works() {
        KerbSplash k = with("size 2 1;drain 0 0 1 9;clear 0 11;raise 0 0 50 99;lower 1 0 50 1;bore 1 0 9 7;"
            + "lower 1 0 30 2;");
        int[] kinds = {0, 1, 2, 3, 2};
        int[] coins = {11, 99, 1, 7, 2};
        for (int work = 0; work < 5; work++) {
            due("kind", k.work(work, 0), kinds[work]);
            due("coin", k.work(work, 1), coins[work]);
        }
        refused("work(5, 9)", NO_SUCH, () -> k.work(5, 9));
        refused("work(-1, 0)", NO_SUCH, () -> k.work(-1, 0));
        refused("work(0, 2)", ARGUMENT, () -> k.work(0, 2));
        refused("work(0, -1)", ARGUMENT, () -> k.work(0, -1));
    }

    private static void doing() {
        KerbSplash k = with("size 2 1;drain 0 0 1 9;clear 0 11;raise 0 0 50 99;lower 1 0 50 1;bore 1 0 9 7;"
            + "lower 1 0 30 2;");
        for (int work = 0; work < 5; work++) {
            due("does(" + work + ")", k.does(work), 1);
        }
        due("cleared", k.drain(0, 3), 0);
        due("raised to 99 at most", k.cell(0, 0, 0), 99);
        due("lowered to 0 at most", k.cell(1, 0, 0), 0);
        due("bored", k.drain(1, 2), 9);
        k.leaves(0, 5);
        for (int work = 0; work < 5; work++) {
            due("does(" + work + ") again", k.does(work), 0);
        }
        due("leaves stay", k.drain(0, 3), 5);
        due("no drain more", k.told(2), 2);
        refused("does(5)", NO_SUCH, () -> k.does(5));
        refused("does(-1)", NO_SUCH, () -> k.does(-1));
        KerbSplash six = with("drain 0 0 1 1;".repeat(6) + "bore 1 1 3 1;".repeat(8));
        for (int work = 7; work >= 0; work--) {
            six.does(work);
        }
        due("fourteen drains", six.told(2), 14);
        due("the last", six.drain(13, 2), 3);
    }

    private static void minutes() {
        KerbSplash k = with("size 2 1;high 0 0 99;drain 1 0 8 8;");
        due("one", k.minutes(1, 4), 1);
        due("ran off", k.cell(0, 0, 1), 0);
        due("ran together, and down", k.cell(1, 0, 1), 4);
        KerbSplash t = with("size 3 3;high 1 1 60;");
        t.minutes(1, 1);
        due("the first of the lowest", t.cell(0, 1, 1), 2);
        due("the others", t.cell(2, 1, 1), 1);
        due("the middle", t.cell(1, 1, 1), 0);
        KerbSplash up = with("size 3 3;high 1 1 60;high 0 1 61;high 2 1 61;");
        up.minutes(1, 1);
        // What is higher runs to the sides it has; the middle runs to the row ahead of it first.
        due("of Y the less", up.cell(1, 0, 1) + 10 * up.cell(1, 2, 1), 12);
        KerbSplash r = with("size 2 1;high 0 0 53;");
        r.minutes(1, 3);
        due("half of three is one, and one higher is no more", r.cell(0, 0, 1), 2);
        StringBuilder stairs = new StringBuilder("size 16 1;high 0 0 0;");
        for (int x = 1; x < 16; x++) {
            stairs.append("high ").append(x).append(" 0 ").append(20 + 5 * x).append(';');
        }
        KerbSplash down = with(stairs.toString());
        down.minutes(1, 1);
        // Each round lets what stands on a step run one step down.
        due("8 rounds", down.cell(0, 0, 1), 9);
        due("the steps that are wet still", down.ice(1, 1), 8);
        refused("minutes(0, 0)", ARGUMENT, () -> k.minutes(0, 0));
        refused("minutes(61, 0)", ARGUMENT, () -> k.minutes(61, 0));
        refused("minutes(1, -1)", ARGUMENT, () -> k.minutes(1, -1));
        refused("minutes(1, 21)", ARGUMENT, () -> k.minutes(1, 21));
        for (int i = 0; i < 9; i++) {
            k.minutes(60, 0);
        }
        due("to 600 at most", k.minutes(60, 20), 59);
        due("told(8)", k.told(8), 600);
        refused("at 600", STATE, () -> k.minutes(1, 0));
        refused("at 600, a wrong one", ARGUMENT, () -> k.minutes(0, 0));
        refused("without a street", STATE, () -> new KerbSplash().minutes(1, 0));
    }

    private static void showers() {
        KerbSplash k = with("size 2 1;");
        rain(k, "rain 3 2;rain 0 30;rain 5 1;");
        due("shower(0)", k.shower(0), 33);
        due("sums(0)", k.sums(0), 22);
        refused("shower(1)", NO_SUCH, () -> k.shower(1));
        refused("shower(-1)", NO_SUCH, () -> k.shower(-1));
        for (int i = 0; i < 9; i++) {
            k.minutes(60, 0);
        }
        due("to 600 at most", k.shower(0), 27);
        due("sums(0)", k.sums(0), 34);
        refused("at 600", STATE, () -> k.shower(0));
        refused("at 600, none such", NO_SUCH, () -> k.shower(1));
        KerbSplash none = new KerbSplash();
        rain(none, "rain 1 1;");
        refused("without a street", STATE, () -> none.shower(0));
    }

    private static void sums() {
        KerbSplash k = with("size 2 2;drain 1 1 3 0;drain 1 1 16 15;", "throw=8;");
        k.minutes(3, 10);
        due("fallen", k.sums(0), 120);
        due("taken", k.sums(1), 12);
        due("gone", k.sums(2), 0);
        k.car(0, 0, 1, 1, 0);
        due("all that fell is somewhere", k.sums(1) + k.sums(2) + k.sums(3), 120);
        due("some is gone", k.sums(2) > 0 ? 1 : 0, 1);
        refused("sums(4)", ARGUMENT, () -> k.sums(4));
        refused("sums(-1)", ARGUMENT, () -> k.sums(-1));
    }

    private static void sayings() {
        value("depth", 3);
        value("pace", 5);
        value("tyre", 7);
        value("row", 11);
        value("far", 13);
        value("people", 17);
        value("shelter", 19);
        value("1+2*3-4/2", 5);
        value("2-3-4", -5);
        value("(2-3)*4", -4);
        value("7/2*2", 6);
        value("(0-7)/2", -3);
        value("7/0", 0);
        value("9999*9999*9999", 9999 * 9999 * 9999);
        value("if 1<2 then 5 else 6", 5);
        value("if 2<2 then 5 else 6", 6);
        value("if 3>2 then 5 else 6", 5);
        value("if 2=2 then 5 else 6", 5);
        value("if not 2=2 then 5 else 6", 6);
        value("if not 2=2 or 1=1 then 5 else 6", 5);
        value("if not [2=2 or 1=1] then 5 else 6", 6);
        value("if 1=1 or 1=2 and 1=2 then 5 else 6", 5);
        value("if [1=1 or 1=2] and 1=2 then 5 else 6", 6);
        value("if if 1=2 then 3 else 4=4 then 5 else 6+1", 5);
        value("if 1=2 then 5 else 6+1", 7);
        value("1+(if 1=2 then 5 else 6)*2", 13);
        value("if 1=1 then if 1=2 then 5 else 6 else 7", 6);
        KerbSplash k = new KerbSplash();
        law(k, "throw=1;reach=2;wet=3+depth;slow=4;");
        for (int what = 0; what < 5; what++) {
            due("says what " + what, k.says(0, what, 0, 0, 0, 0, 0, 0, 0), what == 4 ? 0 : what + 1);
        }
        KerbSplash held = new KerbSplash();
        law(held, "throw=17;reach=0-1;wet=100;slow=0;out=0-9999;");
        due("throw is not held", held.says(0, 0, 0, 0, 0, 0, 0, 0, 0), 17);
        due("nor reach", held.says(0, 1, 0, 0, 0, 0, 0, 0, 0), -1);
        due("nor wet", held.says(0, 2, 0, 0, 0, 0, 0, 0, 0), 100);
        due("nor slow", held.says(0, 3, 0, 5, 0, 0, 0, 0, 0), 0);
        due("nor out", held.says(0, 4, 0, 0, 0, 0, 0, 0, 0), -9999);
        due("not held, wrapping", k.says(0, 2, Integer.MAX_VALUE, 0, 0, 0, 0, 0, 0), Integer.MIN_VALUE + 2);
        due("by less than 0", minimumByMinusOne(), Integer.MIN_VALUE);
        refused("says(1, 9)", NO_SUCH, () -> k.says(1, 9, 0, 0, 0, 0, 0, 0, 0));
        refused("says(-1, 0)", NO_SUCH, () -> k.says(-1, 0, 0, 0, 0, 0, 0, 0, 0));
        refused("says(0, 5)", ARGUMENT, () -> k.says(0, 5, 0, 0, 0, 0, 0, 0, 0));
        refused("says(0, -1)", ARGUMENT, () -> k.says(0, -1, 0, 0, 0, 0, 0, 0, 0));
    }

    private static int minimumByMinusOne() {
        KerbSplash k = new KerbSplash();
        law(k, "wet=depth/pace;");
        return k.says(0, 2, Integer.MIN_VALUE, -1, 0, 0, 0, 0, 0);
    }

    private static void cars() {
        KerbSplash k = with("size 2 3;person 0 2;person 0 10;person 1 0;shelter 1 1;",
            "throw=depth;reach=depth+2;wet=10+far+20*shelter+100*people-100;slow=3;out=9999;");
        k.minutes(1, 8);
        // Of 8 are thrown 4: at X 0 far 2 is hit by 10 + 2 + 100, held to 99, far 10 is not; at X 1 30.
        due("a plain one", k.car(0, 0, 9, 1, 0), 129);
        due("first", k.person(0, 2), 99);
        due("second", k.person(1, 3), 0);
        due("third", k.person(2, 2), 30);
        due("what it leaves", k.cell(0, 0, 1), 4);
        due("what falls", k.cell(0, 1, 1), 10);
        due("gone", k.sums(2), 4);
        due("one that steers to the last row", k.car(0, 0, 9, 1, 2), 99 + 32);
        due("gone from there", k.sums(2), 4 + 8);
        due("what it leaves there", k.cell(1, 2, 1), 4);
        k.car(0, 2, 9, 1, 3);
        due("one that means it is at the kerb", k.cell(0, 0, 1), 3);
        refused("law 1", NO_SUCH, () -> k.car(1, 9, 9, 1, 0));
        refused("row 3", ARGUMENT, () -> k.car(0, 3, 9, 1, 0));
        refused("row -1", ARGUMENT, () -> k.car(0, -1, 9, 1, 0));
        refused("pace 0", ARGUMENT, () -> k.car(0, 0, 0, 1, 0));
        refused("pace 61", ARGUMENT, () -> k.car(0, 0, 61, 1, 0));
        refused("tyre 0", ARGUMENT, () -> k.car(0, 0, 1, 0, 0));
        refused("tyre 10", ARGUMENT, () -> k.car(0, 0, 1, 10, 0));
        refused("kind 4", ARGUMENT, () -> k.car(0, 0, 1, 1, 4));
        refused("kind -1", ARGUMENT, () -> k.car(0, 0, 1, 1, -1));
        KerbSplash none = new KerbSplash();
        law(none, "wet=1;");
        refused("no street, so no row", ARGUMENT, () -> none.car(0, 0, 1, 1, 0));
    }

    private static void kindsOfCars() {
        KerbSplash slow = with("size 2 1;person 0 0;", "throw=16;reach=pace;wet=pace;slow=people*4;");
        slow.minutes(1, 1);
        due("slows to what is said, and to 1 at least", slow.car(0, 0, 9, 1, 1), 4);
        KerbSplash held = with("size 2 1;person 0 0;", "throw=16;reach=9999;wet=pace;slow=50;");
        held.minutes(1, 1);
        due("slows to its own pace at most", held.car(0, 0, 9, 1, 1), 9);
        KerbSplash least = with("size 2 1;person 0 0;", "throw=16;reach=9999;wet=pace;slow=0-9;");
        least.minutes(1, 1);
        due("slows to 1 at least", least.car(0, 0, 9, 1, 1), 1);
        KerbSplash wrap = with("size 2 2;person 0 0;", "throw=16;reach=9999;wet=row+5;out=9999*9999*21+9999*4790+8416;");
        wrap.minutes(1, 1);
        due("what out says", wrap.says(0, 4, 0, 0, 0, 0, 0, 0, 0), Integer.MAX_VALUE);
        due("steers without wrapping", wrap.car(0, 1, 9, 1, 2), 6);
        KerbSplash own = with("size 2 2;person 0 0;high 0 1 30;high 1 1 30;",
            "throw=16;reach=9999;wet=depth;out=if depth=0 then 1 else 0;");
        own.minutes(1, 4);
        due("out looks at its own row", own.car(0, 0, 9, 1, 2), own.cell(0, 0, 1) == 0 ? 8 : -1);
        KerbSplash dry = with("size 2 1;person 0 0;", "throw=8;reach=9999;wet=9;");
        dry.minutes(1, 1);
        due("nothing thrown, nobody hit", dry.car(0, 0, 9, 1, 0) + dry.person(0, 3), 0);
        KerbSplash names = with("size 2 1;person 0 3;shelter 0 1;",
            "throw=16*(1-far)*(1-shelter);reach=4+far+shelter;wet=far*10+shelter;");
        names.minutes(1, 1);
        due("far and shelter are 0 but of wet", names.car(0, 0, 9, 1, 0), 31);
        KerbSplash none = with("size 2 1;person 0 0;", "throw=0-1;reach=9;wet=9;");
        none.minutes(1, 20);
        due("throw is held to nothing", none.car(0, 0, 9, 1, 0) + none.sums(2), 0);
        KerbSplash zero = with("size 2 1;person 0 0;", "throw=99;reach=1;wet=0-5;");
        zero.minutes(1, 1);
        due("hit by nothing", zero.car(0, 0, 9, 1, 0), 0);
        due("is hit all the same", zero.person(0, 3), 1);
        due("throw is held to all", zero.cell(0, 0, 1), 0);
        due("nothing falls where no row is", zero.sums(2), 2);
    }

    private static void traffic() {
        KerbSplash k = with("size 2 2;", DRY_LAW);
        refused("rounds -1", ARGUMENT, () -> k.traffic(-1, 0, 1, 1, 0));
        refused("rounds 100", ARGUMENT, () -> k.traffic(100, 0, 1, 1, 0));
        refused("row 2", ARGUMENT, () -> k.traffic(0, 2, 1, 1, 0));
        refused("pace 61", ARGUMENT, () -> k.traffic(0, 0, 61, 1, 0));
        refused("tyre 10", ARGUMENT, () -> k.traffic(0, 0, 1, 10, 0));
        refused("kind 4", ARGUMENT, () -> k.traffic(0, 0, 1, 1, 4));
        for (int i = 1; i <= 20; i++) {
            due("traffic", k.traffic(99, 1, 60, 9, 3), i);
        }
        due("a 21st", k.traffic(0, 0, 1, 1, 0), -1);
        refused("a wrong 21st", ARGUMENT, () -> k.traffic(0, 0, 0, 1, 0));
        due("count(0)", k.count(0), 20);
        refused("without a street", ARGUMENT, () -> new KerbSplash().traffic(0, 0, 1, 1, 0));
    }

    private static void passing() {
        KerbSplash k = with("size 2 2;high 0 1 60;high 1 1 60;person 0 0;", "throw=16;reach=9;wet=depth;");
        due("without traffic", k.pass(0), 0);
        k.minutes(1, 4);
        due("all is in row 0", k.cell(0, 0, 1), 8);
        k.traffic(0, 0, 9, 1, 0);
        k.traffic(0, 0, 9, 1, 0);
        k.image();
        due("nothing runs back between", k.pass(0), 8);
        due("half lies in row 1", k.cell(0, 1, 1), 4);
        k.restore();
        k.clear();
        k.traffic(0, 0, 9, 1, 0);
        k.traffic(1, 0, 9, 1, 0);
        due("a round between lets it run back", k.pass(0), 12);
        due("traffic stays", k.count(0), 2);
        due("no minute went by", k.told(8), 1);
        due("once more", k.pass(0), 2);
        refused("pass(1)", NO_SUCH, () -> k.pass(1));
        refused("pass(-1)", NO_SUCH, () -> k.pass(-1));
        KerbSplash none = new KerbSplash();
        law(none, "");
        refused("without a street", STATE, () -> none.pass(0));
        refused("without both", NO_SUCH, () -> new KerbSplash().pass(0));
    }

    private static void clearing() {
        KerbSplash k = with("");
        due("none", k.clear(), 0);
        k.traffic(0, 0, 1, 1, 0);
        k.traffic(0, 0, 1, 1, 0);
        due("two", k.clear(), 2);
        due("none left", k.count(0), 0);
        due("a new one", k.traffic(0, 0, 1, 1, 0), 1);
    }

    private static void depths() {
        KerbSplash k = with("size 2 1;high 0 0 99;drain 1 0 8 8;");
        rain(k, "rain 4 2;");
        due("deep(0, 1, 0)", k.deep(0, 1, 0), 8);
        due("nothing stays changed", k.cell(1, 0, 1) + k.told(8) + k.sums(0), 0);
        k.minutes(1, 4);
        due("from now on", k.deep(0, 1, 0), 12);
        refused("deep(0, 2, 0)", OUTSIDE, () -> k.deep(0, 2, 0));
        refused("deep(9, 0, 1)", OUTSIDE, () -> k.deep(9, 0, 1));
        refused("deep(1, 0, 0)", NO_SUCH, () -> k.deep(1, 0, 0));
        refused("deep(-1, 0, 0)", NO_SUCH, () -> k.deep(-1, 0, 0));
        k.leaves(0, 16);
        for (int i = 0; i < 9; i++) {
            k.minutes(60, 0);
        }
        k.minutes(58, 0);
        due("to 600 at most", k.deep(0, 1, 0), 4 + 8);
        k.minutes(1, 0);
        due("at 600 as it is", k.deep(0, 1, 0), 4);
        refused("without a street", OUTSIDE, () -> new KerbSplash().deep(0, 0, 0));
    }

    private static void at600() {
        KerbSplash k = with("size 2 1;high 0 0 99;drain 1 0 8 16;bore 1 0 9 9;");
        rain(k, "rain 20 30;");
        for (int i = 0; i < 9; i++) {
            k.minutes(60, 0);
        }
        k.minutes(50, 0);
        k.minutes(10, 1);
        due("20 stand there", k.cell(1, 0, 1), 20);
        due("deep as it is", k.deep(0, 1, 0), 20);
        due("when it is so now", k.when(0, 1, 0, 20), 0);
        due("when it never is", k.when(0, 1, 0, 21), -1);
        due("blame none", k.blame(0, 1, 0, 0), -1);
        due("blame by nothing", k.blame(0, 1, 0, 1), 0);
        due("look nowhere", k.look(0, 0), 0);
        due("of one kind", k.look(0, 1), 1);
        due("mend by nothing", k.mend(0, 1, 0, 20, 0), 0);
        due("none mends it", k.mend(0, 1, 0, 19, 0), -1);
        refused("a shower", STATE, () -> k.shower(0));
        refused("a minute", STATE, () -> k.minutes(1, 0));
        KerbSplash last = with("size 2 1;high 0 0 99;drain 1 0 8 16;");
        rain(last, "rain 1 30;");
        for (int i = 0; i < 9; i++) {
            last.minutes(60, 0);
        }
        last.minutes(59, 0);
        due("one minute is left", last.deep(0, 1, 0), 2);
        due("in which it is so", last.when(0, 1, 0, 2), 1);
        due("and no more", last.when(0, 1, 0, 3), -1);
        due("blame for one minute", last.blame(0, 1, 0, 1), 2);
        due("a shower of one minute", last.shower(0), 1);
    }

    private static void whens() {
        KerbSplash k = with("size 2 1;high 0 0 99;drain 1 0 8 8;");
        rain(k, "rain 0 3;rain 4 9;");
        due("4 at first", k.when(0, 1, 0, 4), 4);
        due("5 then", k.when(0, 1, 0, 5), 5);
        due("36 at last", k.when(0, 1, 0, 36), 12);
        due("never 37", k.when(0, 1, 0, 37), -1);
        k.minutes(1, 4);
        due("4 now", k.when(0, 1, 0, 4), 0);
        KerbSplash again = with("size 2 1;high 0 0 99;drain 1 0 8 0;");
        rain(again, "rain 10 1;rain 0 3;rain 10 2;");
        // 12 behind the first minute, then 4, 0, 0, 12 and 24.
        due("12 for the first time", again.when(0, 1, 0, 12), 1);
        due("1 for the first time", again.when(0, 1, 0, 1), 1);
        due("13 for the first time", again.when(0, 1, 0, 13), 6);
        due("24 for the first time", again.when(0, 1, 0, 24), 6);
        due("25 never", again.when(0, 1, 0, 25), -1);
        refused("n 0", ARGUMENT, () -> k.when(0, 0, 0, 0));
        refused("n 10000", ARGUMENT, () -> k.when(0, 0, 0, 10000));
        refused("rain 1", NO_SUCH, () -> k.when(1, 0, 0, 0));
        refused("no cell", OUTSIDE, () -> k.when(1, 2, 0, 0));
        for (int i = 0; i < 9; i++) {
            k.minutes(60, 0);
        }
        k.minutes(54, 0);
        due("not behind 600", k.when(0, 1, 0, 12), -1);
        due("till 600", k.when(0, 1, 0, 4), 4);
    }

    private static void blames() {
        KerbSplash k = with("size 2 1;high 0 0 99;drain 1 0 2 8;drain 1 0 8 8;drain 1 0 8 8;drain 0 0 9 9;");
        rain(k, "rain 9 1;");
        // 18 run to it; 1 and 4 and 4 are taken; without its leaves the second takes 4 more.
        due("deep", k.deep(0, 1, 0), 9);
        due("blame", k.blame(0, 1, 0, 0), 1);
        due("by", k.blame(0, 1, 0, 1), 4);
        due("nobody there", k.blame(0, 0, 0, 0), -1);
        due("by nothing", k.blame(0, 0, 0, 1), 0);
        due("leaves stay", k.drain(1, 3), 8);
        k.leaves(1, 0);
        due("the next", k.blame(0, 1, 0, 0), 2);
        k.leaves(2, 0);
        due("the least", k.blame(0, 1, 0, 1), 1);
        k.leaves(0, 0);
        due("none left", k.blame(0, 1, 0, 0), -1);
        refused("what 2", ARGUMENT, () -> k.blame(0, 0, 0, 2));
        refused("what -1", ARGUMENT, () -> k.blame(0, 0, 0, -1));
        refused("rain 1", NO_SUCH, () -> k.blame(1, 0, 0, 2));
        refused("no cell", OUTSIDE, () -> k.blame(1, 0, 1, 2));
    }

    private static void looks() {
        KerbSplash k = with("size 4 1;high 1 0 0;high 3 0 0;drain 1 0 9 3;drain 3 0 5 3;bore 3 0 6 1;");
        rain(k, "rain 5 1;");
        // It runs by halves: 10 into X 1 and 10 into X 3, where 5 go down, if not by leaves.
        due("where", k.look(0, 0), 100);
        due("kinds", k.look(0, 1), 2);
        k.does(0);
        due("a bored one, too", k.look(0, 0), 300);
        due("three kinds", k.look(0, 1), 3);
        due("leaves stay", k.drain(0, 3), 3);
        KerbSplash one = with("size 2 1;high 0 0 99;drain 1 0 6 0;drain 1 0 7 0;drain 1 0 8 0;");
        rain(one, "rain 5 1;");
        due("any two take all 10", one.look(0, 1), 1);
        due("so it is of no matter where", one.look(0, 0), 0);
        rain(one, "rain 9 1;");
        due("of 18 they leave 3, 4 and 5", one.look(1, 1), 3);
        due("there", one.look(1, 0), 100);
        refused("what 2", ARGUMENT, () -> k.look(0, 2));
        refused("what -1", ARGUMENT, () -> k.look(0, -1));
        refused("rain 1", NO_SUCH, () -> k.look(1, 2));
        KerbSplash none = with("size 2 2;");
        rain(none, "rain 1 1;");
        due("no drains", none.look(0, 0), -1);
        due("no kinds", none.look(0, 1), -1);
        KerbSplash no = new KerbSplash();
        rain(no, "rain 1 1;");
        refused("without a street", STATE, () -> no.look(0, 0));
        KerbSplash first = with("size 2 2;drain 0 1 1 0;drain 1 0 1 0;");
        rain(first, "rain 3 1;");
        due("by X, then Y", first.look(0, 0), 1);
    }

    private static void stands() {
        KerbSplash k = with("size 3 1;shelter 1 1;person 2 0;", "throw=8;reach=6;wet=20-far-10*shelter-5*people+5;");
        k.minutes(1, 8);
        due("without traffic", k.stand(0, 19, 0), 0);
        k.traffic(0, 0, 9, 1, 0);
        KerbSplash even = with("size 3 2;", "throw=16;reach=99;wet=9;");
        even.minutes(1, 1);
        even.traffic(0, 0, 9, 1, 0);
        due("as wet everywhere: the first X and F", even.stand(0, 19, 0), 0);
        due("so wet", even.stand(0, 19, 1), 9);
        KerbSplash later = with("size 3 2;shelter 1 2;", "throw=16;reach=99;wet=50-far-shelter;");
        later.minutes(1, 1);
        later.traffic(0, 1, 9, 1, 0);
        due("of two X the first, of all F the last", later.stand(0, 19, 0), 119);
        due("F 19 in row 1", later.stand(0, 19, 1), 50 - 20 - 1);
        due("F 5 of 5", later.stand(0, 5, 0), 105);
        due("out of reach", k.stand(0, 19, 0), 6);
        due("not wet", k.stand(0, 19, 1), 0);
        due("in the shelter", k.stand(0, 3, 0), 103);
        due("so wet", k.stand(0, 3, 1), 7);
        due("one place", k.stand(0, 0, 0), 100);
        due("nobody came", k.told(3) + k.person(0, 2), 1);
        refused("most -1", ARGUMENT, () -> k.stand(0, -1, 0));
        refused("most 20", ARGUMENT, () -> k.stand(0, 20, 0));
        refused("what 2", ARGUMENT, () -> k.stand(0, 0, 2));
        refused("law 1", NO_SUCH, () -> k.stand(1, 0, 2));
        KerbSplash both = with("size 2 1;person 1 0;", "throw=16;reach=9;wet=50-people*10;");
        both.minutes(1, 1);
        both.traffic(0, 0, 9, 1, 0);
        due("it counts as one of the people", both.stand(0, 0, 1), 30);
        due("beside the other", both.stand(0, 0, 0), 100);
        KerbSplash one = with("size 2 1;person 0 0;", "throw=16;reach=9;wet=people-1;");
        one.minutes(1, 1);
        one.traffic(0, 0, 9, 1, 0);
        due("by one less wet", one.stand(0, 0, 0), 100);
        KerbSplash no = new KerbSplash();
        law(no, "");
        refused("without a street", STATE, () -> no.stand(0, 0, 0));
    }

    private static void paces() {
        KerbSplash k = with("size 3 1;person 0 0;person 1 0;", "throw=16;reach=9;wet=pace-10*tyre;");
        k.minutes(1, 1);
        due("nobody wet", k.pace(0, 0, 1, 0), 10);
        due("by another tyre", k.pace(0, 0, 3, 0), 30);
        due("of both together by no more than 9", k.pace(0, 0, 1, 9), 14);
        due("all", k.pace(0, 0, 1, 9999), 60);
        due("nothing stays changed", k.sums(2) + k.person(0, 2), 0);
        KerbSplash never = with("size 2 1;person 0 0;", "throw=16;reach=9;wet=7;");
        never.minutes(1, 1);
        due("never", never.pace(0, 0, 1, 6), -1);
        KerbSplash least = with("size 2 1;person 0 0;", "throw=16;reach=9;wet=pace;");
        least.minutes(1, 1);
        due("not at 1, and 0 is no pace", least.pace(0, 0, 1, 0), -1);
        due("at 1", least.pace(0, 0, 1, 1), 1);
        due("at 59", least.pace(0, 0, 1, 59), 59);
        due("60 at most", least.pace(0, 0, 1, 61), 60);
        due("ever", never.pace(0, 0, 1, 7), 60);
        KerbSplash fast = with("size 2 1;person 0 0;", "throw=16;reach=if pace=50 then 0 else 9;wet=7;");
        fast.minutes(1, 1);
        due("the greatest, even if slower ones are worse", fast.pace(0, 0, 1, 0), 50);
        KerbSplash walk = with("size 2 1;person 0 0;", "throw=16;reach=if pace=1 then 0 else 9;wet=7;");
        walk.minutes(1, 1);
        due("the least there is", walk.pace(0, 0, 1, 0), 1);
        refused("n -1", ARGUMENT, () -> k.pace(0, 0, 1, -1));
        refused("n 10000", ARGUMENT, () -> k.pace(0, 0, 1, 10000));
        refused("row 1", ARGUMENT, () -> k.pace(0, 1, 1, 0));
        refused("tyre 0", ARGUMENT, () -> k.pace(0, 0, 0, 0));
        refused("law 1", NO_SUCH, () -> k.pace(1, 9, 9, 9));
    }

    private static void moves() {
        KerbSplash k = with("size 5 1;person 1 0;person 2 0;shelter 3 4;", "throw=16;reach=9;wet=20-19*shelter;");
        k.minutes(1, 1);
        due("without traffic the least step", k.moved(0, 0), -1);
        due("by which nothing comes", k.moved(0, 1), 0);
        k.traffic(0, 0, 9, 1, 0);
        due("into the shelter", k.moved(0, 0), 2);
        due("both a little wet", k.moved(0, 1), 2);
        due("they stand as they did", k.person(0, 0) + k.person(0, 2), 1);
        KerbSplash wide = with("size 5 1;person 0 0;person 4 0;", "throw=16;reach=9;wet=20;");
        wide.minutes(1, 1);
        wide.traffic(0, 0, 9, 1, 0);
        due("no step but none", wide.moved(0, 0), 0);
        due("as they are", wide.moved(0, 1), 40);
        due("nobody there", with("size 2 1;", "").moved(0, 0), -15);
        KerbSplash same = with("size 6 1;person 2 0;person 3 0;", "throw=16;reach=9;wet=20;");
        same.minutes(1, 1);
        same.traffic(0, 0, 9, 1, 0);
        due("as wet by each step: the least", same.moved(0, 0), -2);
        due("so wet", same.moved(0, 1), 40);
        KerbSplash ends = with("size 6 1;person 0 0;person 3 0;shelter 0 0;", "throw=16;reach=9;wet=20+shelter;");
        ends.minutes(1, 1);
        ends.traffic(0, 0, 9, 1, 0);
        due("nobody goes off the street: the first step that is less wet", ends.moved(0, 0), 1);
        KerbSplash far = with("size 16 1;person 0 0;shelter 15 15;", "throw=16;reach=9;wet=1-shelter;");
        far.minutes(1, 1);
        far.traffic(0, 0, 9, 1, 0);
        due("the widest step", far.moved(0, 0), 15);
        KerbSplash back = with("size 16 1;person 15 0;shelter 0 0;", "throw=16;reach=9;wet=1-shelter;");
        back.minutes(1, 1);
        back.traffic(0, 0, 9, 1, 0);
        due("the widest step back", back.moved(0, 0), -15);
        refused("what 2", ARGUMENT, () -> k.moved(0, 2));
        refused("what -1", ARGUMENT, () -> k.moved(0, -1));
        refused("law 1", NO_SUCH, () -> k.moved(1, 2));
        KerbSplash no = new KerbSplash();
        law(no, "");
        refused("without a street", STATE, () -> no.moved(0, 0));
    }

    private static void mends() {
        KerbSplash k = with("size 2 1;high 0 0 99;drain 1 0 8 8;clear 0 9;bore 1 0 3 4;raise 1 0 45 6;bore 1 0 4 9;"
            + "bore 1 0 3 4;");
        rain(k, "rain 9 1;");
        // 18 run to it and 4 are taken: 14; 4 less by work 0 and 3, 3 less by work 1 and 4, 7 left with work 2.
        due("nothing to do", k.mend(0, 1, 0, 14, 0), 0);
        due("for nothing", k.mend(0, 1, 0, 14, 1), 0);
        due("the least by bits", k.mend(0, 1, 0, 11, 0), 2);
        due("its coin", k.mend(0, 1, 0, 11, 1), 4);
        due("the least coin", k.mend(0, 1, 0, 10, 0), 4);
        due("its coin is 6", k.mend(0, 1, 0, 10, 1), 6);
        due("nothing stays done", k.cell(1, 0, 0), 50);
        k.does(2);
        int asIs = k.deep(0, 1, 0);
        due("done already", k.mend(0, 1, 0, asIs, 0), 0);
        due("others are left", k.mend(0, 1, 0, asIs - 1, 0), 2);
        due("of these two", k.mend(0, 1, 0, asIs - 4, 0), 18);
        KerbSplash all = with("size 2 1;high 0 0 99;bore 1 0 3 4;bore 1 0 4 5;");
        rain(all, "rain 9 1;");
        due("one of two", all.mend(0, 1, 0, 14, 0), 2);
        due("both", all.mend(0, 1, 0, 11, 0), 3);
        due("for both", all.mend(0, 1, 0, 11, 1), 9);
        all.does(0);
        all.does(1);
        due("all are done", all.mend(0, 1, 0, 11, 0), 0);
        due("nothing is left to do", all.mend(0, 1, 0, 10, 0), -1);
        due("not for any coin", all.mend(0, 1, 0, 10, 1), -1);
        refused("n -1", ARGUMENT, () -> k.mend(0, 0, 0, -1, 0));
        refused("n 10000", ARGUMENT, () -> k.mend(0, 0, 0, 10000, 0));
        refused("what 2", ARGUMENT, () -> k.mend(0, 0, 0, 0, 2));
        refused("rain 1", NO_SUCH, () -> k.mend(1, 0, 0, -1, 0));
        refused("no cell", OUTSIDE, () -> k.mend(1, 2, 0, -1, 0));
        KerbSplash none = with("size 2 1;bore 0 0 1 1;");
        rain(none, "rain 9 1;");
        due("none does", none.mend(0, 1, 0, 0, 0), -1);
        due("no coin does", none.mend(0, 1, 0, 0, 1), -1);
        KerbSplash order = with("size 2 1;high 0 0 90;high 1 0 90;raise 1 0 50 1;lower 1 0 50 1;");
        rain(order, "rain 5 1;");
        due("not all runs off when it is raised", order.mend(0, 1, 0, 0, 0), -1);
        due("but most of it", order.mend(0, 1, 0, 1, 0), 1);
        due("as it is", order.mend(0, 1, 0, 5, 0), 0);
    }

    private static void shares() {
        KerbSplash k = new KerbSplash();
        due("1 at first", k.share(3, 99), 1);
        due("then 99", k.share(3, 0), 99);
        due("then 0", k.share(3, 5), 0);
        due("the others", k.share(0, 1), 1);
        refused("share(4, 1)", ARGUMENT, () -> k.share(4, 1));
        refused("share(-1, 1)", ARGUMENT, () -> k.share(-1, 1));
        refused("share(0, 100)", ARGUMENT, () -> k.share(0, 100));
        refused("share(0, -1)", ARGUMENT, () -> k.share(0, -1));
    }

    private static void meaning() {
        KerbSplash k = with("size 2 3;", "slow=5;out=1;");
        due("one of three at the kerb", k.meant(0, 0, 0, 5, 0, 5, 1), 333);
        due("in the next row", k.meant(0, 0, 1, 5, 0, 5, 1), 0);
        due("only those who mean it", k.meant(0, 0, 0, 9, 2, 9, 1), 1000);
        due("none would", k.meant(0, 0, 1, 9, 2, 9, 1), 0);
        k.share(0, 7);
        k.share(3, 2);
        due("2 of 10", k.meant(0, 0, 0, 5, 0, 5, 1), 200);
        due("those who slow are slower", k.meant(0, 0, 0, 9, 0, 9, 1), 222);
        due("slow ones are none of them", k.meant(0, 0, 0, 5, 0, 9, 1), 0);
        k.share(3, 0);
        due("nobody means it", k.meant(0, 0, 0, 5, 0, 5, 1), 0);
        k.share(0, 0);
        k.share(1, 0);
        due("shares of 0", k.meant(0, 0, 0, 5, 0, 5, 1), 0);
        refused("seen at 2", OUTSIDE, () -> k.meant(9, 2, 0, 0, 0, 5, 1));
        refused("seen in row 3", OUTSIDE, () -> k.meant(0, 0, 3, 5, 0, 5, 1));
        refused("law 1", NO_SUCH, () -> k.meant(1, 0, 0, 0, 0, 5, 1));
        refused("seen pace 0", ARGUMENT, () -> k.meant(0, 0, 0, 0, 0, 5, 1));
        refused("seen pace 61", ARGUMENT, () -> k.meant(0, 0, 0, 61, 0, 5, 1));
        refused("row 3", ARGUMENT, () -> k.meant(0, 0, 0, 5, 3, 5, 1));
        refused("pace 61", ARGUMENT, () -> k.meant(0, 0, 0, 5, 0, 61, 1));
        refused("tyre 10", ARGUMENT, () -> k.meant(0, 0, 0, 5, 0, 5, 10));
    }

    private static void dips() {
        KerbSplash k = new KerbSplash();
        refused("persons 0", ARGUMENT, () -> k.dip(0, 1, 1));
        refused("persons 100", ARGUMENT, () -> k.dip(100, 1, 1));
        refused("days 0", ARGUMENT, () -> k.dip(1, 0, 1));
        refused("days 31", ARGUMENT, () -> k.dip(1, 31, 1));
        refused("by 0", ARGUMENT, () -> k.dip(1, 1, 0));
        refused("by 100", ARGUMENT, () -> k.dip(1, 1, 100));
        for (int i = 1; i <= 9; i++) {
            due("dip " + i, k.dip(99, 30, 99), i);
        }
        due("a tenth", k.dip(1, 1, 1), -1);
        refused("a wrong tenth", ARGUMENT, () -> k.dip(1, 1, 0));
        due("count(1)", k.count(1), 9);
        due("six are late", k.town(0), 6);
        due("99 by 30 by 45", k.town(1), 99 * 30 * 45);
        due("in their order", k.town(2), 12345678);
    }

    private static void towns() {
        KerbSplash k = new KerbSplash();
        for (int what = 0; what < 3; what++) {
            due("no dips", k.town(what), -1);
        }
        k.dip(10, 3, 99);
        k.dip(90, 9, 99);
        k.dip(1, 1, 13);
        // In time all ways; 1, 0, 2: 90 by 9, 10 by 12, 1 by 13.
        due("late", k.town(0), 0);
        due("together", k.town(1), 943);
        due("order", k.town(2), 102);
        k.dip(1, 1, 1);
        // 3 must be first and 2 by 13: 1 by 1, 90 by 10, 10 by 13 makes 2 late; 2 by 2 or 11 is in time.
        due("none late", k.town(0), 0);
        due("3, 1, 2, 0", k.town(2), 3120);
        due("together 1 and 900 and 11 and 140", k.town(1), 1052);
        refused("town(3)", ARGUMENT, () -> k.town(3));
        refused("town(-1)", ARGUMENT, () -> k.town(-1));
        KerbSplash edge = new KerbSplash();
        edge.dip(1, 5, 5);
        due("done on its day is not late", edge.town(0), 0);
        edge.dip(1, 5, 10);
        due("nor the other", edge.town(0), 0);
        edge.dip(1, 5, 14);
        due("a day too late", edge.town(0), 1);
        KerbSplash fewest = new KerbSplash();
        fewest.dip(99, 10, 9);
        fewest.dip(1, 5, 5);
        fewest.dip(1, 5, 10);
        due("one is late all ways", fewest.town(0), 1);
        due("it waits, though it has the most persons", fewest.town(2), 120);
        due("together", fewest.town(1), 5 + 10 + 99 * 20);
        KerbSplash same = new KerbSplash();
        same.dip(2, 2, 9);
        same.dip(1, 1, 9);
        same.dip(3, 3, 9);
        due("of the same the first", same.town(2), 12);
    }

    private static void sweeps() {
        KerbSplash k = with("size 9 4;drain 8 0 1 1;drain 3 3 1 1;drain 5 1 1 1;drain 2 0 1 0;bore 8 3 9 9;");
        k.does(0);
        // Round by 3 3, then 5 1 and 8 0: 6 and 4 and 4 and 8.
        due("how far", k.sweep(0), 22);
        due("the order", k.sweep(1), 21);
        due("one drain is left out", k.leaves(2, 0), 1);
        due("how far then", k.sweep(0), 22);
        due("0, then 1", k.sweep(1), 1);
        k.leaves(3, 16);
        due("on the way", k.sweep(0), 22);
        due("0, 1, 3 is as far as 3, 0, 1", k.sweep(1), 13);
        k.leaves(0, 0);
        k.leaves(1, 0);
        k.leaves(3, 0);
        due("none has leaves", k.sweep(0), 0);
        k.leaves(0, 1);
        due("drain 0 alone", k.sweep(0), 16);
        due("order 0, too", k.sweep(1), 0);
        k.leaves(0, 0);
        k.leaves(2, 16);
        due("drain 2 alone", k.sweep(0), 12);
        due("order 2", k.sweep(1), 2);
        k.leaves(2, 0);
        due("no order", k.sweep(1), 0);
        refused("sweep(2)", ARGUMENT, () -> k.sweep(2));
        refused("sweep(-1)", ARGUMENT, () -> k.sweep(-1));
    }

    private static void ices() {
        KerbSplash k = with("size 6 2;high 2 0 99;high 3 1 99;person 2 0;person 3 1;person 3 2;", "throw=16;");
        k.minutes(1, 1);
        due("at 2 0 and 3 1 is none", k.cell(2, 0, 1) + k.cell(3, 1, 1), 0);
        due("cells", k.ice(1, 0), 10);
        due("the longest", k.ice(1, 1), 3);
        due("persons", k.ice(1, 2), 2);
        due("cells of 2", k.ice(2, 0), 2);
        KerbSplash one = with("size 2 2;high 0 1 0;high 1 1 0;person 0 0;person 1 0;drain 1 0 99 0;");
        one.minutes(1, 3);
        due("all ran to row 1", one.ice(1, 0), 2);
        due("so there is none in row 0", one.ice(1, 2), 0);
        KerbSplash first = with("size 2 1;person 0 0;drain 1 0 99 0;");
        first.minutes(1, 3);
        due("person 0 stands on it", first.ice(3, 2), 1);
        due("not on 4", first.ice(4, 2), 0);
        due("cells of 9999", k.ice(9999, 0), 0);
        due("no row", k.ice(9999, 1), 0);
        due("nobody", k.ice(9999, 2), 0);
        refused("n 0", ARGUMENT, () -> k.ice(0, 0));
        refused("n 10000", ARGUMENT, () -> k.ice(10000, 0));
        refused("what 3", ARGUMENT, () -> k.ice(1, 3));
        refused("what -1", ARGUMENT, () -> k.ice(1, -1));
        for (int what = 0; what < 3; what++) {
            due("without a street", new KerbSplash().ice(1, what), 0);
        }
    }

    private static void images() {
        KerbSplash k = with("size 3 2;drain 0 0 5 5;person 1 1;clear 0 1;raise 1 1 9 9;bore 2 1 3 3;", DRY_LAW);
        due("one", k.image(), 1);
        k.minutes(3, 5);
        k.traffic(1, 0, 9, 1, 0);
        k.dip(1, 1, 1);
        k.share(2, 44);
        k.does(1);
        due("two", k.image(), 2);
        k.car(0, 0, 9, 1, 0);
        k.does(0);
        k.does(2);
        due("three", k.image(), 3);
        due("a fourth", k.image(), -1);
        due("count(2)", k.count(2), 3);
        k.clear();
        due("restore to the third", k.restore(), 2);
        due("drains then", k.told(2), 2);
        due("traffic then", k.count(0), 1);
        due("wet then", k.person(0, 3), 1);
        feed(k, "rain 1 1;");
        due("a refusal", k.status(1), 0);
        refused("rain 0", NO_SUCH, () -> k.shower(0));
        law(k, "wet=");
        rain(k, "rain 1 1;");
        law(k, "wet=");
        feed(k, "abc");
        due("restore to the second", k.restore(), 1);
        due("rains stay", k.told(6), 1);
        due("laws stay", k.told(7), 1);
        due("the fault stays", k.fault(), 4);
        due("the tape stays", k.count(3), 20);
        due("status stays", k.status(1), 1);
        due("dry then", k.person(0, 2) + k.person(0, 3) + k.sums(2), 0);
        due("drains then", k.told(2), 1);
        due("leaves then", k.drain(0, 3), 5);
        due("work 0 is to do", k.does(0), 1);
        due("work 1 is done", k.does(1), 0);
        due("restore to the first", k.restore(), 0);
        due("minutes", k.told(8), 0);
        due("fallen and standing", k.sums(0) + k.sums(3), 0);
        due("traffic", k.count(0), 0);
        due("dips", k.count(1), 0);
        due("share", k.share(2, 1), 1);
        due("height", k.cell(1, 1, 0), 50);
        due("none left", k.restore(), -1);
    }

    private static void imagesKeepWhatWasTold() {
        KerbSplash k = with("size 2 2;drain 1 1 9 0;person 0 0;", "throw=8;reach=9;wet=pace+row;");
        k.minutes(1, 8);
        k.traffic(0, 0, 9, 1, 0);
        k.traffic(0, 1, 5, 1, 0);
        k.dip(3, 1, 9);
        k.dip(4, 2, 9);
        due("taken", k.sums(1), 8);
        k.image();
        due("passes", k.pass(0), 9 + 6);
        k.clear();
        k.traffic(99, 0, 33, 1, 0);
        k.traffic(99, 0, 33, 1, 0);
        k.dip(99, 30, 1);
        k.share(0, 50);
        k.minutes(5, 8);
        k.leaves(0, 16);
        due("more is taken", k.sums(1) > 8 ? 1 : 0, 1);
        due("back", k.restore(), 0);
        due("taken as then", k.sums(1), 8);
        due("gone as then", k.sums(2), 0);
        due("leaves as then", k.drain(0, 3), 0);
        due("the same traffic passes", k.pass(0), 9 + 6);
        due("the same dips", k.town(1), 3 * 1 + 4 * 3);
        k.image();
        street(k, "size 2 2;drain 1 1 9 0;person 0 0;");
        k.dip(9, 9, 9);
        k.image();
        k.clear();
        street(k, "x");
        due("behind a faulty street images stay", k.restore(), 0);
        due("its dip", k.town(1), 81);
    }

    private static void restoring() {
        KerbSplash k = new KerbSplash();
        due("none", k.restore(), -1);
        due("without a street", k.image(), 1);
        k.dip(1, 1, 1);
        due("back", k.restore(), 0);
        due("no dip", k.count(1), 0);
        k.image();
        due("a street", street(k, "size 2 2;"), 4);
        due("images as at first", k.count(2), 0);
        due("nothing to go back to", k.restore(), -1);
        k.image();
        k.minutes(5, 5);
        k.restore();
        k.minutes(1, 1);
        due("goes on from there", k.told(8) * 100 + k.sums(3), 104);
    }

    private static void statuses() {
        KerbSplash k = with("size 2 2;", "");
        refused("cell", OUTSIDE, () -> k.cell(9, 9, 9));
        refused("drain", NO_SUCH, () -> k.drain(0, 9));
        refused("person", NO_SUCH, () -> k.person(0, 9));
        for (int i = 0; i < 3; i++) {
            refused("told", ARGUMENT, () -> k.told(9));
        }
        due("street", k.street(0), 6 * 4);
        for (int i = 0; i < 10; i++) {
            k.minutes(60, 0);
        }
        for (int i = 0; i < 4; i++) {
            refused("minutes", STATE, () -> k.minutes(1, 1));
        }
        for (int what = 0; what < 4; what++) {
            due("status(" + what + ")", k.status(what), what + 1);
        }
        due("status(4)", k.status(4), -1);
        due("status(-1)", k.status(-1), -1);
        due("faults are no refusals", street(k, "x"), -9);
        KerbSplash most = new KerbSplash();
        for (int i = 0; i < 511; i++) {
            refused("told(-1)", ARGUMENT, () -> most.told(-1));
        }
        due("the 512th call", most.status(2), 511);
        due("nor -1", k.restore(), -1);
        due("status(2)", k.status(2), 3);
    }

    private static void counts() {
        KerbSplash k = with("");
        k.traffic(0, 0, 1, 1, 0);
        k.dip(1, 1, 1);
        k.dip(1, 1, 1);
        k.image();
        k.image();
        k.image();
        k.feed(0, 0, 0, 0, 0);
        int[] due = {1, 2, 3, 20};
        for (int what = 0; what < 4; what++) {
            due("count(" + what + ")", k.count(what), due[what]);
        }
        due("count(4)", k.count(4), -1);
        due("count(-1)", k.count(-1), -1);
    }

    private static final Runnable[][] PROMISES = {
        {PromisesTest::newObject}, {PromisesTest::feeding},
        {PromisesTest::streetTexts, PromisesTest::streetLimits, PromisesTest::streetState,
            PromisesTest::streetsOneBehindAnother},
        {PromisesTest::rains, PromisesTest::rainBehindAFaultyOne}, {PromisesTest::lawTexts, PromisesTest::lawsOpen, PromisesTest::lawBehindAFaultyOne}, {PromisesTest::faults},
        {PromisesTest::tellings}, {PromisesTest::cells}, {PromisesTest::drains}, {PromisesTest::leaves},
        {PromisesTest::persons}, {PromisesTest::works}, {PromisesTest::doing}, {PromisesTest::minutes},
        {PromisesTest::showers}, {PromisesTest::sums}, {PromisesTest::sayings},
        {PromisesTest::cars, PromisesTest::kindsOfCars}, {PromisesTest::traffic}, {PromisesTest::passing},
        {PromisesTest::clearing}, {PromisesTest::depths, PromisesTest::at600}, {PromisesTest::whens}, {PromisesTest::blames},
        {PromisesTest::looks}, {PromisesTest::stands}, {PromisesTest::paces}, {PromisesTest::moves},
        {PromisesTest::mends}, {PromisesTest::shares}, {PromisesTest::meaning}, {PromisesTest::dips},
        {PromisesTest::towns}, {PromisesTest::sweeps}, {PromisesTest::ices}, {PromisesTest::images, PromisesTest::imagesKeepWhatWasTold},
        {PromisesTest::restoring}, {PromisesTest::statuses}, {PromisesTest::counts}};

    public static void main(String[] args) {
        for (int i = 0; i < PROMISES.length; i++) {
            about = "promise " + (i + 1);
            for (Runnable test : PROMISES[i]) {
                test.run();
            }
        }
        end(PROMISES.length + " promises");
    }
}
