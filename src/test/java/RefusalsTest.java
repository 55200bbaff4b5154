import java.util.ArrayList;
import java.util.List;

/**
 * Each number of each call: the least and the most are taken, one beyond is refused as the document says. Behind a
 * refused call, behind an answer -1 and behind what would only come of it, all is as on a twin that never had the call,
 * but for the count of refused calls.
 */
public final class RefusalsTest extends Checks {
    interface Maker {
        KerbSplash make();
    }

    interface Act {
        int on(KerbSplash k);
    }

    interface Numbered {
        int on(KerbSplash k, int number);
    }

    private static final Class<?>[] REASONS = {OUTSIDE, NO_SUCH, ARGUMENT, STATE};
    private static final int[] NO_STATUS = {0, 0, 0, 0};
    private static final int MAX = Integer.MAX_VALUE;
    private static final int MIN = Integer.MIN_VALUE;
    private static final String RICH_STREET = "size 3 2;high 0 0 60;high 1 0 40;drain 1 0 16 8;drain 2 1 3 16;"
        + "person 0 0;person 1 3;shelter 1 2;clear 1 4;lower 2 0 9 2;bore 1 0 5 7;raise 0 1 9 99;";
    private static final String RICH_LAW = "throw=depth;reach=9;wet=depth+far-shelter;slow=pace/2;out=1;";

    private static KerbSplash noStreet() {
        KerbSplash k = new KerbSplash();
        rain(k, "rain 3 2;");
        law(k, RICH_LAW);
        k.dip(5, 5, 5);
        k.share(1, 9);
        k.image();
        k.dip(6, 6, 6);
        street(k, "size 1;");
        feed(k, "size 2 1;");
        return k;
    }

    private static KerbSplash rich() {
        KerbSplash k = new KerbSplash();
        rain(k, "rain 3 2;");
        rain(k, "rain 1 1;rain 0 3;");
        law(k, RICH_LAW);
        law(k, "");
        street(k, RICH_STREET);
        k.minutes(2, 5);
        k.traffic(2, 0, 30, 2, 0);
        k.traffic(0, 1, 20, 3, 2);
        k.dip(3, 4, 5);
        k.dip(5, 4, 4);
        k.share(3, 7);
        k.does(2);
        k.image();
        k.car(0, 0, 30, 1, 0);
        k.does(1);
        k.share(2, 8);
        rain(k, "rain 1 x");
        feed(k, "size 2 1;");
        return k;
    }

    private static KerbSplash at600() {
        KerbSplash k = rich();
        for (int i = 0; i < 10; i++) {
            k.minutes(60, 1);
        }
        return k;
    }

    private static KerbSplash full() {
        KerbSplash k = new KerbSplash();
        for (int i = 0; i < 4; i++) {
            rain(k, "rain " + i + " 2;");
            law(k, RICH_LAW);
        }
        street(k, RICH_STREET);
        k.minutes(2, 5);
        for (int i = 0; i < 3; i++) {
            k.image();
            k.minutes(1, 1);
        }
        for (int i = 0; i < 20; i++) {
            k.traffic(i, 0, 1 + i, 2, i % 4);
        }
        for (int i = 0; i < 9; i++) {
            k.dip(1 + i, 9 - i, 30);
        }
        feed(k, "high0 0 1;".repeat(60));
        return k;
    }

    private static void see(List<String> all, KerbSplash k, Act act) {
        all.add(outcome(() -> act.on(k)));
    }

    private static void seeRow(List<String> all, KerbSplash k, int most, Numbered act) {
        for (int i = 0; i < most; i++) {
            int number = i;
            see(all, k, o -> act.on(o, number));
        }
    }

    private static void seeNow(List<String> all, KerbSplash k) {
        seeRow(all, k, 9, KerbSplash::told);
        seeRow(all, k, 4, KerbSplash::count);
        seeRow(all, k, 4, KerbSplash::sums);
        see(all, k, KerbSplash::fault);
        int wide = k.told(0);
        seeRow(all, k, wide * k.told(1), (o, at) -> o.cell(at % wide, at / wide, 0));
        seeRow(all, k, wide * k.told(1), (o, at) -> o.cell(at % wide, at / wide, 1));
        seeRow(all, k, 4 * k.told(2), (o, at) -> o.drain(at / 4, at % 4));
        seeRow(all, k, 4 * k.told(3), (o, at) -> o.person(at / 4, at % 4));
        seeRow(all, k, 2 * k.told(5), (o, at) -> o.work(at / 2, at % 2));
        seeRow(all, k, 4, RefusalsTest::shareOf);
        seeRow(all, k, 3, KerbSplash::town);
        seeRow(all, k, 2, KerbSplash::sweep);
    }

    private static int shareOf(KerbSplash k, int kind) {
        int share = k.share(kind, 1);
        k.share(kind, share);
        return share;
    }

    /** All that can be seen of an object, the last of it by changing it. */
    private static List<String> view(KerbSplash k) {
        List<String> all = new ArrayList<>();
        seeNow(all, k);
        seeRow(all, k, k.told(6), (o, rain) -> o.deep(rain, 1, 0));
        seeRow(all, k, k.told(7), (o, law) -> o.says(law, 2, 1, 2, 3, 4, 5, 6, 7));
        seeRow(all, k, 2, (o, what) -> o.moved(0, what));
        seeRow(all, k, k.told(5), KerbSplash::does);
        see(all, k, o -> o.pass(0));
        see(all, k, o -> o.minutes(1, 1));
        seeNow(all, k);
        for (int i = 0; i < 4; i++) {
            see(all, k, KerbSplash::restore);
            seeRow(all, k, 3, (o, what) -> o.told(2 + 3 * what));
            seeRow(all, k, 4, KerbSplash::sums);
            seeRow(all, k, 3, KerbSplash::count);
            seeRow(all, k, k.told(5), KerbSplash::does);
        }
        see(all, k, o -> o.street(Math.min(9, o.count(3))));
        see(all, k, KerbSplash::fault);
        return all;
    }

    private static int[] statusOf(KerbSplash k) {
        return new int[] {k.status(0), k.status(1), k.status(2), k.status(3)};
    }

    private static void sameAsTwin(String what, KerbSplash k, KerbSplash twin, int[] more) {
        int[] got = statusOf(k);
        int[] due = statusOf(twin);
        for (int i = 0; i < 4; i++) {
            due(what + ", then status(" + i + ")", got[i], due[i] + more[i]);
        }
        List<String> seen = view(k);
        List<String> wanted = view(twin);
        checks++;
        if (!seen.equals(wanted)) {
            tell(what + ", then all that can be seen", seen.toString(), wanted.toString());
        }
    }

    private static void refuses(String what, Class<?> why, Maker maker, Act act) {
        KerbSplash k = maker.make();
        refused(what, why, () -> act.on(k));
        int[] more = new int[4];
        for (int i = 0; i < 4; i++) {
            more[i] = REASONS[i] == why ? 1 : 0;
        }
        sameAsTwin(what, k, maker.make(), more);
    }

    /** A call that answers so, and of which nothing stays. */
    private static void leavesAll(String what, int want, Maker maker, Act act) {
        KerbSplash k = maker.make();
        due(what, act.on(k), want);
        sameAsTwin(what, k, maker.make(), NO_STATUS);
    }

    private static void takes(String what, Maker maker, Act act) {
        KerbSplash k = maker.make();
        checks++;
        String got = outcome(() -> act.on(k));
        if (got.endsWith("Exception")) {
            tell(what, got, "an answer");
        }
        due(what + ", then refused calls", statusOf(k)[0] + statusOf(k)[1] + statusOf(k)[2] + statusOf(k)[3], 0);
    }

    private static void number(String what, int least, int most, Class<?> why, Maker maker, Numbered act) {
        takes(what + " " + least, maker, k -> act.on(k, least));
        takes(what + " " + most, maker, k -> act.on(k, most));
        noNumber(what, new int[] {least - 1, most + 1, MIN, MAX}, why, maker, act);
    }

    private static void noNumber(String what, int[] wrongOnes, Class<?> why, Maker maker, Numbered act) {
        for (int one : wrongOnes) {
            refuses(what + " " + one, why, maker, k -> act.on(k, one));
        }
    }

    private static void number(String what, int least, int most, Numbered act) {
        number(what, least, most, ARGUMENT, RefusalsTest::rich, act);
    }

    private static void what(String call, int most, Numbered act) {
        number(call + " what", 0, most, ARGUMENT, RefusalsTest::rich, act);
    }

    private static void cellOf(String call, Numbered along, Numbered across) {
        number(call + " x", 0, 2, OUTSIDE, RefusalsTest::rich, along);
        number(call + " y", 0, 1, OUTSIDE, RefusalsTest::rich, across);
        noNumber(call + " x without a street", new int[] {0, 1}, OUTSIDE, RefusalsTest::noStreet, along);
        noNumber(call + " y without a street", new int[] {0, 1}, OUTSIDE, RefusalsTest::noStreet, across);
    }

    private static void element(String call, int most, Numbered act) {
        number(call, 0, most, NO_SUCH, RefusalsTest::rich, act);
        noNumber(call + " of a new object", new int[] {0, -1, 1}, NO_SUCH, KerbSplash::new, act);
    }

    private static void carOf(String call, Numbered row, Numbered pace, Numbered tyre) {
        number(call + " row", 0, 1, row);
        number(call + " tyre", 1, 9, tyre);
        if (pace != null) {
            number(call + " pace", 1, 60, pace);
        }
    }

    private static void texts() {
        number("street n", 0, 20, (k, n) -> k.street(n));
        number("rain n", 0, 20, (k, n) -> k.rain(n));
        number("law n", 0, 20, (k, n) -> k.law(n));
        number("street n of 600", 0, 600, ARGUMENT, RefusalsTest::full, (k, n) -> k.street(n));
        number("rain n of 600", 0, 600, ARGUMENT, RefusalsTest::full, (k, n) -> k.rain(n));
        number("law n of 600", 0, 600, ARGUMENT, RefusalsTest::full, (k, n) -> k.law(n));
        number("street n of none", 0, 0, ARGUMENT, KerbSplash::new, (k, n) -> k.street(n));
        number("rain n of none", 0, 0, ARGUMENT, KerbSplash::new, (k, n) -> k.rain(n));
        number("law n of none", 0, 0, ARGUMENT, KerbSplash::new, (k, n) -> k.law(n));
    }

    private static void faultyTexts() {
        String[] streets = {"size 17 1;", "x", "size 2 1;size 2 1;", "shelter 0 0;shelter 0 0;shelter 0 0;",
            "size 2 1;high 0 0 9;drain 0 0 1 1;person 0 0;shelter 0 0;bore 0 0 1 1;high"};
        for (String text : streets) {
            leavesAll("a faulty street " + text, 0, RefusalsTest::rich, k -> faulty(k, street(k, text)));
            leavesAll("without a street " + text, 0, RefusalsTest::noStreet, k -> faulty(k, street(k, text)));
        }
        leavesAll("a faulty rain", 0, RefusalsTest::rich, k -> faulty(k, rain(k, "rain 1 1;rain 21 1;")));
        leavesAll("a faulty law", 0, RefusalsTest::rich, k -> faulty(k, law(k, "throw=1;wet=3;out=5;slow=(((((((1;")));
        leavesAll("an empty rain", 0, RefusalsTest::rich, k -> faulty(k, rain(k, "")));
    }

    // The tape and the place of the fault are put back as the twin has them, so that all else can be compared.
    private static int faulty(KerbSplash k, int answer) {
        boolean faulty = answer >= -9 && answer <= -6 && k.fault() >= 0 && k.count(3) == 0;
        if (k.told(0) == 0) {
            street(k, "size 1;");
        } else {
            rain(k, "rain 1 x");
        }
        feed(k, "size 2 1;");
        return faulty ? 0 : answer;
    }

    private static void seen() {
        what("told", 8, (k, what) -> k.told(what));
        noNumber("told of a new object", new int[] {-1, 9}, ARGUMENT, KerbSplash::new, (k, what) -> k.told(what));
        cellOf("cell", (k, x) -> k.cell(x, 0, 0), (k, y) -> k.cell(0, y, 0));
        what("cell", 2, (k, what) -> k.cell(0, 0, what));
        refuses("no cell, no what", OUTSIDE, RefusalsTest::rich, k -> k.cell(3, 0, 3));
        element("drain", 2, (k, drain) -> k.drain(drain, 0));
        what("drain", 3, (k, what) -> k.drain(0, what));
        refuses("no drain, no what", NO_SUCH, RefusalsTest::rich, k -> k.drain(3, 4));
        element("person", 1, (k, person) -> k.person(person, 0));
        what("person", 3, (k, what) -> k.person(0, what));
        refuses("no person, no what", NO_SUCH, RefusalsTest::rich, k -> k.person(2, 4));
        element("work", 3, (k, work) -> k.work(work, 0));
        what("work", 1, (k, what) -> k.work(0, what));
        refuses("no work, no what", NO_SUCH, RefusalsTest::rich, k -> k.work(4, 2));
        what("sums", 3, (k, what) -> k.sums(what));
        element("says law", 1, (k, law) -> k.says(law, 0, 1, 1, 1, 1, 1, 1, 1));
        what("says", 4, (k, what) -> k.says(0, what, MAX, MIN, MAX, MIN, MAX, MIN, MAX));
        refuses("no law, no what", NO_SUCH, RefusalsTest::rich, k -> k.says(2, 5, 1, 1, 1, 1, 1, 1, 1));
    }

    private static void leavesAndWorks() {
        element("does", 3, (k, work) -> k.does(work));
        number("leaves drain", 0, 1, NO_SUCH, () -> restored(), (k, drain) -> k.leaves(drain, 3));
        noNumber("leaves of a new object", new int[] {0, -1}, NO_SUCH, KerbSplash::new, (k, drain) -> k.leaves(drain, 3));
        number("leaves n", 0, 16, (k, n) -> k.leaves(1, n));
        noNumber("leaves of a bored one", new int[] {0, 1, 16, 17, -1}, ARGUMENT, RefusalsTest::rich,
            (k, n) -> k.leaves(2, n));
        refuses("no drain, no leaves", NO_SUCH, RefusalsTest::rich, k -> k.leaves(3, 17));
    }

    /** A street with two drains, its bored one not done yet. */
    private static KerbSplash restored() {
        KerbSplash k = new KerbSplash();
        law(k, RICH_LAW);
        street(k, RICH_STREET);
        return k;
    }

    private static void waters() {
        number("minutes n", 1, 60, (k, n) -> k.minutes(n, 1));
        number("minutes rain", 0, 20, (k, rain) -> k.minutes(1, rain));
        refuses("minutes without a street", STATE, KerbSplash::new, k -> k.minutes(1, 0));
        refuses("minutes without a street", STATE, RefusalsTest::noStreet, k -> k.minutes(60, 20));
        refuses("wrong minutes without a street", ARGUMENT, RefusalsTest::noStreet, k -> k.minutes(61, 20));
        refuses("minutes at 600", STATE, RefusalsTest::at600, k -> k.minutes(1, 0));
        refuses("wrong minutes at 600", ARGUMENT, RefusalsTest::at600, k -> k.minutes(0, 0));
        refuses("wrong rain at 600", ARGUMENT, RefusalsTest::at600, k -> k.minutes(1, 21));
        element("shower", 1, (k, rain) -> k.shower(rain));
        refuses("shower without a street", STATE, RefusalsTest::noStreet, k -> k.shower(0));
        refuses("no shower without a street", NO_SUCH, RefusalsTest::noStreet, k -> k.shower(1));
        refuses("shower at 600", STATE, RefusalsTest::at600, k -> k.shower(0));
        refuses("no shower at 600", NO_SUCH, RefusalsTest::at600, k -> k.shower(2));
    }

    private static void cars() {
        element("car law", 1, (k, law) -> k.car(law, 0, 1, 1, 0));
        carOf("car", (k, row) -> k.car(0, row, 1, 1, 0), (k, pace) -> k.car(0, 0, pace, 1, 0),
            (k, tyre) -> k.car(0, 0, 1, tyre, 0));
        number("car kind", 0, 3, (k, kind) -> k.car(0, 0, 1, 1, kind));
        refuses("no law, no car", NO_SUCH, RefusalsTest::rich, k -> k.car(2, 2, 0, 0, 4));
        refuses("without a street no row", ARGUMENT, RefusalsTest::noStreet, k -> k.car(0, 0, 1, 1, 0));
        carOf("traffic", (k, row) -> k.traffic(0, row, 1, 1, 0), (k, pace) -> k.traffic(0, 0, pace, 1, 0),
            (k, tyre) -> k.traffic(0, 0, 1, tyre, 0));
        number("traffic rounds", 0, 99, (k, rounds) -> k.traffic(rounds, 0, 1, 1, 0));
        number("traffic kind", 0, 3, (k, kind) -> k.traffic(0, 0, 1, 1, kind));
        refuses("traffic without a street", ARGUMENT, RefusalsTest::noStreet, k -> k.traffic(0, 0, 1, 1, 0));
        refuses("a wrong 21st", ARGUMENT, RefusalsTest::full, k -> k.traffic(100, 0, 1, 1, 0));
        element("pass law", 1, (k, law) -> k.pass(law));
        refuses("pass without a street", STATE, RefusalsTest::noStreet, k -> k.pass(0));
        refuses("no pass without a street", NO_SUCH, RefusalsTest::noStreet, k -> k.pass(1));
        takes("car at 600", RefusalsTest::at600, k -> k.car(0, 0, 1, 1, 0));
        takes("pass at 600", RefusalsTest::at600, k -> k.pass(0));
    }

    private static void ofARain() {
        cellOf("deep", (k, x) -> k.deep(0, x, 0), (k, y) -> k.deep(0, 0, y));
        number("deep rain", 0, 1, NO_SUCH, RefusalsTest::rich, (k, rain) -> k.deep(rain, 0, 0));
        refuses("no rain, no cell", OUTSIDE, RefusalsTest::rich, k -> k.deep(2, 3, 0));
        cellOf("when", (k, x) -> k.when(0, x, 0, 1), (k, y) -> k.when(0, 0, y, 1));
        number("when rain", 0, 1, NO_SUCH, RefusalsTest::rich, (k, rain) -> k.when(rain, 0, 0, 1));
        number("when n", 1, 9999, (k, n) -> k.when(0, 0, 0, n));
        refuses("no rain, no n", NO_SUCH, RefusalsTest::rich, k -> k.when(2, 0, 0, 0));
        cellOf("blame", (k, x) -> k.blame(0, x, 0, 0), (k, y) -> k.blame(0, 0, y, 0));
        number("blame rain", 0, 1, NO_SUCH, RefusalsTest::rich, (k, rain) -> k.blame(rain, 0, 0, 0));
        what("blame", 1, (k, what) -> k.blame(0, 0, 0, what));
        refuses("no rain, no what", NO_SUCH, RefusalsTest::rich, k -> k.blame(2, 0, 0, 2));
        element("look", 1, (k, rain) -> k.look(rain, 0));
        what("look", 1, (k, what) -> k.look(0, what));
        refuses("look without a street", STATE, RefusalsTest::noStreet, k -> k.look(0, 0));
        refuses("look without a street, no what", ARGUMENT, RefusalsTest::noStreet, k -> k.look(0, 2));
        cellOf("mend", (k, x) -> k.mend(0, x, 0, 1, 0), (k, y) -> k.mend(0, 0, y, 1, 0));
        number("mend rain", 0, 1, NO_SUCH, RefusalsTest::rich, (k, rain) -> k.mend(rain, 0, 0, 1, 0));
        number("mend n", 0, 9999, (k, n) -> k.mend(0, 0, 0, n, 0));
        what("mend", 1, (k, what) -> k.mend(0, 0, 0, 1, what));
        refuses("no rain, no n", NO_SUCH, RefusalsTest::rich, k -> k.mend(2, 0, 0, -1, 2));
    }

    private static void ofALaw() {
        element("stand law", 1, (k, law) -> k.stand(law, 0, 0));
        number("stand most", 0, 19, (k, most) -> k.stand(0, most, 0));
        what("stand", 1, (k, what) -> k.stand(0, 0, what));
        refuses("stand without a street", STATE, RefusalsTest::noStreet, k -> k.stand(0, 0, 0));
        refuses("wrong stand without a street", ARGUMENT, RefusalsTest::noStreet, k -> k.stand(0, 20, 0));
        element("pace law", 1, (k, law) -> k.pace(law, 0, 1, 0));
        carOf("pace", (k, row) -> k.pace(0, row, 1, 0), null, (k, tyre) -> k.pace(0, 0, tyre, 0));
        number("pace n", 0, 9999, (k, n) -> k.pace(0, 0, 1, n));
        refuses("pace without a street, so no row", ARGUMENT, RefusalsTest::noStreet, k -> k.pace(0, 0, 1, 0));
        element("moved law", 1, (k, law) -> k.moved(law, 0));
        what("moved", 1, (k, what) -> k.moved(0, what));
        refuses("moved without a street", STATE, RefusalsTest::noStreet, k -> k.moved(0, 0));
        refuses("moved without a street, no what", ARGUMENT, RefusalsTest::noStreet, k -> k.moved(0, 2));
        cellOf("meant", (k, x) -> k.meant(0, x, 0, 1, 0, 1, 1), (k, row) -> k.meant(0, 0, row, 1, 0, 1, 1));
        number("meant law", 0, 1, NO_SUCH, RefusalsTest::rich, (k, law) -> k.meant(law, 0, 0, 1, 0, 1, 1));
        number("meant seen pace", 1, 60, (k, pace) -> k.meant(0, 0, 0, pace, 0, 1, 1));
        carOf("meant", (k, row) -> k.meant(0, 0, 0, 1, row, 1, 1), (k, pace) -> k.meant(0, 0, 0, 1, 0, pace, 1),
            (k, tyre) -> k.meant(0, 0, 0, 1, 0, 1, tyre));
        refuses("no law, no pace", NO_SUCH, RefusalsTest::rich, k -> k.meant(2, 0, 0, 0, 2, 0, 0));
    }

    private static void sharesAndOrders() {
        number("share kind", 0, 3, (k, kind) -> k.share(kind, 1));
        number("share n", 0, 99, (k, n) -> k.share(0, n));
        number("share n without a street", 0, 99, ARGUMENT, KerbSplash::new, (k, n) -> k.share(3, n));
        number("dip persons", 1, 99, (k, persons) -> k.dip(persons, 1, 1));
        number("dip days", 1, 30, (k, days) -> k.dip(1, days, 1));
        number("dip by", 1, 99, (k, by) -> k.dip(1, 1, by));
        number("dip by without a street", 1, 99, ARGUMENT, KerbSplash::new, (k, by) -> k.dip(1, 1, by));
        refuses("a wrong tenth", ARGUMENT, RefusalsTest::full, k -> k.dip(0, 1, 1));
        what("town", 2, (k, what) -> k.town(what));
        noNumber("town of a new object", new int[] {-1, 3}, ARGUMENT, KerbSplash::new, (k, what) -> k.town(what));
        what("sweep", 1, (k, what) -> k.sweep(what));
        noNumber("sweep of a new object", new int[] {-1, 2}, ARGUMENT, KerbSplash::new, (k, what) -> k.sweep(what));
        number("ice n", 1, 9999, (k, n) -> k.ice(n, 0));
        what("ice", 2, (k, what) -> k.ice(1, what));
        noNumber("ice of a new object", new int[] {0, 10000}, ARGUMENT, KerbSplash::new, (k, n) -> k.ice(n, 0));
    }

    private static void oneTooMany() {
        leavesAll("feed beyond 600", -1, RefusalsTest::full, k -> k.feed(1, 2, 3, 4, 5));
        leavesAll("a 21st car", -1, RefusalsTest::full, k -> k.traffic(99, 1, 60, 9, 3));
        leavesAll("a tenth dip", -1, RefusalsTest::full, k -> k.dip(99, 30, 99));
        leavesAll("a fourth image", -1, RefusalsTest::full, KerbSplash::image);
        leavesAll("no image", -1, KerbSplash::new, KerbSplash::restore);
        leavesAll("a fifth rain", -1, RefusalsTest::full, k -> refed(k, k.rain(600)));
        leavesAll("a fifth law", -1, RefusalsTest::full, k -> refed(k, k.law(600)));
        leavesAll("a fifth rain of none", -1, RefusalsTest::full, k -> refed(k, k.rain(0)));
        leavesAll("a fifth law of none", -1, RefusalsTest::full, k -> refed(k, k.law(0)));
    }

    private static int refed(KerbSplash k, int answer) {
        due("the tape is empty", k.count(3), 0);
        feed(k, "high0 0 1;".repeat(60));
        return answer;
    }

    private static int sumOf(int... answers) {
        return answers.length == 0 ? 1 : 0;
    }

    private static void nothingStaysChanged() {
        Maker[] makers = {RefusalsTest::rich, RefusalsTest::at600, RefusalsTest::full};
        for (Maker maker : makers) {
            leavesAll("deep", 0, maker, k -> sumOf(k.deep(0, 1, 0), k.deep(1, 2, 1)));
            leavesAll("when", 0, maker, k -> sumOf(k.when(0, 1, 0, 1), k.when(0, 1, 0, 9999)));
            leavesAll("blame", 0, maker, k -> sumOf(k.blame(0, 1, 0, 0), k.blame(1, 1, 0, 1)));
            leavesAll("look", 0, maker, k -> sumOf(k.look(0, 0), k.look(0, 1)));
            leavesAll("stand", 0, maker, k -> sumOf(k.stand(0, 0, 0), k.stand(0, 19, 1)));
            leavesAll("pace", 0, maker, k -> sumOf(k.pace(0, 0, 1, 0), k.pace(0, 1, 9, 9999)));
            leavesAll("moved", 0, maker, k -> sumOf(k.moved(0, 0), k.moved(0, 1)));
            leavesAll("mend", 0, maker, k -> sumOf(k.mend(0, 1, 0, 0, 0), k.mend(0, 1, 0, 9999, 1)));
            leavesAll("meant", 0, maker, k -> sumOf(k.meant(0, 1, 0, 9, 0, 9, 1), k.meant(0, 1, 1, 9, 1, 9, 1)));
            leavesAll("says", 0, maker, k -> sumOf(k.says(0, 0, 9, 8, 7, 6, 5, 4, 3), k.says(0, 4, 9, 8, 7, 6, 5, 4, 3)));
            leavesAll("town, sweep and ice", 0, maker, k -> sumOf(k.town(2), k.sweep(1), k.ice(1, 0)));
            leavesAll("status and count", 0, maker, k -> sumOf(k.status(2), k.count(2), k.status(MIN), k.count(MAX)));
        }
    }

    private static void statusAndCount() {
        for (int what : new int[] {-1, 4, MIN, MAX}) {
            leavesAll("status(" + what + ")", -1, RefusalsTest::rich, k -> k.status(what));
            leavesAll("count(" + what + ")", -1, RefusalsTest::rich, k -> k.count(what));
        }
        KerbSplash k = rich();
        for (int i = 1; i <= 3; i++) {
            refused("cell", OUTSIDE, () -> k.cell(3, 0, 0));
            due("by one more", k.status(0), i);
        }
        k.restore();
        due("no image keeps it", k.status(0), 3);
        k.image();
        refused("drain", NO_SUCH, () -> k.drain(9, 0));
        k.restore();
        due("nor any other", k.status(1), 1);
        street(k, "size 2 1;");
        due("a new street leaves it", k.status(0) + k.status(1), 4);
    }

    private static final Runnable[] TESTS = {RefusalsTest::texts, RefusalsTest::faultyTexts, RefusalsTest::seen,
        RefusalsTest::leavesAndWorks, RefusalsTest::waters, RefusalsTest::cars, RefusalsTest::ofARain,
        RefusalsTest::ofALaw, RefusalsTest::sharesAndOrders, RefusalsTest::oneTooMany,
        RefusalsTest::nothingStaysChanged, RefusalsTest::statusAndCount};

    public static void main(String[] args) {
        about = "refusals";
        for (Runnable test : TESTS) {
            test.run();
        }
        end("refused calls");
    }
}
