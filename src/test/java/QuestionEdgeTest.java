/** "==== 3" and the promises that only ask: each sentence that names a bound or an empty case, on both of its sides. */
public final class QuestionEdgeTest {
    private static final String TWO = "house 1 0;house 1 0;";
    private static final String DOZEN = TWO + "debt 0 1 0 1;".repeat(12);
    private static final String SMALL = "house 3 2;house 5 7;debt 0 1 2 10;debt 1 0 4 7;debt 0 1 9 1;flour 0 50;water 30;";

    public static void main(String[] args) {
        nothingStaysChanged(); aheadOfDays(); beyondLastDay(); lasts(); planEnough(); planWater(); planTies(); mostWater();
        mostTies(); ring(); tangle(); ground(); groundFirst(); askNone(); ask(); mix(); creditors(); wheel(); shares();
        sharesOfOne(); yearDraws(); yearRain(); yearGone(); yearSeeds(); span(); whitest(); hungriest(); net(); even(); honest();
        kinds(); oldest(); thirst(); would(); debtGone(); can(); fullValley(); emptyValley();
        Check.end();
    }

    private static void all(DebtMiller x) {
        x.ahead(99, 0); x.ahead(3, 1); x.lasts(0); x.plan(0, 99); x.plan(1, 1); x.most(0); x.most(1); x.ring(0); x.tangle(0);
        x.ground(1); x.ask(0); x.ask(1); x.mix(5); x.creditors(5, 3, 1); x.wheel(3, 2, 5, 0); x.share(0, 3, 5);
        x.whitest(0); x.hungriest(0); x.net(0); x.even(0); x.honest(); x.kind(2); x.oldest(0); x.thirst(); x.can(0);
        x.year(7, 96, 9, 0); x.span(7, 20, 96, 9, 2, 1); x.would(1, 0, 0, 0, 1, 0, 0, 0, 0); x.status(0); x.count(0);
    }

    // "Asked, nothing stays changed"
    private static void nothingStaysChanged() {
        DebtMiller x = Check.with(SMALL);
        Check.law(x, "weight+hunger");
        Check.book(x, "0 10;");
        Check.work(x, "day;forgive 2;forgive 2;rain 9;");
        x.image();
        Check.feed(x, "day;");
        String before = Check.seen(x);
        all(x);
        Check.same("what questions leave", Check.seen(x), before);
        Check.due("no fault", x.fault(), -1);
        Check.due("the tape as well", x.work(4), 1);
        Check.due("undo", x.undo(), 1);
        Check.due("restore", x.restore(), 0);
        Check.due("undo", x.undo(), 0);
        Check.due("day 0", x.told(2), 0);
        Check.due("all there", x.told(4), 7);
    }

    // ahead: "In n DAYS (0 to 99), nothing else being done"
    private static void aheadOfDays() {
        DebtMiller x = Check.with("house 1 0;house 3 0;flour 0 98;flour 1 4;");
        Check.due("in 0", x.ahead(0, 0), 102);
        Check.due("in 0", x.ahead(0, 1), 0);
        Check.due("in 0", x.ahead(0, 2), 0);
        Check.due("in 1", x.ahead(1, 0), 98);
        Check.due("in 1", x.ahead(1, 1), 0);
        Check.due("in 2", x.ahead(2, 1), 2);
        Check.due("in 2", x.ahead(2, 2), 2);
        Check.due("in 98", x.ahead(98, 1), 2);
        Check.due("in 98", x.ahead(98, 0), 0);
        Check.due("in 99", x.ahead(99, 1), 3);
        Check.due("in 99, 99 at most each", x.ahead(99, 2), 100);
        Check.refused("in 100", () -> x.ahead(100, 0));
        Check.refused("in -1", () -> x.ahead(-1, 0));
    }

    private static DebtMiller onLastDay(String valley) {
        DebtMiller x = Check.with(valley);
        for (int i = 0; i < 3; i++) {
            Check.work(x, "again 60[day;day;day;];");
        }
        Check.due("day 400", x.told(2), 400);
        return x;
    }

    // "DAYS go by as by day (beyond 400, too)"
    private static void beyondLastDay() {
        DebtMiller x = onLastDay(TWO + "debt 0 1 0 5;water 1;");
        Check.law(x, "age-400");
        Check.due("flour now", x.debt(0, 5), 0);
        Check.due("in a year by rain, two days", x.year(1, 2, 16, 0), 1);
        Check.due("ahead", x.ahead(1, 2), 198);
        DebtMiller y = onLastDay(DOZEN + "water 99;");
        Check.work(y, "grind 0;");
        Check.due("flour of an old one", y.house(0, 2), 99);
        Check.due("eaten beyond 400", y.ahead(9, 0), 90);
        Check.due("all eaten beyond 400", y.ahead(99, 0), 0);
        Check.due("lasts beyond 400", y.lasts(0), 99);
        Check.due("still day 400", y.told(2), 400);
    }

    // "LASTS of a HOUSE: how many DAYS (of 99) .. it eats enough from now on"
    private static void lasts() {
        DebtMiller x = Check.with("house 9 0;house 9 0;house 9 0;house 1 0;house 1 0;house 9 0;flour 1 8;flour 2 9;flour 3 98;flour 4 99;flour 5 18;");
        int[] want = {0, 0, 1, 98, 99, 2};
        for (int h = 0; h < 6; h++) {
            Check.due("lasts " + h, x.lasts(h), want[h]);
        }
        Check.work(x, "give 3 4 1;");
        Check.due("99 of 100", x.lasts(4), 99);
        Check.due("97", x.lasts(3), 97);
        Check.work(x, "day;give 5 1 9;");
        Check.due("hunger counts not", x.lasts(1), 1);
        Check.due("hungry", x.house(1, 3), 1);
    }

    // "PLAN of a HOUSE for n: the fewest of its DEBTS that are there .. are MOUTHS by n or more .. ; NONE"
    private static void planEnough() {
        DebtMiller x = Check.with("house 3 0;house 1 0;debt 0 1 0 5;debt 1 0 0 30;flour 0 9;water 99;");
        Check.due("for 0", x.plan(0, 0), 0);
        Check.due("just by the crock", x.plan(0, 3), 0);
        Check.due("by one debt", x.plan(0, 4), 1);
        Check.due("just by one debt, one short", x.plan(0, 6), 1);
        Check.due("another's debt fills none", x.plan(0, 7), -1);
        Check.due("for 99", x.plan(0, 99), -1);
        Check.law(x, "12");
        Check.due("just 21", x.plan(0, 7), 1);
        Check.law(x, "11");
        Check.due("one less than 21", x.plan(0, 7), -1);
        Check.due("no debts, nothing needed", Check.with("house 9 0;").plan(0, 0), 0);
        Check.due("no debts", Check.with("house 9 0;").plan(0, 1), -1);
        DebtMiller y = Check.with("house 1 0;house 1 0;debt 0 1 0 30;debt 0 1 0 30;water 99;");
        Check.due("for 99 by two", y.plan(0, 99), 3);
        Check.work(y, "forgive 0;");
        Check.due("gone ones count not", y.plan(0, 99), -1);
        Check.due("the other one", y.plan(0, 60), 2);
        Check.refused("for 100", () -> y.plan(0, 100));
        Check.refused("for -1", () -> y.plan(0, -1));
        Check.missing("house 2", () -> y.plan(2, 0));
        Check.missing("house 2 ahead of n", () -> y.plan(2, -1));
    }

    // "DRINKS together no more than there is"
    private static void planWater() {
        String debts = TWO + "debt 0 1 0 10;debt 0 1 0 10;";
        Check.due("just enough water", Check.with(debts + "water 6;").plan(0, 40), 3);
        Check.due("too little water", Check.with(debts + "water 5;").plan(0, 40), -1);
        Check.due("for one", Check.with(debts + "water 5;").plan(0, 20), 1);
        Check.due("for none", Check.with(debts + "water 2;").plan(0, 20), -1);
        Check.due("no water, nothing needed", Check.with(debts + "water 0;").plan(0, 0), 0);
    }

    // "of as few the least bits"
    private static void planTies() {
        DebtMiller x = Check.with(TWO + "debt 0 1 0 1;debt 0 1 0 6;debt 0 1 0 5;debt 0 1 0 12;water 99;");
        Check.due("one, not two of less bits", x.plan(0, 13), 8);
        Check.due("the first of one", x.plan(0, 12), 2);
        Check.due("the first of one", x.plan(0, 10), 2);
        Check.due("the first of two", x.plan(0, 26), 9);
        Check.due("two", x.plan(0, 27), 10);
        Check.due("all", x.plan(0, 48), 15);
        Check.due("more than all", x.plan(0, 49), -1);
    }

    // "MOST: of all sets of DEBTS that are there, DRINKS together no more than there is"
    private static void mostWater() {
        String debts = TWO + "debt 0 1 0 10;debt 1 0 0 10;debt 0 1 0 1;";
        int[] flours = {0, 2, 2, 20, 22, 22, 40, 42};
        int[] sets = {0, 4, 4, 1, 5, 5, 3, 7};
        for (int water = 0; water < 8; water++) {
            DebtMiller x = Check.with(debts + "water " + water + ";");
            Check.due("most by " + water, x.most(0), flours[water]);
            Check.due("set by " + water, x.most(1), sets[water]);
        }
        DebtMiller x = Check.with(debts + "water 99;");
        Check.work(x, "forgive 1;");
        Check.due("that are there", x.most(1), 5);
        Check.work(x, "forgive 0;forgive 2;");
        Check.due("none is there", x.most(1), 0);
        Check.due("none is there", x.most(0), 0);
    }

    // "that by which FLOURS as now together are most", "of alike ones the fewest, of as few the least bits"
    private static void mostTies() {
        DebtMiller more = Check.with(TWO + "debt 0 1 1 3;debt 0 1 0 3;debt 0 1 2 3;water 1;");
        Check.due("more by one", more.most(1), 2);
        Check.due("flour", more.most(0), 6);
        DebtMiller x = Check.with(TWO + "debt 0 1 0 4;debt 0 1 0 4;debt 0 1 0 4;debt 1 0 9 1;water 2;");
        Check.due("of as few the least bits", x.most(1), 3);
        Check.due("flours", x.most(0), 16);
        Check.law(x, "0");
        Check.due("of alike ones the fewest: none", x.most(1), 0);
        Check.due("flours", x.most(0), 0);
        Check.law(x, "debt/2*8");
        Check.due("alike ones", x.most(1), 12);
        Check.law(x, "debt/3*16+8");
        Check.due("one by its flour", x.most(1), 9);
        DebtMiller y = Check.with(TWO + "debt 0 1 0 1;debt 0 1 0 1;debt 0 1 0 10;water 3;");
        Check.law(y, "1+debt/2");
        Check.due("by one or by two", y.most(0), 2);
        Check.due("the fewest, not the least bits", y.most(1), 4);
        DebtMiller z = Check.with(DOZEN + "water 12;");
        Check.law(z, "99");
        Check.due("all of twelve", z.most(0), 1188);
        Check.due("all of twelve", z.most(1), 4095);
    }

    // "RING of a HOUSE: the fewest DEBTS that are there, the first one of it .. the last one owed to it; NONE"
    private static void ring() {
        String houses = "house 1 0;".repeat(6);
        DebtMiller x = Check.with(houses + "debt 0 1 0 1;debt 1 0 0 1;debt 2 0 0 1;debt 3 4 0 1;debt 4 5 0 1;debt 5 3 0 1;debt 4 3 0 1;");
        int[] want = {2, 2, -1, 2, 2, 3};
        for (int h = 0; h < 6; h++) {
            Check.due("ring " + h, x.ring(h), want[h]);
        }
        Check.work(x, "forgive 6;grind 0;");
        int[] then = {-1, -1, -1, 3, 3, 3};
        for (int h = 0; h < 6; h++) {
            Check.due("ring then " + h, x.ring(h), then[h]);
        }
        Check.due("all six", Check.with(houses + "debt 5 0 0 1;debt 0 1 0 1;debt 1 2 0 1;debt 2 3 0 1;debt 3 4 0 1;debt 4 5 0 1;").ring(3), 6);
        Check.due("no debts", Check.with(houses).ring(5), -1);
    }

    // "HOUSES (bits) that a HOUSE owes, those that these owe, and so on, and itself."
    private static void tangle() {
        String houses = "house 1 0;".repeat(6);
        DebtMiller x = Check.with(houses + "debt 4 5 0 1;debt 3 4 0 1;debt 2 3 0 1;debt 1 2 0 1;debt 0 1 0 1;");
        int[] want = {63, 62, 60, 56, 48, 32};
        for (int h = 0; h < 6; h++) {
            Check.due("tangle " + h, x.tangle(h), want[h]);
        }
        Check.work(x, "grind 2;");
        Check.due("that are there", x.tangle(0), 7);
        Check.due("no debts", Check.with("house 1 0;").tangle(0), 1);
    }

    // "GROUND by BOOK: .. just as much came to each HOUSE in a line (to others whatever): how many"
    private static void ground() {
        DebtMiller x = Check.with(TWO + "debt 0 1 0 1;debt 0 1 0 2;debt 1 0 0 3;debt 1 0 9 1;water 0;");
        Check.due("no lines: all sets, whatever water", x.ground(0), 16);
        Check.book(x, "0 0;");
        Check.due("0 in a line", x.ground(0), 4);
        Check.due("first", x.ground(1), 0);
        Check.due("sure", x.ground(2), 0);
        Check.book(x, "0 6;");
        Check.due("all of it", x.ground(0), 4);
        Check.due("first", x.ground(1), 3);
        Check.due("sure", x.ground(2), 3);
        Check.book(x, "0 7;");
        Check.due("more than all of it", x.ground(0), 0);
        Check.due("first", x.ground(1), -1);
        Check.due("sure", x.ground(2), 0);
        Check.book(x, "0 5;");
        Check.due("between", x.ground(0), 0);
        Check.book(x, "1 6;");
        Check.due("one that runs none: with it and without", x.ground(0), 8);
        Check.due("sure", x.ground(2), 4);
        Check.book(x, "1 6;0 3;");
        Check.due("one line fails", x.ground(0), 0);
        Check.due("nothing is sure", x.ground(2), 0);
        Check.book(x, "1 6;0 4;");
        Check.due("both", x.ground(0), 2);
        Check.due("first", x.ground(1), 6);
        Check.due("sure", x.ground(2), 6);
        Check.work(x, "forgive 1;");
        Check.due("gone", x.ground(0), 0);
        DebtMiller y = Check.with(DOZEN);
        Check.due("all sets of twelve", y.ground(0), 4096);
        Check.law(y, "99");
        Check.book(y, "0 999;");
        Check.due("999", y.ground(0), 0);
        Check.book(y, "0 990;");
        Check.due("990", y.ground(0), 66);
    }

    // "the first (least bits), SURE: DEBTS in all of them"
    private static void groundFirst() {
        DebtMiller x = Check.with(DOZEN);
        Check.book(x, "0 2;");
        Check.due("one of twelve", x.ground(0), 12);
        Check.due("the first", x.ground(1), 1);
        Check.due("none in all", x.ground(2), 0);
        Check.book(x, "0 24;");
        Check.due("all", x.ground(1), 4095);
        Check.due("all in all", x.ground(2), 4095);
        Check.law(x, "debt+1");
        Check.book(x, "0 3;");
        Check.due("by 1 and 2, or by 3", x.ground(0), 2);
        Check.due("least bits, not fewest", x.ground(1), 3);
        Check.due("nothing in both", x.ground(2), 0);
        Check.law(x, "7");
        Check.due("by the law as now", x.ground(0), 0);
    }

    // "NONE both: all are in lines, or there are none."
    private static void askNone() {
        DebtMiller none = new DebtMiller();
        Check.due("no houses", none.ask(0), -1);
        Check.due("no houses", none.ask(1), -1);
        DebtMiller x = Check.with(TWO + "debt 0 1 0 1;");
        Check.book(x, "0 0;1 0;");
        Check.due("all in lines", x.ask(0), -1);
        Check.due("all in lines", x.ask(1), -1);
        Check.book(x, "0 0;");
        Check.due("one is not", x.ask(0), 1);
        Check.due("left", x.ask(1), 1);
        Check.book(x, "0 1;");
        Check.due("no sets: still a house", x.ask(0), 1);
        Check.due("none is left", x.ask(1), 0);
    }

    // "ASK: the HOUSE in no line by which .. fewest such sets are left at the worst, of these the first"
    private static void ask() {
        DebtMiller x = Check.with("house 1 0;".repeat(3) + "debt 0 1 0 1;debt 1 0 0 1;debt 1 0 0 1;debt 2 0 0 1;debt 2 0 0 2;");
        // 32 sets: by 0 16 are left; by 1 (0, 2, 2, 4) 16; by 2 (0, 2, 4, 6) 8.
        Check.due("the best", x.ask(0), 2);
        Check.due("left", x.ask(1), 8);
        Check.law(x, "2");
        Check.due("of alike ones the first", x.ask(0), 0);
        Check.due("left", x.ask(1), 16);
        Check.book(x, "0 2;");
        Check.due("in no line", x.ask(0), 1);
        Check.due("left", x.ask(1), 8);
        Check.book(x, "1 2;");
        Check.due("in no line", x.ask(0), 0);
        Check.due("left", x.ask(1), 4 * 2);
        Check.law(x, "0");
        Check.book(x, "");
        Check.due("nothing is learned", x.ask(0), 0);
        Check.due("all are left", x.ask(1), 32);
        DebtMiller y = Check.with("house 1 0;house 1 0;");
        Check.due("no debts", y.ask(0), 0);
        Check.due("the empty set is left", y.ask(1), 1);
        DebtMiller z = Check.with(TWO + "debt 1 0 0 1;".repeat(12));
        Check.law(z, "99");
        Check.due("twelve by 99", z.ask(0), 1);
        Check.due("six of twelve", z.ask(1), 924);
    }

    // "MIX of n: how many sets of DEBTS that are there have FLOURS of n together", "n (0 to 999)"
    private static void mix() {
        DebtMiller x = Check.with(DOZEN);
        Check.law(x, "99-debt/10*90");
        // Ten of 99 and two of 9.
        Check.due("0", x.mix(0), 1);
        Check.due("9", x.mix(9), 2);
        Check.due("18", x.mix(18), 1);
        Check.due("999", x.mix(999), 2);
        Check.due("998", x.mix(998), 0);
        Check.refused("1000", () -> x.mix(1000));
        Check.refused("-1", () -> x.mix(-1));
        Check.work(x, "forgive 11;");
        Check.due("999 of what is there", x.mix(999), 1);
        Check.law(x, "0");
        Check.due("all sets", x.mix(0), 2048);
        Check.due("no sets", x.mix(1), 0);
        DebtMiller none = new DebtMiller();
        Check.due("no debts", none.mix(0), 1);
        Check.due("no debts", none.mix(1), 0);
    }

    private static void creditors(int v, int w, int rests, int first, int both) {
        DebtMiller x = new DebtMiller();
        Check.due("rests by " + v + " " + w, x.creditors(v, w, 0), rests);
        Check.due("first by " + v + " " + w, x.creditors(v, w, 1), first);
        Check.due("both by " + v + " " + w, x.creditors(v, w, 2), both);
    }

    // "both ask: each has v by 2 (cut); one asks: it has v, the other one w; both forgive: each has w"
    private static void creditors() {
        creditors(0, 0, 4, 0, 0);
        creditors(0, 1, 1, 11, 2);
        creditors(1, 0, 3, 0, 0);
        creditors(1, 1, 3, 1, 2);
        creditors(2, 0, 1, 0, 2);
        creditors(2, 1, 3, 0, 2);
        creditors(3, 1, 3, 0, 2);
        creditors(3, 2, 2, 1, 5);
        creditors(3, 3, 3, 1, 6);
        creditors(3, 4, 1, 11, 8);
        creditors(99, 48, 1, 0, 98);
        creditors(99, 49, 3, 0, 98);
        creditors(99, 50, 2, 1, 149);
        creditors(99, 98, 2, 1, 197);
        creditors(99, 99, 3, 1, 198);
        creditors(98, 99, 1, 11, 198);
        creditors(0, 99, 1, 11, 198);
        creditors(99, 0, 1, 0, 98);
    }

    private static void wheel(int n, int k, int q, long above, long below) {
        DebtMiller x = new DebtMiller();
        Check.due("wheel " + n + " " + k + " " + q + " above", x.wheel(n, k, q, 0), above);
        Check.due("wheel " + n + " " + k + " " + q + " below", x.wheel(n, k, q, 1), below);
    }

    // "WHEEL of n (0 to 12), k (0 to 13), q (0 to 16) .. in least terms"
    private static void wheel() {
        wheel(0, 0, 0, 1, 1);
        wheel(0, 0, 16, 1, 1);
        wheel(0, 1, 16, 0, 1);
        wheel(0, 13, 16, 0, 1);
        wheel(1, 0, 0, 1, 1);
        wheel(1, 1, 0, 0, 1);
        wheel(1, 1, 16, 1, 1);
        wheel(1, 1, 1, 1, 16);
        wheel(1, 1, 2, 1, 8);
        wheel(1, 1, 15, 15, 16);
        wheel(1, 2, 8, 0, 1);
        wheel(2, 1, 1, 31, 256);
        wheel(2, 2, 8, 1, 4);
        wheel(3, 1, 8, 7, 8);
        wheel(12, 0, 7, 1, 1);
        wheel(12, 12, 16, 1, 1);
        wheel(12, 13, 16, 0, 1);
        wheel(12, 1, 0, 0, 1);
        wheel(12, 0, 0, 1, 1);
        wheel(12, 12, 1, 1, 1L << 48);
        wheel(12, 12, 8, 1, 4096);
        wheel(12, 1, 8, 4095, 4096);
        wheel(12, 6, 8, 1255, 2048);
        wheel(12, 1, 15, (1L << 48) - 1, 1L << 48);
    }

    // "SHARES of n among told HOUSES (bits) by MOUTHS: levelled .. (all, if they are no more)"
    private static void shares() {
        DebtMiller x = Check.with("house 1 0;house 4 0;house 9 0;");
        int[][] want = {{0, 0, 0, 0}, {2, 0, 0, 0}, {3, 1, 1, 1}, {4, 1, 1, 1}, {5, 1, 2, 2}, {6, 1, 2, 2}, {7, 1, 3, 3}, {9, 1, 4, 4},
            {10, 1, 4, 5}, {13, 1, 4, 8}, {14, 1, 4, 9}, {15, 1, 4, 9}, {99, 1, 4, 9}};
        for (int[] w : want) {
            for (int h = 0; h < 3; h++) {
                Check.due("share " + h + " of " + w[0], x.share(h, 7, w[0]), w[1 + h]);
            }
        }
        Check.due("0, if it is none of them", x.share(0, 6, 99), 0);
        Check.due("among two", x.share(2, 6, 8), 4);
        Check.due("among two", x.share(2, 6, 9), 5);
        Check.due("among none", x.share(0, 0, 9), 0);
        Check.refused("bits of no houses", () -> x.share(0, 8, 1));
        Check.refused("bits of houses and of none", () -> x.share(0, 15, 1));
        Check.refused("the highest bit", () -> x.share(0, Integer.MIN_VALUE, 1));
        Check.refused("n", () -> x.share(0, 7, 100));
        Check.refused("n", () -> x.share(0, 7, -1));
        Check.missing("house 3 ahead of the bits", () -> x.share(3, 8, 100));
    }

    private static void sharesOfOne() {
        DebtMiller x = Check.with("house 9 0;".repeat(6));
        Check.due("none", x.share(5, 32, 0), 0);
        Check.due("less", x.share(5, 32, 8), 8);
        Check.due("just so", x.share(5, 32, 9), 9);
        Check.due("more", x.share(5, 32, 10), 9);
        Check.due("among six, one short", x.share(5, 63, 53), 8);
        Check.due("among six, all", x.share(0, 63, 54), 9);
        Check.due("among six, less than one each", x.share(0, 63, 5), 0);
        Check.due("among six, one each", x.share(0, 63, 6), 1);
        Check.work(x, "day;");
        Check.due("hunger counts not", x.share(0, 63, 54), 9);
        DebtMiller six = Check.with("house 9 0;".repeat(6));
        Check.refused("a 7th bit", () -> six.share(0, 64, 1));
    }

    // By hand: seed 0 draws 0, 21468, 9988, 22117, 3498, 16927.
    private static final String PAIR = "house 1 0;house 2 0;debt 0 1 0 10;debt 1 0 0 7;";

    // "DRAWN by how many DEBTS were told: grind .. DRAWN by 16 below Q: rain of 5 .. DRAWN ..: swell by 3 .. then day"
    private static void yearDraws() {
        DebtMiller x = Check.with(PAIR + "water 20;");
        Check.due("grinds 0", x.year(0, 1, 0, 3), 2);
        Check.due("its flour", x.year(0, 1, 0, 0), 20);
        Check.due("the second day grinds 1", x.year(0, 2, 0, 3), 0);
        Check.due("its flour", x.year(0, 2, 0, 0), 34);
        Check.due("water", x.year(0, 2, 0, 2), 15);
        Check.due("21468 by 16 is 12: not below 12", x.year(0, 1, 12, 2), 17);
        Check.due("below 13", x.year(0, 1, 13, 2), 22);
        Check.due("who hungers: 1, by 2 mouths", x.year(0, 1, 0, 1), 2);
        // Seed 0 swells debt 0 on the first day: gone then; grinding debt 1 first leaves it to be swollen.
        DebtMiller one = Check.with(TWO + "debt 0 1 0 10;water 2;");
        // By rain: swollen to 13 on day 1, ground on day 2.
        Check.due("too little water, then rain", one.year(0, 1, 16, 0), 0);
        Check.due("water", one.year(0, 1, 16, 2), 7);
        Check.due("swollen by 3, a day older", one.year(0, 2, 16, 0), 26);
        Check.due("water", one.year(0, 2, 16, 2), 9);
        Check.due("96 days", one.year(0, 96, 0, 3), 1);
        Check.refused("0 days", () -> one.year(0, 0, 0, 0));
        Check.refused("97 days", () -> one.year(0, 97, 0, 0));
    }

    // "rain of 5 (if it can)": Q 0 never, Q 16 always
    private static void yearRain() {
        DebtMiller x = Check.with(PAIR + "water 0;");
        for (int seed = -3; seed < 4; seed++) {
            Check.due("no rain", x.year(seed, 96, 0, 2), 0);
            Check.due("nothing is ground", x.year(seed, 96, 0, 0), 0);
            Check.due("rain", x.year(seed, 1, 16, 2), 5);
        }
        DebtMiller y = Check.with(PAIR + "water 93;");
        Check.work(y, "forgive 0;forgive 1;");
        Check.due("98", y.year(5, 1, 16, 2), 98);
        Check.due("99 at most", y.year(5, 2, 16, 2), 99);
        Check.due("refused at 99", y.year(5, 96, 16, 2), 99);
        Check.refused("q 17", () -> y.year(5, 1, 17, 2));
        Check.refused("q -1", () -> y.year(5, 1, -1, 2));
    }

    // "Without DEBTS nothing is DRAWN, DAYS go by." (told ones; those that are gone are drawn as well)
    private static void yearGone() {
        DebtMiller x = Check.with("house 2 0;flour 0 5;water 7;");
        Check.due("no rain without debts", x.year(1, 9, 16, 2), 7);
        Check.due("no flour", x.year(1, 9, 16, 0), 0);
        Check.due("eaten", x.year(1, 2, 16, 1), 0);
        Check.due("hungry", x.year(1, 3, 16, 1), 1);
        DebtMiller y = Check.with(TWO + "debt 0 1 0 1;water 7;");
        Check.work(y, "forgive 0;");
        Check.due("gone, but told: it rains", y.year(1, 2, 16, 2), 17);
        DebtMiller none = new DebtMiller();
        Check.due("no houses", none.year(1, 96, 16, 1), 0);
        Check.due("no houses", none.year(1, 96, 16, 2), 20);
        Check.due("no houses", none.year(1, 96, 16, 3), 0);
    }

    private static int drawn(int[] seed, int by) {
        seed[0] = seed[0] * 1103515245 + 12345;
        return (seed[0] >>> 16 & 32767) % by;
    }

    // "the SEED (32 bits) becomes itself times 1,103,515,245, and 12,345 (it wraps); its bits 16 to 30"
    private static void yearSeeds() {
        int[] seeds = {0, 1, -1, Integer.MAX_VALUE, Integer.MIN_VALUE, 0x7FFF0000, 0x80000001, 123456789, -987654321};
        String twelve = TWO + "debt 0 1 0 1;".repeat(12) + "water 1;";
        for (int seed : seeds) {
            int[] row = {seed};
            DebtMiller x = Check.with(twelve);
            int first = drawn(row, 12);
            Check.due("ground first by " + seed, x.year(seed, 1, 0, 3), 4095 & ~(1 << first));
            int rain = drawn(row, 16);
            Check.due("no rain by " + seed, x.year(seed, 1, rain, 2), 0);
            Check.due("rain by " + seed, x.year(seed, 1, rain + 1, 2), 5);
        }
    }

    // "Of so many SEEDS (1 to 20; seed, seed and 1, ..)"
    private static void span() {
        DebtMiller x = Check.with(DOZEN + "flour 0 3;water 5;");
        for (int seed : new int[] {0, -10, Integer.MAX_VALUE - 9}) {
            Check.law(x, "debt");
            int least = 9999;
            int most = -1;
            int hungry = 0;
            for (int i = 0; i < 20; i++) {
                int flour = x.year(seed + i, 4, 3, 0);
                least = Math.min(least, flour);
                most = Math.max(most, flour);
                hungry += x.year(seed + i, 4, 3, 1) & 1;
            }
            Check.due("least by " + seed, x.span(seed, 20, 4, 3, 0, 0), least);
            Check.due("most by " + seed, x.span(seed, 20, 4, 3, 1, 0), most);
            Check.due("hungry by " + seed, x.span(seed, 20, 4, 3, 2, 0), hungry);
            Check.due("all hungry by " + seed, x.span(seed, 20, 4, 3, 2, 1), 20);
            Check.due("one seed, least", x.span(seed, 1, 4, 3, 0, 1), x.year(seed, 4, 3, 0));
            Check.due("one seed, most", x.span(seed, 1, 4, 3, 1, 1), x.year(seed, 4, 3, 0));
        }
        DebtMiller y = Check.with(PAIR);
        Check.due("96 days", y.span(3, 20, 96, 0, 2, 1), 20);
        Check.refused("0 seeds", () -> y.span(0, 0, 1, 0, 0, 0));
        Check.refused("21 seeds", () -> y.span(0, 21, 1, 0, 0, 0));
        Check.refused("0 days", () -> y.span(0, 1, 0, 0, 0, 0));
        Check.refused("97 days", () -> y.span(0, 1, 97, 0, 0, 0));
        Check.refused("no such house, for 0", () -> y.span(0, 1, 1, 0, 0, 2));
        Check.refused("no such house, for 1", () -> y.span(0, 1, 1, 0, 1, -1));
        Check.refused("no such house, for 2", () -> y.span(0, 1, 1, 0, 2, 2));
        DebtMiller dry = Check.with(PAIR + "flour 1 1;water 0;");
        Check.due("nothing was ground, least", dry.span(3, 20, 1, 0, 0, 0), 0);
        Check.due("nothing was ground, most", dry.span(3, 20, 1, 0, 1, 0), 0);
        Check.due("hunger 1 is hunger", dry.span(3, 20, 1, 0, 2, 1), 20);
        DebtMiller none = new DebtMiller();
        Check.refused("no houses", () -> none.span(0, 1, 1, 0, 0, 0));
    }

    // "of most FLOUR of those that are there (what 0), of alike ones the first .. NONE both: there are none"
    private static void whitest() {
        DebtMiller x = Check.with(TWO + "debt 0 1 9 1;debt 0 1 0 3;debt 0 1 2 4;debt 0 1 9 2;");
        Check.due("of alike ones the first", x.whitest(0), 1);
        Check.due("its flour", x.whitest(1), 6);
        Check.work(x, "grind 1;");
        Check.due("of those that are there", x.whitest(0), 2);
        Check.work(x, "grind 2;");
        Check.due("flour 0, the first", x.whitest(0), 0);
        Check.due("flour 0", x.whitest(1), 0);
        Check.work(x, "grind 0;");
        Check.due("the last one", x.whitest(0), 3);
        Check.work(x, "grind 3;");
        Check.due("none", x.whitest(0), -1);
        Check.due("none", x.whitest(1), -1);
    }

    // "The hungriest HOUSE .. of alike ones the first .. NONE both: none hungers"
    private static void hungriest() {
        DebtMiller x = Check.with("house 9 0;house 1 0;house 2 0;house 2 0;flour 0 99;");
        Check.due("none hungers", x.hungriest(0), -1);
        Check.due("none hungers", x.hungriest(1), -1);
        Check.work(x, "day;");
        Check.due("of alike ones the first", x.hungriest(0), 2);
        Check.due("hunger", x.hungriest(1), 2);
        Check.work(x, "give 0 1 9;give 0 2 9;give 0 3 1;day;");
        Check.due("the one that is left", x.hungriest(0), 3);
        Check.due("hunger", x.hungriest(1), 3);
        Check.work(x, "give 0 3 2;day;");
        Check.due("none again", x.hungriest(0), -1);
        DebtMiller y = Check.with("house 1 0;house 1 0;flour 1 1;");
        Check.work(y, "day;");
        Check.due("by one, the first house", y.hungriest(0), 0);
        Check.due("hunger 1", y.hungriest(1), 1);
    }

    // "What a HOUSE is owed less what it owes, WEIGHTS together (below 0, too)."
    private static void net() {
        DebtMiller x = Check.with("house 1 0;".repeat(3) + "debt 0 1 0 30;debt 0 1 0 30;debt 1 0 0 1;");
        Check.work(x, "swell 0 30;swell 1 30;");
        Check.due("below 0", x.net(0), -119);
        Check.due("above 0", x.net(1), 119);
        Check.due("nothing", x.net(2), 0);
        Check.work(x, "forgive 0;grind 1;forgive 2;");
        Check.due("all gone", x.net(0), 0);
    }

    // "Pairs of HOUSES that owe each other, WEIGHTS together, the same, above 0: how many (each once), the first"
    private static void even() {
        DebtMiller x = Check.with("house 1 0;".repeat(6) + "debt 5 4 0 3;debt 4 5 0 3;debt 3 0 0 4;debt 0 3 0 2;debt 0 3 0 1;debt 2 1 0 1;");
        Check.due("one pair, once", x.even(0), 1);
        Check.due("the lesser first", x.even(1), 45);
        Check.work(x, "swell 4 1;");
        Check.due("two pairs", x.even(0), 2);
        Check.due("the first", x.even(1), 3);
        Check.work(x, "forgive 0;");
        Check.due("one owes nothing", x.even(0), 1);
        Check.work(x, "forgive 1;");
        Check.due("both owe nothing", x.even(0), 1);
        Check.work(x, "swell 2 1;");
        Check.due("one more", x.even(0), 0);
        Check.due("none", x.even(1), -1);
        DebtMiller y = Check.with("house 1 0;".repeat(3) + "debt 0 1 0 1;debt 1 0 0 1;debt 0 2 0 1;debt 2 0 0 1;debt 1 2 0 1;debt 2 1 0 1;");
        Check.due("all three pairs", y.even(0), 3);
        Check.due("the first", y.even(1), 1);
    }

    // "HOUSES (bits) that owe nothing."
    private static void honest() {
        DebtMiller x = Check.with("house 1 0;".repeat(6) + "debt 0 1 0 1;debt 5 1 0 1;debt 0 2 0 1;");
        Check.due("who owes nothing", x.honest(), 30);
        Check.work(x, "grind 0;");
        Check.due("one is left", x.honest(), 30);
        Check.work(x, "grind 2;");
        Check.due("by grinding", x.honest(), 31);
        Check.work(x, "forgive 1;");
        Check.due("all", x.honest(), 63);
    }

    // "DEBTS (bits) of a KIND (0 to 9) that are there."
    private static void kinds() {
        DebtMiller x = Check.with(TWO + "debt 0 1 0 1;debt 0 1 9 1;debt 1 0 9 1;");
        Check.due("kind 0", x.kind(0), 1);
        Check.due("kind 9", x.kind(9), 6);
        Check.due("kind 1", x.kind(1), 0);
        Check.work(x, "grind 1;forgive 0;");
        Check.due("gone", x.kind(9), 4);
        Check.due("gone", x.kind(0), 0);
        Check.refused("kind 10", () -> x.kind(10));
        Check.refused("kind -1", () -> x.kind(-1));
    }

    // "The DEBT of the greatest age of those that are there, of alike ones the first .. NONE both: there are none"
    private static void oldest() {
        DebtMiller x = Check.with(TWO + "debt 0 1 0 1;debt 0 1 0 1;");
        Check.due("of age 0 the first", x.oldest(0), 0);
        Check.due("age 0", x.oldest(1), 0);
        Check.work(x, "day;forgive 0;");
        Check.due("of those that are there", x.oldest(0), 1);
        Check.due("age 1", x.oldest(1), 1);
        Check.work(x, "forgive 1;");
        Check.due("none", x.oldest(0), -1);
        Check.due("none", x.oldest(1), -1);
        DebtMiller y = onLastDay(TWO + "debt 0 1 0 1;");
        Check.due("age 400", y.oldest(1), 400);
    }

    // "What all DEBTS that are there DRINK together."
    private static void thirst() {
        DebtMiller x = Check.with(TWO + "debt 0 1 0 30;".repeat(12));
        Check.due("twelve of 7", x.thirst(), 84);
        Check.work(x, "swell 0 30;");
        Check.due("one of 13", x.thirst(), 90);
        Check.work(x, "forgive 0;");
        Check.due("one gone", x.thirst(), 77);
        Check.due("none", new DebtMiller().thirst(), 0);
    }

    // "FLOUR by the LAW for such weight (1 to 60), kind (0 to 9), age (0 to 999), pride (0 to 9), mouths (1 to 9), ..
    // owed (0 to 999), others (0 to 11), hunger (0 to 99), debt (0 to 11)."
    private static void would() {
        String[] terms = {"weight", "kind", "age", "pride", "mouths", "owed", "others", "hunger", "debt"};
        int[] least = {1, 0, 0, 0, 1, 0, 0, 0, 0};
        int[] greatest = {60, 9, 999, 9, 9, 999, 11, 99, 11};
        for (int i = 0; i < 9; i++) {
            DebtMiller x = new DebtMiller();
            int by = greatest[i] == 999 ? 111 : 1;
            Check.law(x, terms[i] + "/" + by);
            Check.due("least " + terms[i], would(x, least, i, least[i]), least[i]);
            Check.due("greatest " + terms[i], would(x, least, i, greatest[i]), greatest[i] / by);
            int at = i;
            int[] wrong = {least[i] - 1, greatest[i] + 1, Integer.MIN_VALUE, Integer.MAX_VALUE};
            for (int value : wrong) {
                Check.refused(terms[i] + " " + value, () -> would(x, least, at, value));
            }
            Check.due("counted", x.status(1), 4);
        }
    }

    private static int would(DebtMiller x, int[] others, int at, int value) {
        int[] t = others.clone();
        t[at] = value;
        return x.would(t[0], t[1], t[2], t[3], t[4], t[5], t[6], t[7], t[8]);
    }

    // "3 WEIGHT (0: it is gone), 4 its age (0: ..), 5 FLOUR (0: ..), 6 what it DRINKS (0: it is gone)"
    private static void debtGone() {
        for (String step : new String[] {"grind 0;", "forgive 0;"}) {
            DebtMiller x = Check.with(TWO + "debt 1 0 7 5;debt 1 0 7 5;");
            Check.law(x, "50");
            Check.work(x, "day;" + step + "day;");
            int[] want = {1, 0, 7, 0, 0, 0, 0};
            int[] there = {1, 0, 7, 5, 2, 50, 2};
            for (int what = 0; what < 7; what++) {
                Check.due("gone by " + step + what, x.debt(0, what), want[what]);
                Check.due("there " + what, x.debt(1, what), there[what]);
            }
            Check.due("told ones", x.told(1), 2);
            Check.due("weights", x.told(7), 5);
            Check.due("flours", x.told(8), 50);
            Check.due("it owes", x.house(1, 5), 5);
            Check.due("owed to", x.house(0, 6), 5);
            Check.due("its debts", x.house(1, 4), 2);
            Check.due("could be ground", x.told(11), 2);
        }
    }

    // "Whether grind could be done now.", "DEBTS that could be ground now (bits)"
    private static void can() {
        DebtMiller x = Check.with(TWO + "debt 0 1 0 4;debt 0 1 0 5;debt 0 1 0 10;water 2;");
        Check.due("by less", x.can(0), true);
        Check.due("by all", x.can(1), true);
        Check.due("by more", x.can(2), false);
        Check.due("bits", x.told(11), 3);
        Check.work(x, "grind 0;");
        Check.due("gone", x.can(0), false);
        Check.due("too little now", x.can(1), false);
        Check.due("bits", x.told(11), 0);
        Check.work(x, "rain 2;");
        Check.due("bits", x.told(11), 6);
        Check.missing("can(3)", () -> x.can(3) ? 1 : 0);
    }

    // As many HOUSES and DEBTS as there can be: debt d of house d % 6 to the next one, by weight d + 1.
    private static void fullValley() {
        StringBuilder text = new StringBuilder();
        for (int h = 0; h < 6; h++) {
            text.append("house ").append(h + 1).append(" ").append(h).append(";");
        }
        for (int d = 0; d < 12; d++) {
            text.append("debt ").append(d % 6).append(" ").append((d + 1) % 6).append(" 0 ").append(d + 1).append(";");
        }
        for (int gone = 0; gone < 12; gone++) {
            DebtMiller x = Check.with(text + "water 99;");
            Check.work(x, "grind 5;day;day;day;" + "forgive " + gone + ";");
            int there = 4095 & ~32 & ~(1 << gone);
            Check.due("there", x.told(4), there);
            int[] owes = new int[6];
            int[] owed = new int[6];
            int all = 0;
            for (int d = 0; d < 12; d++) {
                boolean is = (there >> d & 1) != 0;
                Check.due("weight of " + d + " without " + gone, x.debt(d, 3), is ? d + 1 : 0);
                Check.due("age of " + d + " without " + gone, x.debt(d, 4), is ? 3 : 0);
                owes[d % 6] += is ? d + 1 : 0;
                owed[(d + 1) % 6] += is ? d + 1 : 0;
                all += is ? d + 1 : 0;
            }
            Check.due("weights without " + gone, x.told(7), all);
            Check.due("flours without " + gone, x.told(8), 2 * all + Integer.bitCount(there));
            for (int h = 0; h < 6; h++) {
                Check.due("owes", x.house(h, 5), owes[h]);
                Check.due("owed", x.house(h, 6), owed[h]);
                Check.due("net", x.net(h), owed[h] - owes[h]);
                Check.due("came", x.house(h, 7), h == 5 ? 12 : 0);
                Check.due("hunger", x.house(h, 3), h == 5 ? 6 : 3 * (h + 1));
            }
            Check.due("no pairs", x.even(0), 0);
            Check.due("ring", x.ring(0), 6 - (gone == 11 ? 7 : 0));
            Check.due("oldest", x.oldest(0), gone == 0 ? 1 : 0);
        }
    }

    // "A VALLEY without CLAUSES."
    private static void emptyValley() {
        DebtMiller x = new DebtMiller();
        Check.due("ahead", x.ahead(99, 0) + x.ahead(99, 1) + x.ahead(99, 2), 0);
        Check.due("most", x.most(0) + x.most(1), 0);
        Check.due("ground", x.ground(0), 1);
        Check.due("first", x.ground(1), 0);
        Check.due("sure", x.ground(2), 0);
        Check.due("whitest", x.whitest(0) + x.whitest(1), -2);
        Check.due("hungriest", x.hungriest(0) + x.hungriest(1), -2);
        Check.due("oldest", x.oldest(0) + x.oldest(1), -2);
        Check.due("even", x.even(0), 0);
        Check.due("even", x.even(1), -1);
        Check.due("honest", x.honest(), 0);
        Check.due("kind", x.kind(0), 0);
        Check.missing("lasts", () -> x.lasts(0));
        Check.missing("plan", () -> x.plan(0, 0));
        Check.missing("ring", () -> x.ring(0));
        Check.missing("tangle", () -> x.tangle(0));
        Check.missing("share", () -> x.share(0, 0, 0));
        Check.missing("net", () -> x.net(0));
        Check.missing("can", () -> x.can(0) ? 1 : 0);
        Check.missing("house", () -> x.house(0, 0));
        Check.missing("debt", () -> x.debt(0, 0));
    }
}
