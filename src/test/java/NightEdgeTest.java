/** "==== 2", the nights: each sentence that names a bound of a STEP, on both of its sides. */
public final class NightEdgeTest {
    private static final String TWO = "house 1 0;house 1 0;";
    private static final String DOZEN = TWO + "debt 0 1 0 1;".repeat(12);

    public static void main(String[] args) {
        atFirst(); drinks(); steps(); refusedChangesNothing(); twoHundred(); twoHundredOfAll(); grindWater(); grindGone();
        grindCrock(); grindOfEach(); forgive(); swell(); give(); giveCrock(); rain(); lastDay(); eating(); hunger(); ages();
        Check.end();
    }

    private static DebtMiller with(String valley) {
        return Check.with(valley);
    }

    /** One WORK: how many STEPS were done, how many REFUSED. */
    private static void work(DebtMiller x, String text, int done, int refused) {
        Check.due("work " + text, Check.work(x, text), done);
        Check.due("refused by " + text, x.told(10), refused);
    }

    // "It is DAY 0 at first; all DEBTS are there, nobody hungers."
    private static void atFirst() {
        DebtMiller x = with(DOZEN + "water 0;");
        Check.due("day", x.told(2), 0);
        Check.due("there", x.told(4), 4095);
        Check.due("hungry", x.told(5), 0);
        Check.due("hunger", x.house(0, 3), 0);
        Check.due("age", x.debt(11, 4), 0);
        Check.due("came", x.house(0, 7), 0);
        Check.work(x, "day;forgive 3;");
        Check.valley(x, DOZEN);
        Check.due("day anew", x.told(2), 0);
        Check.due("there anew", x.told(4), 4095);
        Check.due("hungry anew", x.told(5), 0);
        Check.due("age anew", x.debt(0, 4), 0);
    }

    // "DRINKS of a DEBT: 1, and a fifth of its WEIGHT (cut), of water."
    private static void drinks() {
        DebtMiller x = with(TWO + "debt 0 1 0 1;debt 0 1 0 4;debt 0 1 0 5;debt 0 1 0 9;debt 0 1 0 10;debt 0 1 0 29;debt 0 1 0 30;");
        int[] want = {1, 1, 2, 2, 3, 6, 7};
        for (int d = 0; d < want.length; d++) {
            Check.due("drinks " + d, x.debt(d, 6), want[d]);
        }
        Check.work(x, "swell 5 30;swell 6 30;");
        Check.due("of 59", x.debt(5, 6), 12);
        Check.due("of 60", x.debt(6, 6), 13);
        Check.work(x, "forgive 6;");
        Check.due("gone", x.debt(6, 6), 0);
    }

    // "STEPS are done in order"
    private static void steps() {
        DebtMiller x = with(TWO + "debt 0 1 0 10;");
        work(x, "give 0 1 20;grind 0;give 0 1 20;", 2, 1);
        Check.due("given behind the grinding", x.house(1, 2), 20);
        DebtMiller y = with(TWO + "debt 0 1 0 10;water 3;");
        work(y, "grind 0;swell 0 5;", 1, 1);
        DebtMiller z = with(TWO + "debt 0 1 0 10;water 3;");
        work(z, "swell 0 5;grind 0;", 1, 1);
        Check.due("swollen, there is too little", z.told(4), 1);
        work(z, "rain 1;grind 0;", 2, 0);
        Check.due("flour of the swollen one", z.house(0, 2), 30);
    }

    // "one that can't be done is REFUSED, and changes nothing"
    private static void refusedChangesNothing() {
        String valley = "house 3 1;house 4 2;debt 0 1 2 30;debt 1 0 3 30;debt 0 1 0 30;flour 0 9;water 99;";
        String first = "forgive 2;swell 0 30;";
        String[] refused = {"grind 2;", "forgive 2;", "swell 2 1;", "swell 0 1;", "give 0 0 1;", "give 0 1 10;", "give 1 0 1;", "rain 1;"};
        for (String step : refused) {
            DebtMiller x = with(valley);
            Check.work(x, first);
            String before = Check.valleySeen(x);
            work(x, step, 0, 1);
            Check.same("what " + step + " leaves", Check.valleySeen(x), before);
        }
        DebtMiller dry = with(TWO + "debt 0 1 0 4;water 0;");
        String before = Check.valleySeen(dry);
        work(dry, "grind 0;", 0, 1);
        Check.same("what a dry grind leaves", Check.valleySeen(dry), before);
    }

    // "200 STEPS at most are begun by one WORK (an again, too, each time it is come to; REFUSED ones, too)"
    private static void twoHundred() {
        String full = "again 60[day;day;day;];again 6[day;day;day;];";
        DebtMiller x = with(TWO);
        work(x, full, 198, 0);
        x.undo();
        work(x, full + "day;rain 1;rain 1;", 198, 0);
        Check.due("no rain behind", x.told(3), 20);
        x.undo();
        work(x, "again 60[day;day;day;];again 5[day;day;day;];day;day;rain 1;rain 1;", 198, 0);
        Check.due("the 200th is begun, the 201st not", x.told(3), 21);
        x.undo();
        work(x, "again 60[day;day;day;day;];", 199, 0);
        work(x, "again 60[rain 1;];", 60, 0);
        Check.due("another work has its own", x.told(3), 80);
    }

    private static void twoHundredOfAll() {
        DebtMiller x = with(TWO + "debt 0 1 0 1;");
        String agains = "again 60[again 0[];again 0[];again 0[];];again 17[day;];";
        work(x, agains + "rain 1;", 18, 0);
        Check.due("200 with agains", x.told(3), 21);
        x.undo();
        work(x, agains + "rain 1;rain 1;", 18, 0);
        Check.due("201 with agains", x.told(3), 21);
        x.undo();
        work(x, agains + "again 1[rain 1;];rain 1;", 17, 0);
        Check.due("the 200th is an again: nothing of it", x.told(3), 20);
        x.undo();
        Check.work(x, "forgive 0;");
        String refused = "again 60[grind 0;swell 0 1;forgive 0;];again 17[forgive 0;];";
        work(x, refused + "rain 1;", 1, 197);
        x.undo();
        work(x, refused + "rain 1;rain 1;forgive 0;", 1, 197);
        Check.due("201 with refused ones", x.told(3), 21);
        x.undo();
        work(x, refused + "forgive 0;rain 1;forgive 0;", 0, 198);
        x.undo();
        work(x, "again 60[again 60[again 60[];];];day;", 0, 0);
        work(x, "again 10[again 18[day;];];", 180, 0);
        x.undo();
        // 1, ten times 1 and 19: 201 would be begun, so the last day is left out.
        work(x, "again 10[again 19[day;];];", 189, 0);
    }

    // "grind: .. there is so much less water as it DRINKS .. (REFUSED .. DRINKS more than there is)"
    private static void grindWater() {
        DebtMiller x = with(TWO + "debt 0 1 0 10;water 3;");
        Check.due("can", x.can(0), true);
        work(x, "grind 0;", 1, 0);
        Check.due("all of it", x.told(3), 0);
        DebtMiller y = with(TWO + "debt 0 1 0 10;water 2;");
        Check.due("can't", y.can(0), false);
        work(y, "grind 0;", 0, 1);
        Check.due("none of it", y.told(3), 2);
        Check.due("still there", y.told(4), 1);
        work(y, "rain 1;grind 0;", 2, 0);
        Check.due("gone", y.told(4), 0);
        DebtMiller z = with(TWO + "debt 0 1 0 4;water 1;");
        work(z, "grind 0;", 1, 0);
        Check.due("0 water", z.told(3), 0);
    }

    // "the DEBT is gone (REFUSED, if it is gone ..)"
    private static void grindGone() {
        DebtMiller x = with(TWO + "debt 0 1 0 4;debt 0 1 0 4;");
        work(x, "grind 0;grind 0;", 1, 1);
        work(x, "forgive 1;grind 1;", 1, 1);
        Check.due("flour of one", x.house(0, 2), 8);
        Check.due("water of one", x.told(3), 19);
        Check.due("weight", x.debt(0, 3), 0);
        Check.due("age", x.debt(0, 4), 0);
        Check.due("flour", x.debt(0, 5), 0);
        DebtMiller y = with(TWO + "debt 0 1 9 1;");
        work(y, "grind 0;", 1, 0);
        Check.due("flour 0 is ground as well", y.told(4), 0);
        Check.due("none came", y.house(0, 7), 0);
    }

    private static final String GRIND_NINE = "grind 0;grind 1;grind 2;grind 3;grind 4;grind 5;grind 6;grind 7;grind 8;";

    // "FLOUR comes to the crock of A (999 at most)"
    private static void grindCrock() {
        DebtMiller x = with(DOZEN + "flour 0 99;");
        Check.law(x, "99-debt/9*90");
        work(x, GRIND_NINE, 9, 0);
        Check.due("990", x.house(0, 2), 990);
        work(x, "grind 9;", 1, 0);
        Check.due("just 999", x.house(0, 2), 999);
        work(x, "grind 10;", 1, 0);
        Check.due("999 at most", x.house(0, 2), 999);
        Check.due("gone as well", x.told(4), 2048);
        Check.due("water as well", x.told(3), 9);
        Check.due("what came", x.house(0, 7), 909);
        DebtMiller y = with(DOZEN + "flour 0 98;");
        Check.law(y, "99-debt/9*90");
        work(y, GRIND_NINE + "grind 9;", 10, 0);
        Check.due("998", y.house(0, 2), 998);
        work(y, "grind 10;", 1, 0);
        Check.due("999 of 1007", y.house(0, 2), 999);
    }

    // "FLOUR comes to the crock of A", of each HOUSE that there can be
    private static void grindOfEach() {
        DebtMiller x = with("house 1 0;".repeat(6) + "debt 0 1 0 1;debt 1 2 0 2;debt 2 3 0 3;debt 3 4 0 4;debt 4 5 0 5;debt 5 0 0 6;"
            + "flour 3 7;flour 5 9;");
        work(x, "grind 5;grind 4;grind 3;grind 2;grind 1;grind 0;", 6, 0);
        int[] came = {2, 4, 6, 8, 10, 12};
        int[] had = {0, 0, 0, 7, 0, 9};
        for (int h = 0; h < 6; h++) {
            Check.due("came to " + h, x.house(h, 7), came[h]);
            Check.due("crock of " + h, x.house(h, 2), came[h] + had[h]);
        }
        Check.due("all crocks", x.told(6), 58);
        Check.due("water", x.told(3), 12);
    }

    // "forgive: the DEBT is gone (REFUSED, if it is)."
    private static void forgive() {
        DebtMiller x = with(DOZEN + "water 0;");
        work(x, "forgive 11;forgive 11;", 1, 1);
        Check.due("there", x.told(4), 2047);
        Check.due("no flour", x.told(6), 0);
        Check.due("no water", x.told(3), 0);
        work(x, "forgive 0;", 1, 0);
        Check.due("there", x.told(4), 2046);
    }

    // "swell: its WEIGHT is N more, 60 at most (REFUSED, if it is gone, or is 60)."
    private static void swell() {
        DebtMiller x = with(TWO + "debt 0 1 0 30;debt 0 1 0 29;debt 0 1 0 1;");
        work(x, "swell 0 30;", 1, 0);
        Check.due("just 60", x.debt(0, 3), 60);
        work(x, "swell 0 1;", 0, 1);
        work(x, "swell 1 30;", 1, 0);
        Check.due("59", x.debt(1, 3), 59);
        work(x, "swell 1 2;", 1, 0);
        Check.due("60 of 61", x.debt(1, 3), 60);
        work(x, "swell 1 30;", 0, 1);
        work(x, "forgive 2;swell 2 5;", 1, 1);
        Check.due("gone", x.debt(2, 3), 0);
        work(x, "swell 0 30;swell 1 1;", 0, 2);
    }

    // "give: N go from the crock of A to that of B (REFUSED, if A is B, or there is less)."
    private static void give() {
        DebtMiller x = with(TWO + "flour 0 10;");
        work(x, "give 0 1 11;", 0, 1);
        work(x, "give 0 0 5;", 0, 1);
        Check.due("still", x.house(0, 2), 10);
        work(x, "give 0 1 10;", 1, 0);
        Check.due("all", x.house(0, 2), 0);
        Check.due("to it", x.house(1, 2), 10);
        work(x, "give 0 1 1;give 1 1 11;", 0, 2);
        Check.due("not by grinding", x.house(1, 7), 0);
    }

    // "(999 at most there)"
    private static void giveCrock() {
        DebtMiller x = with(DOZEN + "flour 0 99;flour 1 99;");
        Check.law(x, "99");
        Check.work(x, GRIND_NINE);
        Check.due("990", x.house(0, 2), 990);
        work(x, "give 1 0 9;", 1, 0);
        Check.due("just 999", x.house(0, 2), 999);
        Check.due("the giver", x.house(1, 2), 90);
        work(x, "give 1 0 90;", 1, 0);
        Check.due("999 at most", x.house(0, 2), 999);
        Check.due("the giver has none", x.house(1, 2), 0);
        work(x, "give 0 1 99;", 1, 0);
        Check.due("from a full one", x.house(0, 2), 900);
        Check.due("to an empty one", x.house(1, 2), 99);
    }

    // "rain: N more water, 99 at most (REFUSED at 99)."
    private static void rain() {
        DebtMiller x = with("water 58;");
        work(x, "rain 40;", 1, 0);
        Check.due("98", x.told(3), 98);
        work(x, "rain 1;", 1, 0);
        Check.due("just 99", x.told(3), 99);
        work(x, "rain 1;rain 40;", 0, 2);
        x.undo();
        x.undo();
        work(x, "rain 40;rain 1;", 1, 1);
        Check.due("99 of 138", x.told(3), 99);
        DebtMiller y = with("water 0;");
        work(y, "rain 1;", 1, 0);
        Check.due("1", y.told(3), 1);
    }

    // "day (REFUSED on DAY 400)"
    private static void lastDay() {
        DebtMiller x = with(TWO + "debt 0 1 0 1;flour 0 99;");
        Check.work(x, "again 60[day;day;day;];");
        Check.work(x, "again 60[day;day;day;];");
        work(x, "again 39[day;];", 39, 0);
        Check.due("day 399", x.told(2), 399);
        work(x, "day;", 1, 0);
        Check.due("day 400", x.told(2), 400);
        Check.due("age 400", x.debt(0, 4), 400);
        Check.work(x, "grind 0;");
        Check.due("flour", x.house(0, 2), 99);
        work(x, "day;day;", 0, 2);
        Check.due("day 400", x.told(2), 400);
        Check.due("nobody ate", x.house(0, 2), 99);
        work(x, "give 0 1 9;rain 1;", 2, 0);
        x.undo();
        x.undo();
        x.undo();
        x.undo();
        work(x, "day;day;", 1, 1);
    }

    // "each HOUSE eats as many as its MOUTHS from its crock, as far as that lasts"
    private static void eating() {
        DebtMiller x = with("house 5 0;house 5 0;house 5 0;house 5 0;flour 0 6;flour 1 5;flour 2 4;");
        Check.work(x, "day;");
        int[] crocks = {1, 0, 0, 0};
        int[] hungers = {0, 0, 1, 5};
        for (int h = 0; h < 4; h++) {
            Check.due("crock " + h, x.house(h, 2), crocks[h]);
            Check.due("hunger " + h, x.house(h, 3), hungers[h]);
        }
        Check.due("who hungers", x.told(5), 12);
    }

    // "if all ate, its hunger is 0, else it is more by what was not there (99 at most)"
    private static void hunger() {
        DebtMiller x = with("house 9 0;house 1 0;house 7 0;flour 1 99;");
        Check.work(x, "again 11[day;];");
        Check.due("just 99", x.house(0, 3), 99);
        Check.due("77", x.house(2, 3), 77);
        Check.work(x, "day;");
        Check.due("99 at most", x.house(0, 3), 99);
        Check.work(x, "day;day;");
        Check.due("98", x.house(2, 3), 98);
        Check.work(x, "give 1 0 8;day;");
        Check.due("not all ate, still 99", x.house(0, 3), 99);
        Check.due("99 of 105", x.house(2, 3), 99);
        Check.due("crock", x.house(0, 2), 0);
        Check.work(x, "give 1 0 9;day;");
        Check.due("all ate", x.house(0, 3), 0);
        Check.work(x, "give 1 0 8;day;");
        Check.due("one was not there", x.house(0, 3), 1);
    }

    // "each DEBT that is there is a DAY older; the DAY is one more"
    private static void ages() {
        DebtMiller x = with(TWO + "debt 0 1 0 1;debt 0 1 0 1;debt 1 0 0 1;");
        Check.work(x, "day;forgive 1;day;day;swell 2 1;");
        Check.due("day", x.told(2), 3);
        Check.due("age", x.debt(0, 4), 3);
        Check.due("gone", x.debt(1, 4), 0);
        Check.due("swollen ones are as old", x.debt(2, 4), 3);
    }
}
