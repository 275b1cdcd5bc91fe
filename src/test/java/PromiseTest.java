/** One method for each promise of the document: ordinary inputs, its edges, and wrong inputs. */
public final class PromiseTest {
    private static final String VALLEY = "house 3 2;house 5 0;house 2 9;"
        + "debt 0 1 2 10;debt 0 2 5 4;debt 1 0 0 7;debt 2 0 9 1;flour 0 7;flour 1 20;water 6;";
    // Two houses, twelve light debts of the first one.
    private static final String DOZEN = "house 1 0;house 9 0;" + "debt 0 1 0 1;".repeat(12) + "water 99;";

    public static void main(String[] args) {
        promise1(); promise2(); promise3(); promise3Faults(); promise4(); promise4Faults(); promise5(); promise5Steps();
        promise5Faults(); promise6(); promise7(); promise8(); promise9(); promise10(); promise11(); promise12();
        promise13(); promise14(); promise15(); promise16(); promise17(); promise18(); promise19(); promise20();
        promise21(); promise22(); promise23(); promise24(); promise25(); promise26(); promise27(); promise28();
        promise29(); promise30(); promise31(); promise32(); promise33(); promise34(); promise35(); promise36();
        promise37(); promise38(); promise39();
        Check.end();
    }

    private static DebtMiller usual() {
        return Check.with(VALLEY);
    }

    private static void promise1() {
        DebtMiller x = new DebtMiller();
        int[] want = {0, 0, 0, 20, 0, 0, 0, 0, 0, 0, 0, 0};
        for (int what = 0; what < want.length; what++) {
            Check.due("new told " + what, x.told(what), want[what]);
        }
        Check.due("new fault", x.fault(), -1);
        Check.due("new law", x.would(10, 2, 7, 0, 1, 0, 0, 0, 0), 20);
        Check.due("new work", Check.work(x, "day;rain 1;"), 2);
        Check.due("new day", x.told(2), 1);
        Check.due("new water", x.told(3), 21);
    }

    private static void promise2() {
        DebtMiller x = new DebtMiller();
        for (int i = 1; i <= 30; i++) {
            Check.due("feed", x.feed(0x20202020, 0x20202020, 0x20202020, 0x20202020, 0x20202020), 20 * i);
        }
        Check.due("feed beyond", x.feed(1, 2, 3, 4, 5), -1);
        Check.due("tape", x.count(1), 600);
        Check.due("blanks alone", x.valley(600), 0);
        Check.due("tape empty", x.count(1), 0);
        x.feed(0x77617465, 0x72203132, 0x3B202020, -1, 0x80808080);
        Check.due("highest first", x.valley(9), 0);
        Check.due("water 12", x.told(3), 12);
    }

    private static void promise3() {
        DebtMiller x = usual();
        Check.law(x, "1");
        Check.book(x, "0 1;");
        Check.work(x, "day;grind 0;grind 0;");
        x.image();
        Check.refused("valley(-1)", () -> x.valley(-1));
        Check.refused("valley(1)", () -> x.valley(1));
        Check.feed(x, "house 1 0;");
        Check.refused("valley(21)", () -> x.valley(21));
        Check.due("it stays", x.count(1), 20);
        Check.due("valley", x.valley(10), 0);
        Check.due("tape is empty", x.count(1), 0);
        Check.due("day 0", x.told(2), 0);
        Check.due("no law", x.would(1, 0, 0, 0, 1, 0, 0, 0, 0), 2);
        Check.due("no book", x.told(9), 0);
        Check.due("no images", x.count(0), 0);
        Check.due("nothing to undo", x.undo(), -1);
        Check.due("no refused steps", x.told(10), 0);
        Check.due("water again", x.told(3), 20);
        Check.due("blanks", Check.valley(x, " house1 2 ; house  003 04;flour 1 5;flour1 6;water1;water 2; debt0 1 2 30 ;  "), 1);
        Check.due("last flour", x.house(1, 2), 6);
        Check.due("leading zeros", x.house(1, 0), 3);
        Check.due("last water", x.told(3), 2);
        Check.due("weight", x.debt(0, 3), 30);
        Check.due("empty valley", x.valley(0), 0);
        Check.due("no houses", x.told(0), 0);
        Check.due("sixty clauses", Check.valley(x, "water 1;".repeat(60)), 0);
    }

    private static void valleyFault(String text, int answer, int place) {
        DebtMiller x = usual();
        Check.due("valley " + text, Check.valley(x, text), answer);
        Check.due("fault of " + text, x.fault(), place);
        Check.due("all stays, " + text, x.told(1), 4);
        Check.due("tape, " + text, x.count(1), 0);
    }

    private static void promise3Faults() {
        valleyFault("house", -9, 5);
        valleyFault("house  ", -9, 7);
        valleyFault("house 1", -9, 7);
        valleyFault("house 1 1 ", -9, 10);
        valleyFault("house 1 1 2;", -9, 10);
        valleyFault("house x 1;", -9, 6);
        valleyFault("houseX 1 1;", -9, 5);
        valleyFault("House 1 1;", -9, 0);
        valleyFault(" hous 1 1;", -9, 1);
        valleyFault(";", -9, 0);
        valleyFault("water 1;;", -9, 8);
        valleyFault("water -1;", -9, 6);
        valleyFault("water 1;7", -9, 8);
        valleyFault("\u00e9water 1;", -9, 0);
        valleyFault("house 0 0;", -8, 6);
        valleyFault("house 99999999999999999999 0;", -8, 6);
        valleyFault("house 4294967297 0;", -8, 6);
        valleyFault("house 10 0;", -8, 6);
        valleyFault("house 1 10;", -8, 8);
        valleyFault("housez 1 0;", -9, 0);
        valleyFault("housea 1 0;", -9, 0);
        valleyFault("house 1 0;house 1 0;debt 0 1 10 1;", -8, 29);
        valleyFault("house 1 0;house 1 0;debt 0 1 0 0;", -8, 31);
        valleyFault("house 1 0;house 1 0;debt 0 1 0 31;", -8, 31);
        valleyFault("house 1 0;debt 0 1 0 1;house 1 0;", -8, 17);
        valleyFault("house 1 0;house 1 0;debt 1 1 0 1;", -8, 27);
        valleyFault("house 1 0;house 1 0;debt 2 1 0 1;", -8, 25);
        valleyFault("house 1 0;flour 1 1;", -8, 16);
        valleyFault("house 1 0;flour 0 100;", -8, 18);
        valleyFault("water 100;", -8, 6);
        valleyFault("house 1 0;".repeat(6) + " house 0 0;", -7, 61);
        valleyFault("water 1;".repeat(60) + " water 1;", -7, 481);
        valleyFault("water 1;".repeat(60) + "rain 1;", -9, 480);
        valleyFault("water 1;".repeat(60) + "1", -9, 480);
        valleyFault("water 1;".repeat(60) + "house 0 0;", -7, 480);
        valleyFault("house 1 0;house 1 0;" + "debt 0 1 0 1;".repeat(12) + "debt 7 7 7 7;", -7, 176);
    }

    private static int flourBy(String law) {
        DebtMiller x = new DebtMiller();
        Check.due("law " + law, Check.law(x, law), 1);
        return x.would(20, 3, 40, 7, 5, 60, 2, 80, 9);
    }

    private static void promise4() {
        Check.due("weight", flourBy("weight"), 20);
        Check.due("kind", flourBy(" kind "), 3);
        Check.due("age", flourBy("age"), 40);
        Check.due("pride", flourBy("pride"), 7);
        Check.due("mouths", flourBy("mouths"), 5);
        Check.due("owed", flourBy("owed"), 60);
        Check.due("others", flourBy("others"), 2);
        Check.due("hunger", flourBy("hunger"), 80);
        Check.due("debt", flourBy("debt"), 9);
        Check.due("left to right", flourBy("90-30-20"), 40);
        Check.due("products first", flourBy("2+3*4%5-1"), 3);
        Check.due("product left to right", flourBy("90/4*4"), 88);
        Check.due("brackets", flourBy("90/(4*4)"), 5);
        Check.due("least", flourBy("least[weight,age]"), 20);
        Check.due("most", flourBy("most [ least[1,2] , 3+4 ] * 2"), 14);
        Check.due("by 0", flourBy("5+weight/(kind-3)+weight%0"), 5);
        Check.due("cut towards 0", flourBy("50+(0-7)/2"), 47);
        Check.due("sign of the divided", flourBy("50+(0-7)%4"), 47);
        Check.due("by less than 0", flourBy("50+7%(0-4)"), 53);
        Check.due("0 at least", flourBy("kind-weight"), 0);
        Check.due("99 at most", flourBy("999"), 99);
        Check.due("wraps", flourBy("999*999*999*5%100"), 99);
        Check.due("wraps below 0", flourBy("999*999*999*3%100+99"), 0);
        Check.due("six open", flourBy("(least[(most[((7)),1]),9])"), 7);
        DebtMiller x = usual();
        Check.refused("law(1)", () -> x.law(1));
        Check.refused("law(-1)", () -> x.law(-1));
        Check.feed(x, "1" + " ".repeat(150));
        Check.refused("law(151)", () -> x.law(151));
        Check.due("law(150)", x.law(150), 1);
        Check.due("flour by it", x.debt(0, 5), 1);
        Check.due("day stays", x.told(2), 0);
        Check.law(x, "debt*9+owed");
        int[] flours = {7, 10, 28, 31};
        for (int d = 0; d < 4; d++) {
            Check.due("debt and owed of " + d, x.debt(d, 5), flours[d]);
        }
        Check.law(x, "others*50+mouths+pride*5");
        Check.due("others 0", x.debt(0, 5), 63);
        Check.due("others 2", x.debt(2, 5), 5);
        Check.due("others 3", x.debt(3, 5), 47);
        Check.work(x, "forgive 1;give 0 1 7;day;day;");
        Check.law(x, "others*50+hunger*2+age");
        Check.due("by now", x.debt(0, 5), 14);
    }

    private static void lawFault(String text, int answer, int place) {
        DebtMiller x = new DebtMiller();
        Check.due("law " + text, Check.law(x, text), answer);
        Check.due("fault of " + text, x.fault(), place);
        Check.due("law stays, " + text, x.would(10, 2, 7, 0, 1, 0, 0, 0, 0), 20);
    }

    private static void promise4Faults() {
        lawFault("", -9, 0);
        lawFault("   ", -9, 3);
        lawFault("1 2", -9, 2);
        lawFault("1 1000", -9, 2);
        lawFault("-1", -9, 0);
        lawFault("1+", -9, 2);
        lawFault("1+ ;", -9, 3);
        lawFault("(1", -9, 2);
        lawFault("1)", -9, 1);
        lawFault("()", -9, 1);
        lawFault("least", -9, 5);
        lawFault("least(1,2)", -9, 5);
        lawFault("least[1,2", -9, 9);
        lawFault("least[1,2)", -9, 9);
        lawFault("most[1;2]", -9, 6);
        lawFault("weights", -9, 0);
        lawFault("water", -9, 0);
        lawFault("1+1000", -8, 2);
        lawFault("0001000", -8, 0);
        lawFault("((((((least[1,2]))))))", -7, 6);
        lawFault("((((((most", -7, 6);
        lawFault("((((((x", -9, 6);
        lawFault("((((((;", -9, 6);
        lawFault("most[most[most[most[most[most[1,2],most[(1),2]", -7, 40);
    }

    private static void promise5() {
        DebtMiller x = usual();
        Check.refused("work(1)", () -> x.work(1));
        Check.refused("work(-1)", () -> x.work(-1));
        Check.feed(x, " ".repeat(151));
        Check.refused("work(151)", () -> x.work(151));
        Check.due("tape stays", x.count(1), 160);
        Check.due("work of blanks", x.work(150), 0);
        Check.due("is a work", x.count(2), 1);
        for (int i = 2; i <= 16; i++) {
            Check.due("work", Check.work(x, "day;"), 1);
            Check.due("works", x.count(2), i);
        }
        Check.work(x, "x");
        Check.due("no fault", x.fault(), -1);
        Check.due("full", Check.work(x, "day;x"), -20);
        Check.due("tape is empty", x.count(1), 0);
        Check.refused("full, but not so many bytes", () -> x.work(1));
        Check.due("day", x.told(2), 15);
        x.undo();
        Check.due("room again", Check.work(x, "x"), -9);
        Check.due("room again", Check.work(x, "day;day;"), 2);
    }

    private static void promise5Steps() {
        DebtMiller x = usual();
        Check.due("grind", Check.work(x, "grind 0;grind 0;"), 1);
        Check.due("refused", x.told(10), 1);
        Check.due("water", x.told(3), 3);
        Check.due("crock", x.house(0, 2), 25);
        Check.due("swollen drinks", Check.work(x, "swell 2 8;grind 2;"), 1);
        Check.due("forgive", Check.work(x, "forgive 0;forgive 2;forgive 2;"), 1);
        Check.due("swell gone", Check.work(x, "swell 2 1;"), 0);
        Check.due("swell to 60", Check.work(x, "swell 3 30;swell 3 30;swell 3 1;"), 2);
        Check.due("weight", x.debt(3, 3), 60);
        Check.due("give", Check.work(x, "give 0 0 1;give 0 1 26;give 0 1 25;give 0 1 1;"), 1);
        Check.due("given", x.house(1, 2), 45);
        Check.due("rain", Check.work(x, "rain 40;rain 40;rain 15;rain 40;rain 1;"), 4);
        Check.due("water", x.told(3), 99);
        Check.due("loops", Check.work(x, "again 3 [day;again 2[rain 1;];];again 0[day;];"), 3);
        Check.due("refused in loops", x.told(10), 6);
        Check.due("two hundred begun", Check.work(x, "again 60[day;again 0[];forgive 3;day;];"), 100);
        Check.due("refused", x.told(10), 49);
        Check.due("nothing behind", Check.work(x, "again 60[again 60[];];".repeat(3) + "again 14[again 2[];];day;rain 1;day;"), 1);
        Check.due("refused ones count", x.told(10), 1);
        Check.due("day", x.told(2), 103);
        Check.work(x, "again 6[again 60[day;];];");
        Check.work(x, "again 6[again 60[day;];];");
        Check.due("day 400", x.told(2), 400);
        Check.due("refused at 400", Check.work(x, "day;day;"), 0);
        Check.due("refused", x.told(10), 2);
        DebtMiller z = usual();
        Check.due("as many steps as a text holds", Check.work(z, "day;".repeat(37) + "  "), 37);
        Check.due("as many in a loop", Check.work(z, "again 1[" + "day;".repeat(35) + "];"), 35);
        DebtMiller y = Check.with(DOZEN + "flour 0 99;flour 1 99;");
        Check.law(y, "99");
        Check.work(y, "grind 0;grind 1;grind 2;grind 3;grind 4;grind 5;grind 6;grind 7;grind 8;grind 9;grind 10;grind 11;");
        Check.due("crock is full", y.house(0, 2), 999);
        Check.due("what came", y.house(0, 7), 1188);
        Check.due("giving to a full one", Check.work(y, "give 1 0 50;"), 1);
        Check.due("it is full", y.house(0, 2), 999);
        Check.due("the giver", y.house(1, 2), 49);
        Check.due("eats and hungers", Check.work(y, "again 9[day;];"), 9);
        Check.due("hunger", y.house(1, 3), 32);
        Check.work(y, "give 0 1 10;day;");
        Check.due("sated", y.house(1, 3), 0);
        Check.work(y, "day;");
        Check.due("hungry", y.house(1, 3), 8);
        Check.work(y, "again 12[day;];");
        Check.due("hunger 99", y.house(1, 3), 99);
    }

    private static void workFault(String text, int answer, int place) {
        DebtMiller x = usual();
        Check.work(x, "grind 0;grind 0;");
        Check.due("work " + text, Check.work(x, text), answer);
        Check.due("fault of " + text, x.fault(), place);
        Check.due("none is done, " + text, x.told(2), 0);
        Check.due("none to undo, " + text, x.count(2), 1);
        Check.due("refused by the latest, " + text, x.told(10), 1);
    }

    private static void promise5Faults() {
        workFault("day;grind 4;", -8, 10);
        workFault("day;swell 0 31;", -8, 12);
        workFault("day;give 3 0 1;", -8, 9);
        workFault("day;give 0 1 100;", -8, 13);
        workFault("day;rain 41;", -8, 9);
        workFault("day;again 61 x", -8, 10);
        workFault("day;again 1 day", -9, 12);
        workFault("day;again 1 [day]", -9, 16);
        workFault("day;again 1 [day;", -9, 17);
        workFault("day;again 1 [day;]", -9, 18);
        workFault("day;]", -9, 4);
        workFault("day day;", -9, 4);
        workFault("day;days;", -9, 4);
        workFault("day;dayday;", -9, 4);
        workFault("day;grind;", -9, 9);
        workFault("day;" + "again 1[".repeat(7), -7, 52);
        workFault("day;" + "again 1[".repeat(6) + "agains", -9, 52);
        workFault("day;" + "again 1[".repeat(6), -9, 52);
        DebtMiller x = usual();
        Check.due("six open", Check.work(x, "again 1[".repeat(6) + "day;" + "];".repeat(6) + "again 1[day;];"), 2);
        DebtMiller y = new DebtMiller();
        Check.due("no debts", Check.work(y, "grind 0;"), -8);
        Check.due("no houses", Check.work(y, "give 0 0 1;"), -8);
    }

    private static void promise6() {
        DebtMiller x = usual();
        Check.due("book", Check.book(x, " 2 0 ;0 999; "), 2);
        Check.due("lines", x.told(9), 2);
        String[] texts = {"3 1;", "0 1;0 2;", "0 1000;", "0;", "0 1", "x", "0 1;;", "0 1;1 2;2 3;2 4;", "0 1 2;"};
        int[] answers = {-8, -8, -8, -9, -9, -9, -9, -8, -9};
        int[] places = {0, 4, 2, 1, 3, 0, 4, 12, 4};
        for (int i = 0; i < texts.length; i++) {
            Check.due("book " + texts[i], Check.book(x, texts[i]), answers[i]);
            Check.due("fault of " + texts[i], x.fault(), places[i]);
            Check.due("book stays, " + texts[i], x.told(9), 2);
        }
        Check.feed(x, " ".repeat(61));
        Check.refused("book(61)", () -> x.book(61));
        Check.due("book(60)", x.book(60), 0);
        Check.due("no lines", x.told(9), 0);
        Check.refused("book(1)", () -> x.book(1));
    }

    private static void promise7() {
        DebtMiller x = usual();
        Check.due("none", x.fault(), -1);
        Check.law(x, "1+");
        Check.due("of law", x.fault(), 2);
        Check.refused("no text", () -> x.law(3));
        Check.due("still", x.fault(), 2);
        x.undo();
        x.feed(0, 0, 0, 0, 0);
        Check.due("still", x.fault(), 2);
        x.work(0);
        Check.due("none again", x.fault(), -1);
    }

    private static void promise8() {
        DebtMiller x = usual();
        Check.due("none", x.undo(), -1);
        Check.work(x, "grind 0;give 1 2 9;rain 9;");
        Check.work(x, "swell 1 9;day;day;forgive 2;forgive 2;");
        Check.law(x, "7");
        Check.book(x, "0 7;");
        Check.due("one left", x.undo(), 1);
        Check.due("refused", x.told(10), 0);
        Check.due("weight", x.debt(1, 3), 4);
        Check.due("age", x.debt(1, 4), 0);
        Check.due("day", x.told(2), 0);
        Check.due("hunger", x.told(5), 0);
        Check.due("there", x.told(4), 14);
        Check.due("law stays", x.debt(1, 5), 7);
        Check.due("book stays", x.told(9), 1);
        Check.due("none left", x.undo(), 0);
        Check.due("came", x.house(0, 7), 0);
        Check.due("crock", x.house(2, 2), 0);
        Check.due("water", x.told(3), 6);
        Check.due("there", x.told(4), 15);
        Check.due("none", x.undo(), -1);
    }

    private static void promise9() {
        DebtMiller x = usual();
        Check.work(x, "forgive 1;day;grind 1;swell 0 30;");
        int[] want = {3, 4, 1, 6, 13, 4, 19, 48, 92, 0, 1, 12};
        for (int what = 0; what < want.length; what++) {
            Check.due("told " + what, x.told(what), want[what]);
        }
        Check.refused("told(-1)", () -> x.told(-1));
        Check.refused("told(12)", () -> x.told(12));
    }

    private static void promise10() {
        DebtMiller x = usual();
        Check.work(x, "grind 0;day;");
        int[][] want = {{3, 2, 22, 0, 2, 4, 8, 18}, {5, 0, 15, 0, 4, 7, 0, 0}, {2, 9, 0, 2, 8, 1, 4, 0}};
        for (int h = 0; h < 3; h++) {
            for (int what = 0; what < 8; what++) {
                Check.due("house " + h + " " + what, x.house(h, what), want[h][what]);
            }
        }
        Check.missing("house(3, 0)", () -> x.house(3, 0));
        Check.missing("house(-1, 99)", () -> x.house(-1, 99));
        Check.refused("house(0, 8)", () -> x.house(0, 8));
        Check.refused("house(0, -1)", () -> x.house(0, -1));
    }

    private static void promise11() {
        DebtMiller x = usual();
        Check.work(x, "grind 0;day;again 3[day;];swell 2 3;");
        int[][] want = {{0, 1, 2, 0, 0, 0, 0}, {0, 2, 5, 4, 4, 4, 1}, {1, 0, 0, 10, 4, 21, 3}, {2, 0, 9, 1, 4, 0, 1}};
        for (int d = 0; d < 4; d++) {
            for (int what = 0; what < 7; what++) {
                Check.due("debt " + d + " " + what, x.debt(d, what), want[d][what]);
            }
        }
        Check.missing("debt(4, 0)", () -> x.debt(4, 0));
        Check.missing("debt(-1, 99)", () -> x.debt(-1, 99));
        Check.refused("debt(0, 7)", () -> x.debt(0, 7));
        Check.refused("debt(0, -1)", () -> x.debt(0, -1));
    }

    private static void promise12() {
        DebtMiller x = new DebtMiller();
        Check.due("usual law", x.would(30, 9, 14, 0, 1, 0, 0, 0, 0), 55);
        int[] least = {1, 0, 0, 0, 1, 0, 0, 0, 0};
        int[] greatest = {60, 9, 999, 9, 9, 999, 11, 99, 11};
        Check.due("all least", would(x, least), 2);
        Check.due("all greatest", would(x, greatest), 99);
        for (int i = 0; i < 9; i++) {
            int[] below = least.clone();
            int[] above = greatest.clone();
            below[i]--;
            above[i]++;
            Check.refused("would, below in " + i, () -> would(x, below));
            Check.refused("would, above in " + i, () -> would(x, above));
        }
        Check.due("refused", x.status(1), 18);
    }

    private static int would(DebtMiller x, int[] t) {
        return x.would(t[0], t[1], t[2], t[3], t[4], t[5], t[6], t[7], t[8]);
    }

    private static void promise13() {
        DebtMiller x = usual();
        Check.due("can", x.can(0), true);
        Check.work(x, "forgive 3;grind 0;grind 1;");
        Check.due("gone", x.can(3), false);
        Check.due("just enough", x.can(2), true);
        Check.work(x, "swell 2 3;");
        Check.due("too thirsty", x.can(2), false);
        Check.missing("can(4)", () -> x.can(4) ? 1 : 0);
        Check.missing("can(-1)", () -> x.can(-1) ? 1 : 0);
    }

    private static void promise14() {
        DebtMiller x = usual();
        Check.due("flour now", x.ahead(0, 0), 27);
        Check.due("flour in 3", x.ahead(3, 0), 5);
        Check.due("hungry in 2", x.ahead(2, 1), 4);
        Check.due("hungry in 3", x.ahead(3, 1), 5);
        Check.due("hunger in 3", x.ahead(3, 2), 8);
        Check.due("hunger in 99", x.ahead(99, 2), 297);
        Check.due("nothing stays", x.told(2), 0);
        Check.due("nothing stays", x.told(6), 27);
        Check.refused("ahead(-1, 0)", () -> x.ahead(-1, 0));
        Check.refused("ahead(100, 0)", () -> x.ahead(100, 0));
        Check.refused("ahead(1, 3)", () -> x.ahead(1, 3));
        Check.refused("ahead(1, -1)", () -> x.ahead(1, -1));
        DebtMiller y = Check.with("house 1 0;flour 0 99;");
        Check.work(y, "again 60[day;day;day;];");
        Check.work(y, "again 60[day;day;day;];");
        Check.work(y, "again 60[day;day;day;];");
        Check.due("beyond 400", y.told(2), 400);
        Check.due("still goes by", y.ahead(99, 2), 99);
    }

    private static void promise15() {
        DebtMiller x = usual();
        Check.due("lasts 0", x.lasts(0), 2);
        Check.due("lasts 1", x.lasts(1), 4);
        Check.due("lasts 2", x.lasts(2), 0);
        Check.missing("lasts(3)", () -> x.lasts(3));
        Check.missing("lasts(-1)", () -> x.lasts(-1));
        DebtMiller y = Check.with("house 1 0;house 1 0;flour 0 99;flour 1 99;");
        Check.due("99", y.lasts(0), 99);
        Check.work(y, "give 1 0 99;");
        Check.due("99 at most", y.lasts(0), 99);
    }

    private static void promise16() {
        DebtMiller x = usual();
        Check.due("enough", x.plan(0, 2), 0);
        Check.due("least bits", x.plan(0, 3), 1);
        Check.due("both", x.plan(0, 9), 3);
        Check.due("never", x.plan(0, 10), -1);
        Check.work(x, "grind 2;grind 3;");
        Check.due("water", x.plan(0, 9), -1);
        Check.missing("plan(3, 100)", () -> x.plan(3, 100));
        Check.missing("plan(-1, 1)", () -> x.plan(-1, 1));
        Check.refused("plan(0, 100)", () -> x.plan(0, 100));
        Check.refused("plan(0, -1)", () -> x.plan(0, -1));
        DebtMiller y = Check.with("house 1 0;house 1 0;debt 0 1 0 5;debt 0 1 0 5;debt 0 1 0 9;debt 0 1 0 10;");
        Check.due("fewer before lesser bits", y.plan(0, 19), 8);
        Check.due("of one the lesser bits", y.plan(0, 18), 4);
        Check.due("of two", y.plan(0, 30), 9);
        DebtMiller z = Check.with(DOZEN + "water 12;");
        Check.due("all twelve, by all the water", z.plan(0, 24), 4095);
        Check.due("eleven", z.plan(0, 22), 2047);
        Check.due("not so much", z.plan(0, 25), -1);
        Check.law(z, "99");
        Check.due("nine", z.plan(0, 99), 1);
    }

    private static void promise17() {
        DebtMiller x = usual();
        Check.due("flours", x.most(0), 35);
        Check.due("without what runs none", x.most(1), 7);
        Check.refused("most(2)", () -> x.most(2));
        Check.refused("most(-1)", () -> x.most(-1));
        DebtMiller y = Check.with("house 1 0;house 1 0;debt 0 1 0 5;debt 1 0 0 5;debt 0 1 0 10;debt 0 1 0 10;water 4;");
        Check.due("by water", y.most(0), 20);
        Check.due("one rather than two", y.most(1), 4);
        Check.law(y, "least[weight,5]");
        Check.due("two of five", y.most(0), 10);
        Check.due("the first two", y.most(1), 3);
        Check.law(y, "weight");
        Check.work(y, "rain 1;");
        Check.due("fifteen", y.most(0), 15);
        Check.due("the first of such", y.most(1), 5);
        DebtMiller z = Check.with("house 1 0;house 1 0;debt 0 1 0 5;debt 1 0 0 5;debt 0 1 0 10;water 4;");
        Check.law(z, "weight");
        Check.due("ten by one or by two", z.most(0), 10);
        Check.due("the fewest", z.most(1), 4);
        DebtMiller dry = Check.with("house 1 0;house 1 0;debt 0 1 0 5;water 0;");
        Check.due("dry", dry.most(0), 0);
        Check.due("dry", dry.most(1), 0);
    }

    private static final String LOOP = "house 1 0;house 1 0;house 1 0;house 1 0;house 1 0;house 1 0;"
        + "debt 0 1 0 1;debt 1 2 0 1;debt 2 3 0 1;debt 3 4 0 1;debt 4 5 0 1;debt 5 0 0 1;debt 3 1 0 2;";

    private static void promise18() {
        DebtMiller x = Check.with(LOOP);
        Check.due("ring of six", x.ring(0), 6);
        Check.due("ring of three", x.ring(1), 3);
        Check.work(x, "forgive 1;");
        Check.due("broken", x.ring(0), -1);
        Check.due("broken", x.ring(1), -1);
        Check.missing("ring(6)", () -> x.ring(6));
        Check.missing("ring(-1)", () -> x.ring(-1));
    }

    private static void promise19() {
        DebtMiller x = Check.with(LOOP);
        Check.due("all", x.tangle(5), 63);
        Check.work(x, "forgive 4;");
        Check.due("without the last", x.tangle(1), 30);
        Check.due("itself", x.tangle(4), 16);
        Check.due("up the row", x.tangle(5), 63);
        Check.missing("tangle(6)", () -> x.tangle(6));
        Check.missing("tangle(-1)", () -> x.tangle(-1));
    }

    private static void promise20() {
        DebtMiller x = usual();
        Check.due("all sets", x.ground(0), 16);
        Check.due("the empty one", x.ground(1), 0);
        Check.due("none is sure", x.ground(2), 0);
        Check.book(x, "0 18;2 0;");
        Check.due("sets", x.ground(0), 4);
        Check.due("first", x.ground(1), 1);
        Check.due("sure", x.ground(2), 1);
        Check.book(x, "0 18;1 13;");
        Check.due("no sets", x.ground(0), 0);
        Check.due("no first", x.ground(1), -1);
        Check.due("none sure", x.ground(2), 0);
        Check.book(x, "1 14;");
        Check.work(x, "grind 2;");
        Check.due("gone ones don't count", x.ground(0), 0);
        Check.refused("ground(3)", () -> x.ground(3));
        Check.refused("ground(-1)", () -> x.ground(-1));
        DebtMiller y = Check.with("house 1 0;house 1 0;debt 1 0 0 1;debt 1 0 0 2;debt 1 0 0 3;debt 1 0 0 7;");
        Check.book(y, "1 20;");
        Check.due("by 3 and 7, or 1, 2, 7", y.ground(0), 2);
        Check.due("least bits", y.ground(1), 11);
        Check.due("7 in any case", y.ground(2), 8);
    }

    private static void promise21() {
        DebtMiller x = usual();
        Check.due("ask", x.ask(0), 0);
        Check.due("left", x.ask(1), 4);
        Check.book(x, "0 18;");
        Check.due("ask", x.ask(0), 1);
        Check.due("left", x.ask(1), 2);
        Check.book(x, "0 18;1 0;");
        Check.due("ask", x.ask(0), 2);
        Check.due("both alike", x.ask(1), 2);
        Check.book(x, "0 18;1 0;2 0;");
        Check.due("all in lines", x.ask(0), -1);
        Check.due("all in lines", x.ask(1), -1);
        Check.refused("ask(2)", () -> x.ask(2));
        Check.refused("ask(-1)", () -> x.ask(-1));
        DebtMiller y = Check.with("house 1 0;house 1 0;house 1 0;debt 2 0 0 1;debt 1 0 0 1;debt 1 2 0 1;debt 2 1 0 2;");
        Check.due("of alike the first", y.ask(0), 2);
        Check.due("left", y.ask(1), 4);
        Check.law(y, "1");
        Check.due("of alike the first", y.ask(0), 1);
        Check.due("left", y.ask(1), 8);
        DebtMiller z = Check.with(DOZEN);
        Check.law(z, "99");
        Check.due("the most flour there can be", z.ask(1), 924);
        Check.work(z, "forgive 0;forgive 1;forgive 2;forgive 3;forgive 4;forgive 5;forgive 6;forgive 7;forgive 8;forgive 9;forgive 10;");
        Check.due("one debt, one house to ask", z.ask(0), 0);
        Check.due("left", z.ask(1), 1);
        DebtMiller none = new DebtMiller();
        Check.due("no houses", none.ask(1), -1);
    }

    private static void promise22() {
        DebtMiller x = Check.with(DOZEN);
        Check.law(x, "99");
        Check.due("none", x.mix(0), 1);
        Check.due("one", x.mix(99), 12);
        Check.due("six", x.mix(594), 924);
        Check.due("ten", x.mix(990), 66);
        Check.due("between", x.mix(100), 0);
        Check.work(x, "forgive 0;");
        Check.due("one of eleven", x.mix(99), 11);
        Check.law(x, "0");
        Check.due("all run none", x.mix(0), 2048);
        Check.due("edge", x.mix(999), 0);
        Check.refused("mix(1000)", () -> x.mix(1000));
        Check.refused("mix(-1)", () -> x.mix(-1));
    }

    private static void promise23() {
        DebtMiller x = new DebtMiller();
        int[][] want = {{10, 3, 1, 0, 10}, {9, 4, 3, 0, 8}, {10, 6, 2, 1, 16}, {7, 7, 3, 1, 14}, {3, 9, 1, 11, 18},
            {1, 0, 3, 0, 0}, {0, 0, 4, 0, 0}, {99, 99, 3, 1, 198}};
        for (int[] w : want) {
            for (int what = 0; what < 3; what++) {
                Check.due("creditors " + w[0] + " " + w[1] + " " + what, x.creditors(w[0], w[1], what), w[2 + what]);
            }
        }
        Check.refused("v", () -> x.creditors(100, 0, 0));
        Check.refused("v", () -> x.creditors(-1, 0, 0));
        Check.refused("w", () -> x.creditors(0, 100, 0));
        Check.refused("w", () -> x.creditors(0, -1, 0));
        Check.refused("what", () -> x.creditors(0, 0, 3));
        Check.refused("what", () -> x.creditors(0, 0, -1));
    }

    private static void wheel(int n, int k, int q, long above, long below) {
        DebtMiller x = new DebtMiller();
        String call = "wheel " + n + " " + k + " " + q;
        Check.due(call + " above", x.wheel(n, k, q, 0), above);
        Check.due(call + " below", x.wheel(n, k, q, 1), below);
    }

    private static void promise24() {
        wheel(0, 0, 0, 1, 1);
        wheel(0, 1, 16, 0, 1);
        wheel(12, 0, 5, 1, 1);
        wheel(12, 13, 5, 0, 1);
        wheel(5, 1, 0, 0, 1);
        wheel(5, 5, 16, 1, 1);
        wheel(2, 1, 8, 3, 4);
        wheel(2, 2, 12, 9, 16);
        wheel(3, 2, 4, 5, 32);
        wheel(12, 12, 1, 1, 281474976710656L);
        wheel(12, 12, 15, 129746337890625L, 281474976710656L);
        DebtMiller x = new DebtMiller();
        Check.refused("n", () -> x.wheel(13, 0, 0, 0));
        Check.refused("n", () -> x.wheel(-1, 0, 0, 0));
        Check.refused("k", () -> x.wheel(0, 14, 0, 0));
        Check.refused("k", () -> x.wheel(0, -1, 0, 0));
        Check.refused("q", () -> x.wheel(0, 0, 17, 0));
        Check.refused("q", () -> x.wheel(0, 0, -1, 0));
        Check.refused("part", () -> x.wheel(0, 0, 0, 2));
        Check.refused("part", () -> x.wheel(0, 0, 0, -1));
    }

    private static void promise25() {
        DebtMiller x = usual();
        int[][] byAll = {{0, 0, 0, 0}, {2, 0, 0, 0}, {3, 1, 1, 1}, {5, 1, 1, 1}, {6, 2, 2, 2}, {7, 2, 2, 2}, {8, 3, 3, 2},
            {9, 3, 4, 2}, {10, 3, 5, 2}, {99, 3, 5, 2}};
        for (int[] w : byAll) {
            for (int h = 0; h < 3; h++) {
                Check.due("share " + h + " of " + w[0], x.share(h, 7, w[0]), w[1 + h]);
            }
        }
        Check.due("among two", x.share(1, 6, 6), 4);
        Check.due("none of them", x.share(0, 6, 99), 0);
        Check.due("among none", x.share(0, 0, 99), 0);
        Check.missing("share(3, 99, 100)", () -> x.share(3, 99, 100));
        Check.missing("share(-1, 1, 1)", () -> x.share(-1, 1, 1));
        Check.refused("bits", () -> x.share(0, 8, 1));
        Check.refused("bits", () -> x.share(0, -1, 1));
        Check.refused("n", () -> x.share(0, 1, 100));
        Check.refused("n", () -> x.share(0, 1, -1));
    }

    private static void promise26() {
        DebtMiller x = usual();
        Check.due("whitest", x.whitest(0), 0);
        Check.due("its flour", x.whitest(1), 18);
        Check.law(x, "0");
        Check.work(x, "forgive 0;");
        Check.due("of alike the first", x.whitest(0), 1);
        Check.due("none of it", x.whitest(1), 0);
        Check.work(x, "forgive 1;forgive 2;forgive 3;");
        Check.due("none", x.whitest(0), -1);
        Check.due("none", x.whitest(1), -1);
        Check.refused("whitest(2)", () -> x.whitest(2));
        Check.refused("whitest(-1)", () -> x.whitest(-1));
    }

    private static void promise27() {
        DebtMiller x = Check.with("house 1 0;house 2 0;house 2 0;flour 0 1;");
        Check.due("none", x.hungriest(0), -1);
        Check.due("none", x.hungriest(1), -1);
        Check.work(x, "day;day;");
        Check.due("of alike the first", x.hungriest(0), 1);
        Check.due("its hunger", x.hungriest(1), 4);
        Check.refused("hungriest(2)", () -> x.hungriest(2));
        Check.refused("hungriest(-1)", () -> x.hungriest(-1));
    }

    private static void promise28() {
        DebtMiller x = usual();
        Check.due("net 0", x.net(0), -6);
        Check.due("net 1", x.net(1), 3);
        Check.work(x, "forgive 1;swell 3 4;");
        Check.due("net 0", x.net(0), 2);
        Check.due("net 2", x.net(2), -5);
        Check.missing("net(3)", () -> x.net(3));
        Check.missing("net(-1)", () -> x.net(-1));
    }

    private static void promise29() {
        DebtMiller x = Check.with("house 1 0;house 1 0;house 1 0;house 1 0;debt 1 3 0 5;debt 3 1 0 2;debt 3 1 1 3;"
            + "debt 2 3 0 4;debt 3 2 0 4;debt 0 1 0 1;");
        Check.due("pairs", x.even(0), 2);
        Check.due("the first", x.even(1), 13);
        Check.work(x, "swell 1 1;");
        Check.due("pairs", x.even(0), 1);
        Check.due("the first", x.even(1), 23);
        Check.work(x, "forgive 3;forgive 4;");
        Check.due("nothing is no debt", x.even(0), 0);
        Check.due("none", x.even(1), -1);
        Check.refused("even(2)", () -> x.even(2));
        Check.refused("even(-1)", () -> x.even(-1));
    }

    private static void promise30() {
        DebtMiller x = usual();
        Check.due("none", x.honest(), 0);
        Check.work(x, "forgive 2;grind 0;");
        Check.due("one", x.honest(), 2);
        Check.work(x, "grind 1;");
        Check.due("two", x.honest(), 3);
    }

    private static void promise31() {
        DebtMiller x = Check.with("house 1 0;house 1 0;debt 0 1 9 1;debt 1 0 0 1;debt 1 0 9 1;");
        Check.due("kind 9", x.kind(9), 5);
        Check.due("kind 0", x.kind(0), 2);
        Check.work(x, "forgive 0;");
        Check.due("kind 9", x.kind(9), 4);
        Check.refused("kind(10)", () -> x.kind(10));
        Check.refused("kind(-1)", () -> x.kind(-1));
    }

    private static void promise32() {
        DebtMiller x = usual();
        Check.work(x, "forgive 0;day;day;");
        Check.due("of alike the first", x.oldest(0), 1);
        Check.due("age", x.oldest(1), 2);
        Check.work(x, "forgive 1;forgive 2;forgive 3;");
        Check.due("none", x.oldest(0), -1);
        Check.due("none", x.oldest(1), -1);
        Check.refused("oldest(2)", () -> x.oldest(2));
        Check.refused("oldest(-1)", () -> x.oldest(-1));
    }

    private static void promise33() {
        DebtMiller x = usual();
        Check.due("thirst", x.thirst(), 7);
        Check.work(x, "swell 1 1;forgive 2;");
        Check.due("thirst", x.thirst(), 6);
    }

    // By hand: seed 0 draws 0, 21468, 9988, 22117, 3498, 16927 (the well-known row of this recurrence).
    private static void promise34() {
        DebtMiller x = Check.with("house 1 0;house 2 0;debt 0 1 0 10;debt 1 0 0 7;water 20;");
        Check.due("grinds the first", x.year(0, 1, 0, 0), 20);
        Check.due("who hungers", x.year(0, 1, 0, 1), 2);
        Check.due("no rain below 12", x.year(0, 1, 12, 2), 17);
        Check.due("rain below 13", x.year(0, 1, 13, 2), 22);
        Check.due("what is there", x.year(0, 1, 0, 3), 2);
        Check.due("then the other", x.year(0, 2, 0, 0), 34);
        Check.due("nothing stays", x.told(4), 3);
        Check.due("nothing stays", x.told(2), 0);
        Check.refused("days", () -> x.year(0, 0, 0, 0));
        Check.refused("days", () -> x.year(0, 97, 0, 0));
        Check.refused("q", () -> x.year(0, 1, 17, 0));
        Check.refused("q", () -> x.year(0, 1, -1, 0));
        Check.refused("what", () -> x.year(0, 1, 0, 4));
        Check.refused("what", () -> x.year(0, 1, 0, -1));
        DebtMiller y = Check.with("house 2 0;flour 0 5;");
        Check.due("no debts, no rain", y.year(3, 4, 16, 2), 20);
        Check.due("days go by", y.year(3, 2, 16, 1), 0);
        Check.due("days go by", y.year(3, 3, 16, 1), 1);
    }

    private static void promise35() {
        DebtMiller x = Check.with("house 1 0;house 2 0;debt 0 1 0 10;debt 1 0 0 7;water 20;");
        for (int seed : new int[] {0, 5, -7, Integer.MAX_VALUE - 2}) {
            int least = 999999;
            int most = 0;
            int hungry = 0;
            for (int i = 0; i < 20; i++) {
                least = Math.min(least, x.year(seed + i, 3, 4, 0));
                most = Math.max(most, x.year(seed + i, 3, 4, 0));
                hungry += x.year(seed + i, 3, 4, 1) >> 1 & 1;
            }
            Check.due("least by " + seed, x.span(seed, 20, 3, 4, 0, 0), least);
            Check.due("most by " + seed, x.span(seed, 20, 3, 4, 1, 1), most);
            Check.due("hungry by " + seed, x.span(seed, 20, 3, 4, 2, 1), hungry);
        }
        Check.due("one seed", x.span(0, 1, 1, 0, 1, 0), 20);
        Check.refused("many", () -> x.span(0, 0, 1, 0, 0, 0));
        Check.refused("many", () -> x.span(0, 21, 1, 0, 0, 0));
        Check.refused("days", () -> x.span(0, 1, 0, 0, 0, 0));
        Check.refused("days", () -> x.span(0, 1, 97, 0, 0, 0));
        Check.refused("q", () -> x.span(0, 1, 1, -1, 0, 0));
        Check.refused("q", () -> x.span(0, 1, 1, 17, 0, 0));
        Check.refused("what", () -> x.span(0, 1, 1, 0, 3, 0));
        Check.refused("what", () -> x.span(0, 1, 1, 0, -1, 0));
        Check.refused("house", () -> x.span(0, 1, 1, 0, 0, 2));
        Check.refused("house", () -> x.span(0, 1, 1, 0, 1, -1));
    }

    private static void promise36() {
        DebtMiller x = usual();
        for (int i = 1; i <= 3; i++) {
            Check.due("image", x.image(), i);
        }
        Check.due("there are three", x.image(), -1);
        Check.due("images", x.count(0), 3);
    }

    private static void promise37() {
        DebtMiller x = usual();
        Check.due("none", x.restore(), -1);
        Check.work(x, "grind 0;");
        x.image();
        Check.work(x, "day;day;forgive 1;forgive 1;");
        x.image();
        Check.work(x, "rain 9;give 1 0 1;swell 2 9;swell 0 1;");
        Check.law(x, "5");
        Check.book(x, "1 5;");
        Check.due("one left", x.restore(), 1);
        Check.due("water", x.told(3), 3);
        Check.due("day", x.told(2), 2);
        Check.due("weight", x.debt(2, 3), 7);
        Check.due("works", x.count(2), 2);
        Check.due("refused", x.told(10), 0);
        Check.due("law stays", x.debt(2, 5), 5);
        Check.due("book stays", x.told(9), 1);
        x.undo();
        x.undo();
        Check.due("undone", x.told(4), 15);
        Check.work(x, "forgive 3;forgive 3;");
        Check.due("none left", x.restore(), 0);
        Check.due("there", x.told(4), 14);
        Check.due("works", x.count(2), 1);
        Check.due("undo by the image", x.undo(), 0);
        Check.due("there", x.told(4), 15);
        Check.work(x, "forgive 3;forgive 3;");
        Check.due("none", x.restore(), -1);
        Check.due("nothing was restored", x.told(10), 1);
    }

    private static void promise38() {
        DebtMiller x = usual();
        x.image();
        Check.missing("house", () -> x.house(9, 0));
        Check.missing("debt", () -> x.debt(9, 99));
        Check.refused("told", () -> x.told(99));
        Check.valley(x, "x");
        x.restore();
        Check.due("missing", x.status(0), 2);
        Check.due("refused", x.status(1), 1);
        Check.due("other", x.status(2), -1);
        Check.due("other", x.status(-1), -1);
        Check.valley(x, VALLEY);
        Check.due("kept", x.status(0), 2);
    }

    private static void promise39() {
        DebtMiller x = usual();
        x.image();
        Check.work(x, "day;");
        Check.work(x, "day;");
        x.feed(1, 2, 3, 4, 5);
        Check.due("images", x.count(0), 1);
        Check.due("tape", x.count(1), 20);
        Check.due("works", x.count(2), 2);
        Check.due("other", x.count(3), -1);
        Check.due("other", x.count(-1), -1);
    }
}
