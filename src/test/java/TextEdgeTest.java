/** "Terms", the texts: each sentence that names a bound of a VALLEY, a LAW, WORK or a BOOK, on both of its sides. */
public final class TextEdgeTest {
    private static final String TWO = "house 1 0;house 1 0;";
    // Two houses, three debts, something of all in it.
    private static final String SMALL = "house 3 2;house 5 7;debt 0 1 2 10;debt 1 0 4 7;debt 0 1 9 1;flour 0 50;water 30;";

    public static void main(String[] args) {
        valleyBytes(); clauses(); houses(); mouths(); pride(); debts(); debtors(); kinds(); weights(); flour(); water();
        lawBytes(); lawEnd(); usualLaw(); flourBounds(); lawNumbers(); termsByNow(); termBounds(); leastMost(); wraps();
        divisions(); brackets();
        workBytes(); stepNumbers(); stepHouses(); agains(); emptyTexts();
        bookBytes(); bookHouses(); bookNumbers();
        digits(); words(); blanks(); firstFault(); textEnds(); faultKeepsAll();
        Check.end();
    }

    private static DebtMiller stands(String valley, int debts) {
        DebtMiller x = new DebtMiller();
        Check.due("valley " + valley, Check.valley(x, valley), debts);
        Check.due("no fault in " + valley, x.fault(), -1);
        return x;
    }

    private static void valleyFault(String text, int answer, int place) {
        DebtMiller x = Check.with(SMALL);
        Check.due("valley " + text, Check.valley(x, text), answer);
        Check.due("fault of valley " + text, x.fault(), place);
    }

    private static void lawFault(String text, int answer, int place) {
        DebtMiller x = Check.with(SMALL);
        Check.due("law " + text, Check.law(x, text), answer);
        Check.due("fault of law " + text, x.fault(), place);
    }

    private static void workFault(String text, int answer, int place) {
        DebtMiller x = Check.with(SMALL);
        Check.due("work " + text, Check.work(x, text), answer);
        Check.due("fault of work " + text, x.fault(), place);
    }

    private static void bookFault(String text, int answer, int place) {
        DebtMiller x = Check.with(SMALL);
        Check.due("book " + text, Check.book(x, text), answer);
        Check.due("fault of book " + text, x.fault(), place);
    }

    private static int flourBy(String law) {
        DebtMiller x = new DebtMiller();
        Check.due("law " + law, Check.law(x, law), 1);
        return x.would(20, 3, 40, 7, 5, 60, 2, 80, 9);
    }

    // "A VALLEY is a text of up to 600 bytes"
    private static void valleyBytes() {
        DebtMiller x = stands(" ".repeat(590) + "house 4 5;", 0);
        Check.due("the last of 600 bytes counts", x.told(0), 1);
        valleyFault(" ".repeat(590) + "house 4 55", -8, 598);
        valleyFault(" ".repeat(591) + "house 4 5", -9, 600);
        DebtMiller y = new DebtMiller();
        Check.feed(y, " ".repeat(600));
        Check.refused("valley(601)", () -> y.valley(601));
        Check.due("tape of 600 stays", y.count(1), 600);
        Check.due("valley(600)", y.valley(600), 0);
    }

    // "{ CLAUSE ";" }, at most 60"; "3 a CLAUSE .. (at its word) .. ; of one the least"
    private static void clauses() {
        stands("", 0);
        Check.due("the 60th counts", stands("water1;".repeat(59) + "water 7;", 0).told(3), 7);
        Check.due("blanks behind the 60th", stands("water1;".repeat(59) + "water 8;  ", 0).told(3), 8);
        String sixty = "water1;".repeat(60);
        valleyFault(sixty + "water 7;", -7, 420);
        valleyFault(sixty + "  water 7;", -7, 422);
        valleyFault(sixty + "house 1 1;", -7, 420);
        valleyFault(sixty + "debt 0 1 0 1;", -7, 420);
        valleyFault(sixty + "flour 0 1;", -7, 420);
        valleyFault(sixty + "water", -7, 420);
        valleyFault(sixty + "water 100;", -7, 420);
        valleyFault(sixty + "rain 1;", -9, 420);
        valleyFault(sixty + " ;", -9, 421);
        valleyFault(sixty + "5", -9, 420);
        valleyFault("water1;".repeat(59) + "water100;" + "water1;", -8, 418);
        valleyFault("water1;".repeat(59) + "water1", -9, 419);
    }

    // "HOUSES, numbered from 0 on, 6 at most"; "3 a .. HOUSE .. (at its word)"
    private static void houses() {
        DebtMiller x = stands("house 1 0;house 2 0;house 3 0;house 4 0;house 5 0;house 6 0;", 0);
        for (int h = 0; h < 6; h++) {
            Check.due("numbered from 0 on", x.house(h, 0), h + 1);
        }
        Check.missing("house 6", () -> x.house(6, 0));
        valleyFault("house 1 0;".repeat(7), -7, 60);
        valleyFault("house 1 0;".repeat(6) + "  house", -7, 62);
        valleyFault("house 1 0;".repeat(6) + "house 10 x", -7, 60);
        valleyFault("house 1 0;".repeat(6) + "houses", -9, 60);
        DebtMiller y = stands("house 1 0;".repeat(6) + "debt 5 0 0 1;water 3;", 1);
        Check.due("other clauses behind six", y.told(3), 3);
    }

    // "MOUTHS M, 1 to 9"
    private static void mouths() {
        Check.due("mouths 1", stands("house 1 0;", 0).house(0, 0), 1);
        Check.due("mouths 9", stands("house 9 0;", 0).house(0, 0), 9);
        valleyFault("house 0 0;", -8, 6);
        valleyFault("house 10 0;", -8, 6);
        valleyFault("house;", -9, 5);
    }

    // "PRIDE P, 0 to 9"
    private static void pride() {
        Check.due("pride 0", stands("house 1 0;", 0).house(0, 1), 0);
        Check.due("pride 9", stands("house 1 9;", 0).house(0, 1), 9);
        valleyFault("house 1 10;", -8, 8);
        valleyFault("house 1;", -9, 7);
    }

    // "DEBTS likewise, 12"; "3 a .. DEBT (at its word)"
    private static void debts() {
        DebtMiller x = stands(TWO + "debt 0 1 0 1;".repeat(11) + "debt 1 0 9 30;", 12);
        Check.due("told", x.told(1), 12);
        Check.due("the 12th", x.debt(11, 3), 30);
        Check.missing("debt 12", () -> x.debt(12, 0));
        String dozen = TWO + "debt 0 1 0 1;".repeat(12);
        valleyFault(dozen + "debt 0 1 0 1;", -7, 176);
        valleyFault(dozen + " debt 2 2 x", -7, 177);
        valleyFault(dozen + "debts", -9, 176);
        Check.due("other clauses behind twelve", stands(dozen + "house 5 5;", 12).told(0), 3);
    }

    // "HOUSE A owes HOUSE B, both told ahead, not one"; "2 .. (B of debt as A ..)"
    private static void debtors() {
        DebtMiller x = stands("house 1 0;".repeat(6) + "debt 0 5 0 1;debt 5 0 0 1;", 2);
        Check.due("A 0", x.debt(0, 0), 0);
        Check.due("B 5", x.debt(0, 1), 5);
        Check.due("A 5", x.debt(1, 0), 5);
        Check.due("B 0", x.debt(1, 1), 0);
        valleyFault("debt 0 1 0 1;" + TWO, -8, 5);
        valleyFault("house 1 0;debt 1 0 0 1;house 1 0;", -8, 15);
        valleyFault("house 1 0;debt 0 1 0 1;house 1 0;", -8, 17);
        valleyFault(TWO + "debt 2 0 0 1;", -8, 25);
        valleyFault(TWO + "debt 0 2 0 1;", -8, 27);
        valleyFault(TWO + "debt 0  0 0 1;", -8, 28);
        valleyFault(TWO + "debt 1 01 0 1;", -8, 27);
        valleyFault(TWO + "debt 2 2 0 1;", -8, 25);
        valleyFault(TWO + "debt 1 1 10 0;", -8, 27);
        valleyFault(TWO + "debt;", -9, 24);
        valleyFault(TWO + "debt 0;", -9, 26);
        valleyFault(TWO + "debt 0 1;", -9, 28);
        valleyFault(TWO + "debt 0 1 0;", -9, 30);
        valleyFault(TWO + "debt 0 1 0 1 1;", -9, 33);
    }

    // "KIND K, 0 to 9"
    private static void kinds() {
        Check.due("kind 0", stands(TWO + "debt 0 1 0 1;", 1).debt(0, 2), 0);
        Check.due("kind 9", stands(TWO + "debt 0 1 9 1;", 1).debt(0, 2), 9);
        valleyFault(TWO + "debt 0 1 10 1;", -8, 29);
    }

    // "WEIGHT W, 1 to 30"
    private static void weights() {
        Check.due("weight 1", stands(TWO + "debt 0 1 0 1;", 1).debt(0, 3), 1);
        Check.due("weight 30", stands(TWO + "debt 0 1 0 30;", 1).debt(0, 3), 30);
        valleyFault(TWO + "debt 0 1 0 0;", -8, 31);
        valleyFault(TWO + "debt 0 1 0 31;", -8, 31);
    }

    // "there are N, 0 to 99, in the crock of HOUSE A, told ahead; 0 without; of one A the last counts"
    private static void flour() {
        DebtMiller x = stands(TWO + "flour 0 99;flour 1 5;flour 1 0;", 0);
        Check.due("flour 99", x.house(0, 2), 99);
        Check.due("of one the last, 0", x.house(1, 2), 0);
        Check.due("of one the last, more", stands(TWO + "flour 1 0;flour 0 3;flour 1 8;", 0).house(1, 2), 8);
        Check.due("valley anew", Check.valley(x, TWO), 0);
        Check.due("0 without", x.house(0, 2), 0);
        Check.due("0 without, a house behind", stands("house 1 0;flour 0 9;house 1 0;", 0).house(1, 2), 0);
        valleyFault(TWO + "flour 0 100;", -8, 28);
        valleyFault(TWO + "flour 2 1;", -8, 26);
        valleyFault("flour 0 1;" + TWO, -8, 6);
        valleyFault("house 1 0;flour 1 1;house 1 0;", -8, 16);
        valleyFault(TWO + "flour 0;", -9, 27);
    }

    // ""water" N (0 to 99; 20 without; the last counts)"
    private static void water() {
        Check.due("water 0", stands("water 0;", 0).told(3), 0);
        DebtMiller x = stands("water 99;", 0);
        Check.due("water 99", x.told(3), 99);
        Check.due("the last counts", stands("water 7;house 1 0;water 5;", 0).told(3), 5);
        Check.due("valley anew", Check.valley(x, "house 1 0;"), 0);
        Check.due("20 without", x.told(3), 20);
        valleyFault("water 100;", -8, 6);
        valleyFault("water;", -9, 5);
    }

    // "A LAW is a text of up to 150 bytes"
    private static void lawBytes() {
        Check.due("the last of 150 bytes counts", flourBy(" ".repeat(148) + "17"), 17);
        Check.due("as many terms as a law holds", flourBy("1+".repeat(74) + "9 "), 83);
        Check.due("as many factors", flourBy("1*".repeat(74) + "9 "), 9);
        DebtMiller x = new DebtMiller();
        Check.feed(x, "7" + " ".repeat(150));
        Check.refused("law(151) of 160", () -> x.law(151));
        Check.due("tape stays", x.count(1), 160);
        Check.due("law(150) of 160", x.law(150), 1);
        lawFault(" ".repeat(149) + "(", -9, 150);
    }

    // "E, at the end nothing more"
    private static void lawEnd() {
        Check.due("blanks at the end", flourBy("7   "), 7);
        lawFault("7 7", -9, 2);
        lawFault("7 weight", -9, 2);
        lawFault("7;", -9, 1);
        lawFault("7)", -9, 1);
        lawFault("7]", -9, 1);
        lawFault("7,7", -9, 1);
        lawFault("7(7)", -9, 1);
        lawFault("7 1000", -9, 2);
        lawFault("", -9, 0);
    }

    // "without: weight * 2 - kind + age / 3"
    private static void usualLaw() {
        DebtMiller x = new DebtMiller();
        Check.due("age 2", x.would(1, 0, 2, 0, 1, 0, 0, 0, 0), 2);
        Check.due("age 3", x.would(1, 0, 3, 0, 1, 0, 0, 0, 0), 3);
        Check.due("0 at least", x.would(1, 9, 0, 0, 1, 0, 0, 0, 0), 0);
        Check.due("just 0", x.would(3, 6, 2, 0, 1, 0, 0, 0, 0), 0);
        Check.due("just 99", x.would(50, 1, 0, 9, 9, 999, 11, 99, 11), 99);
        Check.due("99 at most", x.would(50, 0, 0, 9, 9, 999, 11, 99, 11), 99);
        Check.due("cut once only", x.would(10, 1, 5, 0, 1, 0, 0, 0, 0), 20);
    }

    // "FLOUR of a DEBT: what comes out, 0 at least, 99 at most"
    private static void flourBounds() {
        Check.due("just below 0", flourBy("0-1"), 0);
        Check.due("0", flourBy("0"), 0);
        Check.due("1", flourBy("1"), 1);
        Check.due("98", flourBy("98"), 98);
        Check.due("99", flourBy("99"), 99);
        Check.due("100", flourBy("100"), 99);
        DebtMiller x = Check.with(SMALL);
        Check.law(x, "debt*100-1");
        Check.due("of a debt, below", x.debt(0, 5), 0);
        Check.due("of a debt, just so", x.debt(1, 5), 99);
        Check.due("of a debt, above", x.debt(2, 5), 99);
    }

    // "U: N (0 to 999)"
    private static void lawNumbers() {
        Check.due("0", flourBy("5+0"), 5);
        Check.due("999", flourBy("999-900"), 99);
        Check.due("999 in leading zeros", flourBy("000999-950"), 49);
        lawFault("5+1000", -8, 2);
        lawFault("1000 x", -8, 0);
        lawFault("99999999999999", -8, 0);
    }

    // ""weight" (W by now) .. "age" (DAYS by now) .. "owed" (.. by now) .. "others" (.. that are there), "hunger" (of A by now)"
    private static void termsByNow() {
        DebtMiller x = Check.with(SMALL);
        Check.law(x, "weight");
        Check.work(x, "swell 0 7;");
        Check.due("weight by now", x.debt(0, 5), 17);
        Check.law(x, "age");
        Check.work(x, "day;day;");
        Check.due("age by now", x.debt(0, 5), 2);
        Check.law(x, "owed");
        Check.due("owed is what B owes A", x.debt(0, 5), 7);
        Check.due("owed of both that are there", x.debt(1, 5), 18);
        Check.work(x, "forgive 0;");
        Check.due("owed by now", x.debt(1, 5), 1);
        Check.work(x, "forgive 2;");
        Check.due("owed nothing", x.debt(1, 5), 0);
        DebtMiller y = Check.with(SMALL);
        Check.law(y, "others");
        Check.due("others of A", y.debt(0, 5), 1);
        Check.due("no others", y.debt(1, 5), 0);
        Check.work(y, "forgive 2;");
        Check.due("others that are there", y.debt(0, 5), 0);
        Check.law(y, "hunger");
        Check.work(y, "day;");
        Check.due("of A, who eats", y.debt(0, 5), 0);
        Check.due("of A, who hungers", y.debt(1, 5), 5);
        Check.law(y, "pride*10+mouths");
        Check.due("pride and mouths of A", y.debt(0, 5), 23);
        Check.due("pride and mouths of A", y.debt(1, 5), 75);
    }

    private static void termBounds() {
        DebtMiller x = Check.with("house 9 9;house 1 0;" + "debt 0 1 9 30;".repeat(12) + "water 99;");
        Check.law(x, "others*5+debt");
        Check.due("others 11, debt 0", x.debt(0, 5), 55);
        Check.due("others 11, debt 11", x.debt(11, 5), 66);
        Check.law(x, "weight");
        Check.work(x, "swell 0 30;again 60[day;];");
        Check.due("weight 60", x.debt(0, 5), 60);
        Check.law(x, "hunger");
        Check.due("hunger 99", x.debt(0, 5), 99);
        Check.law(x, "age");
        Check.due("age 60", x.debt(0, 5), 60);
        Check.law(x, "owed/10");
        Check.due("nothing is owed to A by B", x.debt(0, 5), 0);
    }

    private static void leastMost() {
        Check.due("least of alike", flourBy("least[5,5]"), 5);
        Check.due("most of alike", flourBy("most[5,5]"), 5);
        Check.due("least, first", flourBy("least[4,5]"), 4);
        Check.due("least, second", flourBy("least[5,4]"), 4);
        Check.due("most, first", flourBy("most[5,4]"), 5);
        Check.due("most, second", flourBy("most[4,5]"), 5);
        Check.due("least below 0", flourBy("9+least[0-5,2]"), 4);
        Check.due("most below 0", flourBy("9+most[0-5,0-2]"), 7);
        lawFault("least[1]", -9, 7);
        lawFault("least[,1]", -9, 6);
        lawFault("least[1,]", -9, 8);
        lawFault("least[1,2,3]", -9, 9);
        lawFault("least 1,2", -9, 6);
        lawFault("most(1,2)", -9, 4);
        lawFault("[1,2]", -9, 0);
    }

    // "Values are whole numbers of 32 bits that wrap": 512*512*512*16 is just the least of them.
    private static void wraps() {
        String least = "512*512*512*16";
        Check.due("times wraps", flourBy(least), 0);
        Check.due("less wraps", flourBy(least + "-1"), 99);
        Check.due("more wraps", flourBy("(" + least + "-1)+1"), 0);
        Check.due("just below", flourBy("(" + least + "-1)/512/512/512"), 15);
        Check.due("times to 0", flourBy("7+" + least + "*2"), 7);
        Check.due("the least by one below 0", flourBy(least + "/(0-1)"), 0);
        Check.due("the least by one below 0, less", flourBy(least + "/(0-1)-1"), 99);
        Check.due("what the least leaves", flourBy("5+" + least + "%(0-1)"), 5);
        Check.due("least of wrapped ones", flourBy("least[5," + least + "]+20"), 0);
    }

    // "/ cuts, % leaves (with the sign of what is divided), by 0 both are 0"
    private static void divisions() {
        Check.due("7/2", flourBy("7/2"), 3);
        Check.due("-7/2", flourBy("50+(0-7)/2"), 47);
        Check.due("7/-2", flourBy("50+7/(0-2)"), 47);
        Check.due("-7/-2", flourBy("50+(0-7)/(0-2)"), 53);
        Check.due("7%2", flourBy("50+7%4"), 53);
        Check.due("-7%4", flourBy("50+(0-7)%4"), 47);
        Check.due("7%-4", flourBy("50+7%(0-4)"), 53);
        Check.due("-7%-4", flourBy("50+(0-7)%(0-4)"), 47);
        Check.due("7/0", flourBy("50+7/0"), 50);
        Check.due("7%0", flourBy("50+7%0"), 50);
        Check.due("-7/0", flourBy("50+(0-7)/0"), 50);
        Check.due("-7%0", flourBy("50+(0-7)%0"), 50);
        Check.due("0/0", flourBy("50+0/0"), 50);
        Check.due("0%0", flourBy("50+0%0"), 50);
        Check.due("by what becomes 0", flourBy("50+7/(kind-3)"), 50);
        Check.due("0/7", flourBy("50+0/7"), 50);
        Check.due("6/7", flourBy("50+6/7"), 50);
        Check.due("7/7", flourBy("50+7/7"), 51);
        Check.due("7%7", flourBy("50+7%7"), 50);
    }

    // "a 7th of ( least most again that is open at one time"
    private static void brackets() {
        Check.due("six of (", flourBy("((((((7))))))"), 7);
        Check.due("six of least", flourBy("least[".repeat(6) + "7" + ",9]".repeat(6)), 7);
        Check.due("six of most", flourBy("most[".repeat(6) + "7" + ",3]".repeat(6)), 7);
        Check.due("seven in a row", flourBy("(1)+(1)+(1)+(1)+(1)+(1)+(1)"), 7);
        Check.due("six, closed, and six", flourBy("((((((7))))))+((((((8))))))"), 15);
        Check.due("six in the second", flourBy("most[1,(((((7)))))]"), 7);
        lawFault("(((((((7)))))))", -7, 6);
        lawFault("(((((( (7)))))))", -7, 7);
        lawFault("((((((least[7,8]))))))", -7, 6);
        lawFault("((((((most[7,8]))))))", -7, 6);
        lawFault("((((((most", -7, 6);
        lawFault("((((((mostly", -9, 6);
        lawFault("((((((7+(1)))))))", -7, 8);
        lawFault("most[1,((((((7))))))]", -7, 12);
        lawFault("((((((7", -9, 7);
        lawFault("(((((((", -7, 6);
    }

    // "WORK is a text of up to 150 bytes"
    private static void workBytes() {
        DebtMiller x = Check.with(SMALL);
        Check.due("the last of 150 bytes counts", Check.work(x, " ".repeat(146) + "day;"), 1);
        Check.due("37 steps", Check.work(x, "day;".repeat(37) + "  "), 37);
        Check.feed(x, "day;" + " ".repeat(150));
        Check.refused("work(151) of 160", () -> x.work(151));
        Check.due("tape stays", x.count(1), 160);
        Check.due("work(150) of 160", x.work(150), 1);
        workFault(" ".repeat(147) + "day", -9, 150);
        workFault("day;".repeat(37) + "d ", -9, 148);
    }

    // "swell D N (N 1 to 30), give A B N (N 1 to 99), rain N (N 1 to 40) .. again N (N 0 to 60)"
    private static void stepNumbers() {
        DebtMiller x = Check.with(SMALL);
        Check.due("swell 1, 30", Check.work(x, "swell 2 1;swell 2 30;"), 2);
        Check.due("weight", x.debt(2, 3), 32);
        Check.due("rain 1, 40", Check.work(x, "rain 1;rain 40;"), 2);
        Check.due("water", x.told(3), 71);
        Check.due("give 1", Check.work(x, "give 0 1 1;"), 1);
        Check.due("give 99 is a step", Check.work(x, "give 0 1 99;"), 0);
        Check.due("but refused", x.told(10), 1);
        Check.due("again 0", Check.work(x, "again 0[day;];"), 0);
        Check.due("again 60", Check.work(x, "again 60[day;];"), 60);
        workFault("swell 0 0;", -8, 8);
        workFault("swell 0 31;", -8, 8);
        workFault("give 0 1 0;", -8, 9);
        workFault("give 0 1 100;", -8, 9);
        workFault("rain 0;", -8, 5);
        workFault("rain 41;", -8, 5);
        workFault("again 61[day;];", -8, 6);
        workFault("swell 0;", -9, 7);
        workFault("give 0 1;", -9, 8);
        workFault("rain;", -9, 4);
        workFault("again[day;];", -9, 5);
        workFault("day 1;", -9, 4);
    }

    private static void stepHouses() {
        DebtMiller x = Check.with(SMALL);
        Check.due("the last debt", Check.work(x, "swell 2 1;grind 2;forgive 1;"), 3);
        Check.due("the last house", Check.work(x, "give 0 1 1;give 1 0 1;"), 2);
        Check.due("A is B: refused, no fault", Check.work(x, "give 1 1 1;"), 0);
        workFault("grind 3;", -8, 6);
        workFault("forgive 3;", -8, 8);
        workFault("swell 3 1;", -8, 6);
        workFault("give 2 0 1;", -8, 5);
        workFault("give 0 2 1;", -8, 7);
        workFault("grind 12;", -8, 6);
        DebtMiller none = new DebtMiller();
        Check.due("no debts", Check.work(none, "grind 0;"), -8);
        Check.due("no debts", Check.work(none, "forgive 0;"), -8);
        Check.due("no debts", Check.work(none, "swell 0 1;"), -8);
        Check.due("no houses", Check.work(none, "give 0 0 1;"), -8);
    }

    // ""again" N "[" { STEP ";" } "]""; "a 7th of .. again that is open at one time"
    private static void agains() {
        DebtMiller x = Check.with(SMALL);
        Check.due("empty", Check.work(x, "again 3[];"), 0);
        Check.due("six open", Check.work(x, "again 1[".repeat(6) + "day;" + "];".repeat(6)), 1);
        Check.due("seven in a row", Check.work(x, "again 1[day;];".repeat(7)), 7);
        Check.due("six, closed, and again", Check.work(x, "again 1[".repeat(6) + "];".repeat(6) + "again 1[day;];"), 1);
        workFault("again 1[".repeat(6) + "again 1[];" + "];".repeat(6), -7, 48);
        workFault("again 1[".repeat(6) + "  again", -7, 50);
        workFault("again 1[".repeat(6) + "again 99", -7, 48);
        workFault("again 1[".repeat(6) + "agai 1[", -9, 48);
        workFault("again 0[".repeat(7), -7, 48);
        workFault("again 1[day];", -9, 11);
        workFault("again 1[day;]", -9, 13);
        workFault("again 1[day;", -9, 12);
        workFault("again 1(day;);", -9, 7);
        workFault("again 1[;];", -9, 8);
        workFault("day;];", -9, 4);
        workFault("again 1[day;]];", -9, 13);
    }

    private static void emptyTexts() {
        DebtMiller x = Check.with(SMALL);
        Check.feed(x, "day;");
        Check.due("work(0)", x.work(0), 0);
        Check.due("is a work", x.count(2), 1);
        Check.due("none was refused", x.told(10), 0);
        Check.due("tape is empty", x.count(1), 0);
        Check.feed(x, "0 1;");
        Check.due("book(0)", x.book(0), 0);
        Check.due("no lines", x.told(9), 0);
        Check.feed(x, "7");
        Check.due("law(0)", x.law(0), -9);
        Check.due("at the length", x.fault(), 0);
        Check.feed(x, SMALL);
        Check.due("valley(0)", x.valley(0), 0);
        Check.due("no houses", x.told(0), 0);
        Check.due("no fault", x.fault(), -1);
    }

    // "A BOOK is a text of up to 60 bytes"
    private static void bookBytes() {
        DebtMiller x = Check.with(SMALL);
        Check.due("the last of 60 bytes counts", Check.book(x, " ".repeat(56) + "0 1;"), 1);
        Check.feed(x, "0 1;" + " ".repeat(57));
        Check.refused("book(61) of 80", () -> x.book(61));
        Check.due("tape stays", x.count(1), 80);
        Check.due("book(60) of 80", x.book(60), 1);
        bookFault(" ".repeat(57) + "0 1", -9, 60);
    }

    // "no A twice"; "2 .. (.. an A twice in a BOOK)"
    private static void bookHouses() {
        DebtMiller x = Check.with("house 1 0;".repeat(6));
        Check.due("six lines", Check.book(x, "5 0;4 0;3 0;2 0;1 0;0 0;"), 6);
        Check.due("lines", x.told(9), 6);
        Check.due("a seventh is one twice", Check.book(x, "5 0;4 0;3 0;2 0;1 0;0 0; 3 0;"), -8);
        Check.due("at its number", x.fault(), 25);
        bookFault("0 1;0 1;", -8, 4);
        bookFault("0 1;1 1; 00 1;", -8, 9);
        bookFault("0 1;0 1000;", -8, 4);
        bookFault("0 1;0", -8, 4);
        bookFault("2 1;", -8, 0);
        bookFault("0 1;2 1;", -8, 4);
        bookFault("32 1;", -8, 0);
        Check.due("the last house", Check.book(Check.with(SMALL), "1 1;"), 1);
        DebtMiller none = new DebtMiller();
        Check.due("no houses, no lines", Check.book(none, "0 1;"), -8);
        Check.due("no houses, empty book", Check.book(none, " "), 0);
    }

    // "V more (0 to 999)"
    private static void bookNumbers() {
        DebtMiller x = Check.with(SMALL);
        Check.due("V 0", Check.book(x, "1 0;"), 1);
        Check.due("V 0: without the debt", x.ground(0), 4);
        Check.due("V 999", Check.book(x, "1 999;"), 1);
        Check.due("V 999: no sets", x.ground(0), 0);
        bookFault("1 1000;", -8, 2);
        bookFault("1;", -9, 1);
        bookFault("1 1 1;", -9, 4);
        bookFault("1 1,", -9, 3);
        bookFault(";", -9, 0);
        bookFault("a 1;", -9, 0);
    }

    // "Numbers: digits, as many as stand there"
    private static void digits() {
        Check.due("leading zeros", stands("house " + "0".repeat(60) + "7 00;", 0).house(0, 0), 7);
        Check.due("many zeros", stands("water " + "0".repeat(200) + ";", 0).told(3), 0);
        valleyFault("house 4294967297 0;", -8, 6);
        valleyFault("house 18446744073709551617 0;", -8, 6);
        valleyFault("house " + "1".repeat(200) + " 0;", -8, 6);
        valleyFault("house -1 0;", -9, 6);
        valleyFault("house +1 0;", -9, 6);
        valleyFault("house 1.0 0;", -9, 7);
        valleyFault("house 12;", -8, 6);
        Check.due("digits right behind a word", stands("house1 2;", 0).house(0, 0), 1);
    }

    // "WORDS: small letters, as many as stand there"
    private static void words() {
        valleyFault("houses 1 1;", -9, 0);
        valleyFault("hous 1 1;", -9, 0);
        valleyFault("HOUSE 1 1;", -9, 0);
        valleyFault("housE 1 1;", -9, 0);
        valleyFault("housewater 1;", -9, 0);
        valleyFault("h 1;", -9, 0);
        valleyFault("house_1 1;", -9, 5);
        lawFault("weightkind", -9, 0);
        lawFault("agee", -9, 0);
        lawFault("ag", -9, 0);
        lawFault("leastt[1,2]", -9, 0);
        lawFault("1+mouth", -9, 2);
        workFault("dayday;", -9, 0);
        workFault("da;", -9, 0);
        workFault("againn 1[day;];", -9, 0);
        workFault("house 1 1;", -9, 0);
        workFault("rain 1;grin 0;", -9, 7);
        valleyFault("`", -9, 0);
        valleyFault("{", -9, 0);
        valleyFault("water 1/;", -9, 7);
        valleyFault("water 1:;", -9, 7);
    }

    // "blanks (32) may stand ahead of all these, and at the end"
    private static void blanks() {
        DebtMiller x = stands("  house  3  4  ;  house 1 1 ; debt  0  1  2  3  ;  flour  0  5 ; water  6 ;   ", 1);
        Check.due("mouths", x.house(0, 0), 3);
        Check.due("flour", x.house(0, 2), 5);
        Check.due("law", Check.law(x, "  least  [  7  ,  ( 8 )  ]  *  2  -  1  %  3  "), 1);
        Check.due("by it", x.would(1, 0, 0, 0, 1, 0, 0, 0, 0), 13);
        Check.due("work", Check.work(x, "  again  2  [  day  ;  rain  1  ;  ]  ;  "), 4);
        Check.due("book", Check.book(x, "  0  1  ;  1  2  ;  "), 2);
        Check.due("none at all", Check.work(x, "again2[day;rain1;];"), 4);
        valleyFault("\thouse 1 1;", -9, 0);
        valleyFault("house 1 1;\n", -9, 10);
        valleyFault("house\r1 1;", -9, 5);
        valleyFault("house 1 1;\0", -9, 10);
        valleyFault("house 1 1\u00a0;", -9, 9);
        valleyFault("hou se 1 1;", -9, 0);
        lawFault("1 0", -9, 2);
        lawFault("wei ght", -9, 0);
    }

    // "FAULTS, the first from the left, at its first byte"
    private static void firstFault() {
        valleyFault("house 0 x;", -8, 6);
        valleyFault("house x 10;", -9, 6);
        valleyFault("house 10 10;", -8, 6);
        valleyFault("house 1 0;house 1 77;housex", -8, 18);
        workFault("day;rain 0;day", -8, 9);
        workFault("again 61[again 61[", -8, 6);
        workFault("again 1[rain 41;", -8, 13);
        bookFault("0 1000;0 1;", -8, 2);
        lawFault("1+1000+", -8, 2);
        lawFault("(1000", -8, 1);
    }

    // "1 what can't stand there (at the length, if the text ends too early)"
    private static void textEnds() {
        String[] valleys = {"h", "house", "house 1", "house 1 1", "house 1 1;debt", "house 1 1;flour", "house 1 1;flour 0",
            "water", "water 1", "water 1 ", "water   "};
        for (String text : valleys) {
            valleyFault(text, -9, text.equals("h") ? 0 : text.length());
        }
        String[] laws = {"", " ", "1+", "1- ", "1*", "1/", "1%", "(", "(1", "least", "least[", "least[1", "least[1,", "least[1,2"};
        for (String text : laws) {
            lawFault(text, -9, text.length());
        }
        String[] works = {"day", "day ", "grind", "grind 0", "forgive", "swell", "swell 0", "swell 0 1", "give", "give 0",
            "give 0 1", "give 0 1 1", "rain", "rain 1", "again", "again 1", "again 1[", "again 1[day;", "again 1[]", "again 1 [ ] "};
        for (String text : works) {
            workFault(text, -9, text.length());
        }
        String[] books = {"0", "0 ", "0 1", "0 1 ", "0 1;1"};
        for (String text : books) {
            bookFault(text, -9, text.length());
        }
        DebtMiller x = new DebtMiller();
        Check.feed(x, "house 1 1;house 2 2;");
        Check.due("n cuts the text", x.valley(15), -9);
        Check.due("at n, not at the tape's end", x.fault(), 15);
        Check.feed(x, "house 1 1;house 2 2;");
        Check.due("n cuts a word", x.valley(14), -9);
        Check.due("at its first byte", x.fault(), 10);
        Check.feed(x, "water 12;           ");
        Check.due("n cuts a number", x.valley(7), -9);
        Check.due("at n", x.fault(), 7);
    }

    // "or the FAULT less 10 (all stays)", "(none is)"
    private static void faultKeepsAll() {
        String[] calls = {"valley", "law", "work", "book"};
        String[] texts = {"house 1 1;water 5;x", "5+x", "grind 0;forgive 1;day;x", "1 0;x"};
        for (int i = 0; i < 4; i++) {
            DebtMiller x = Check.with(SMALL);
            Check.law(x, "weight+age");
            Check.book(x, "0 10;");
            Check.work(x, "day;swell 0 1;forgive 2;forgive 2;");
            x.image();
            String before = Check.seen(x);
            int n = Check.feed(x, texts[i]);
            Check.due(calls[i], i == 0 ? x.valley(n) : i == 1 ? x.law(n) : i == 2 ? x.work(n) : x.book(n), -9);
            Check.due("place", x.fault(), texts[i].length() - 1);
            Check.same("what a fault of " + calls[i] + " leaves", Check.seen(x), before);
            Check.due("the image stays", x.restore(), 0);
            Check.due("the work stays", x.undo(), 0);
            Check.due("and is undone", x.told(4), 7);
        }
    }
}
