/** The promises that change something or refuse: tape, WORKS, undo, IMAGES, wrong arguments, counts of refusals. */
public final class CallEdgeTest {
    private static final String TWO = "house 1 0;house 1 0;";
    private static final String SMALL = "house 3 2;house 5 7;debt 0 1 2 10;debt 1 0 4 7;debt 0 1 9 1;flour 0 50;water 30;";

    public static void main(String[] args) {
        newObject(); feedFull(); feedBytes(); firstBytes(); wrongBytes(); valleyAnew(); lawStays(); answers(); sixteen(); sixteenAndImages();
        faultPlaces(); undoAll(); undoNone(); refusedSteps(); whats(); ranges(); missingFirst(); images(); imageKeeps(); imageWorks(); restoreOrder();
        statusCounts(); refusedChangesNothing(); extremes(); manyCalls();
        Check.end();
    }

    // "A VALLEY without CLAUSES."
    private static void newObject() {
        DebtMiller x = new DebtMiller();
        DebtMiller y = Check.with(SMALL);
        Check.work(y, "day;");
        y.image();
        Check.feed(y, "");
        y.valley(0);
        Check.same("a new one, and one of an empty text", Check.seen(x), Check.seen(y));
        Check.due("fault", x.fault(), -1);
        Check.due("status", x.status(0) + x.status(1), 0);
        Check.due("undo", x.undo(), -1);
        Check.due("restore", x.restore(), -1);
        Check.due("tape", x.count(1), 0);
        Check.due("image", x.image(), 1);
        Check.due("book", x.book(0), 0);
        Check.due("work", x.work(0), 0);
        Check.due("valley", x.valley(0), 0);
    }

    // feed: "NONE, doing nothing, if there would be more than 600"
    private static void feedFull() {
        DebtMiller x = new DebtMiller();
        int blank = 0x20202020;
        for (int i = 1; i <= 29; i++) {
            Check.due("feed", x.feed(blank, blank, blank, blank, blank), 20 * i);
        }
        Check.due("580", x.count(1), 580);
        Check.due("just 600", x.feed(blank, blank, 0x77617465, 0x72203132, 0x3B202020), 600);
        Check.due("620", x.feed(0x68686868, 0, 0, 0, 0), -1);
        Check.due("once more", x.feed(0, 0, 0, 0, 0), -1);
        Check.due("still 600", x.count(1), 600);
        Check.due("nothing was done", x.valley(600), 0);
        Check.due("the 30th counts", x.told(3), 12);
        Check.due("empty again", x.feed(blank, blank, blank, blank, blank), 20);
    }

    // feed: "of each number the highest first"
    private static void feedBytes() {
        DebtMiller x = new DebtMiller();
        Check.due("feed", x.feed(0x77617465, 0x72203931, 0x3B776174, 0x65722038, 0x373B2020), 20);
        Check.due("in order", x.valley(20), 0);
        Check.due("the last counts", x.told(3), 87);
        x.feed(0x77617465, 0x72203780, 0, 0, 0);
        Check.due("a byte of 128", x.valley(9), -9);
        Check.due("at it", x.fault(), 7);
        x.feed(0x776174E5, 0x72203731, 0x3B000000, 0, 0);
        Check.due("a byte above 127 is no letter", x.valley(9), -9);
        Check.due("at the word", x.fault(), 0);
        x.feed(0x77617465, 0x7220B731, 0x3B000000, 0, 0);
        Check.due("nor a digit", x.valley(9), -9);
        Check.due("at it", x.fault(), 6);
        x.feed(-1, -1, -1, -1, -1);
        Check.due("nor a blank", x.valley(1), -9);
        x.feed(0xA0A0A0A0, 0, 0, 0, 0);
        Check.due("nor a blank", x.valley(1), -9);
    }

    // "The first n bytes of the TAPE (empty then)"
    private static void firstBytes() {
        DebtMiller x = new DebtMiller();
        Check.feed(x, "water 5;water 6;water 7;");
        Check.due("of 40", x.count(1), 40);
        Check.due("the first 16", x.valley(16), 0);
        Check.due("the last of them", x.told(3), 6);
        Check.due("the others are gone", x.count(1), 0);
        Check.refused("nothing is left", () -> x.valley(1));
        Check.feed(x, "5+5+5+5");
        Check.due("law", x.law(3), 1);
        Check.due("by the first 3", x.would(1, 0, 0, 0, 1, 0, 0, 0, 0), 10);
        Check.due("empty", x.count(1), 0);
        Check.feed(x, "day;day;day;");
        Check.due("work", x.work(8), 2);
        Check.due("empty", x.count(1), 0);
        Check.feed(x, "day;day;day;");
        Check.due("a fault", x.work(9), -9);
        Check.due("empty then, too", x.count(1), 0);
        Check.feed(x, "house 1 1;x");
        Check.due("a fault", x.valley(11), -9);
        Check.due("empty then, too", x.count(1), 0);
        Check.feed(x, "1+");
        Check.due("a fault", x.law(2), -9);
        Check.due("empty then, too", x.count(1), 0);
        Check.feed(x, "x");
        Check.due("a fault", x.book(1), -9);
        Check.due("empty then, too", x.count(1), 0);
    }

    // "IllegalArgumentException: n is not 0 to the TAPE's bytes (it stays)", "(n to 150)", "(n to 60)"
    private static void wrongBytes() {
        DebtMiller x = Check.with(SMALL);
        Check.law(x, "1+");
        Check.feed(x, " ".repeat(600));
        int[] wrong = {-1, 601, Integer.MIN_VALUE, Integer.MAX_VALUE};
        for (int n : wrong) {
            Check.refused("valley", () -> x.valley(n));
            Check.refused("law", () -> x.law(n));
            Check.refused("work", () -> x.work(n));
            Check.refused("book", () -> x.book(n));
        }
        Check.refused("law of 151", () -> x.law(151));
        Check.refused("work of 151", () -> x.work(151));
        Check.refused("book of 61", () -> x.book(61));
        Check.due("it stays", x.count(1), 600);
        Check.due("the fault stays", x.fault(), 2);
        Check.due("counted", x.status(1), 19);
        Check.due("book of 60", x.book(60), 0);
        Check.feed(x, " ".repeat(40));
        Check.refused("valley of 41", () -> x.valley(41));
        Check.refused("law of 41", () -> x.law(41));
        Check.refused("work of 41", () -> x.work(41));
        Check.refused("book of 41", () -> x.book(41));
        Check.due("work of 40", x.work(40), 0);
        Check.refused("of an empty tape", () -> x.book(1));
        Check.due("of an empty tape", x.book(0), 0);
    }

    // "are the VALLEY (DAY 0; no LAW, BOOK, IMAGES, nothing to undo): how many DEBTS"
    private static void valleyAnew() {
        DebtMiller x = Check.with(SMALL);
        Check.law(x, "7");
        Check.book(x, "0 1;1 2;");
        Check.work(x, "day;grind 0;grind 0;forgive 1;");
        x.image();
        Check.due("how many debts", Check.valley(x, SMALL), 3);
        Check.same("as new", Check.seen(x), Check.seen(Check.with(SMALL)));
        Check.due("no images", x.restore(), -1);
        Check.due("nothing to undo", x.undo(), -1);
        Check.due("no law", x.would(5, 0, 0, 0, 1, 0, 0, 0, 0), 10);
        Check.due("no book", x.told(9), 0);
        Check.due("room for three images", x.image() + x.image() + x.image(), 6);
        Check.due("twelve", Check.valley(x, TWO + "debt 0 1 0 1;".repeat(12)), 12);
        Check.due("none", Check.valley(x, "house 1 0;"), 0);
    }

    // "Likewise the LAW": DAY, BOOK, IMAGES, what can be undone stay
    private static void lawStays() {
        DebtMiller x = Check.with(SMALL);
        Check.book(x, "0 1;");
        Check.work(x, "day;forgive 0;forgive 0;");
        x.image();
        String before = Check.seen(x).replaceAll(".* / ", "");
        Check.due("law", Check.law(x, "7"), 1);
        Check.due("book", Check.book(x, "1 7;0 7;"), 2);
        Check.same("refused, images, tape, works", Check.seen(x).replaceAll(".* / ", ""), before);
        Check.due("day", x.told(2), 1);
        Check.due("flour", x.debt(1, 5), 7);
        Check.due("of the new book", x.ground(1), 6);
        Check.due("restore", x.restore(), 0);
        Check.due("law stays", x.debt(1, 5), 7);
        Check.due("undo", x.undo(), 0);
        Check.due("book stays", x.told(9), 2);
    }

    // work: "how many STEPS were done (agains not counted, nor REFUSED ones)"
    private static void answers() {
        DebtMiller x = Check.with(SMALL);
        Check.due("none", Check.work(x, "again 9[];again 3[again 3[];];"), 0);
        Check.due("none refused", x.told(10), 0);
        Check.due("two of five", Check.work(x, "grind 0;grind 0;give 0 0 1;give 1 1 1;day;"), 2);
        Check.due("three refused", x.told(10), 3);
        Check.due("in loops", Check.work(x, "again 4[day;forgive 0;again 2[rain 1;];];"), 12);
        Check.due("four refused", x.told(10), 4);
        Check.due("is counted anew", Check.work(x, "day;"), 1);
        Check.due("none refused", x.told(10), 0);
    }

    // work: "-20 ahead of that (nothing is read, there is no FAULT, the TAPE is empty then): 16 WORKS are there"
    private static void sixteen() {
        DebtMiller x = Check.with(SMALL);
        for (int i = 1; i <= 16; i++) {
            Check.due("work", Check.work(x, i % 2 == 0 ? "day;" : "grind 0;"), i == 1 || i % 2 == 0 ? 1 : 0);
            Check.due("works", x.count(2), i);
        }
        Check.law(x, "1+");
        Check.due("a fault of law", x.fault(), 2);
        String before = Check.valleySeen(x);
        Check.due("the 17th", Check.work(x, "day;"), -20);
        Check.due("there is no fault", x.fault(), -1);
        Check.due("tape is empty", x.count(1), 0);
        Check.due("of a faulty text", Check.work(x, "x"), -20);
        Check.due("there is no fault", x.fault(), -1);
        Check.due("of an empty text", x.work(0), -20);
        Check.same("nothing is done", Check.valleySeen(x), before);
        Check.due("16 still", x.count(2), 16);
        Check.feed(x, "day;");
        Check.refused("a wrong n", () -> x.work(21));
        Check.due("tape stays", x.count(1), 20);
        Check.due("undo", x.undo(), 15);
        Check.due("room for one", x.work(4), 1);
        Check.due("and no more", Check.work(x, "day;"), -20);
    }

    private static void sixteenAndImages() {
        DebtMiller x = Check.with(SMALL);
        Check.work(x, "day;");
        x.image();
        for (int i = 2; i <= 16; i++) {
            Check.work(x, "day;");
        }
        Check.due("full", Check.work(x, "day;"), -20);
        x.image();
        Check.due("full, with an image of it", x.restore(), 1);
        Check.due("still full", Check.work(x, "day;"), -20);
        Check.due("day 16", x.told(2), 16);
        Check.due("restore", x.restore(), 0);
        Check.due("one work", x.count(2), 1);
        Check.due("day 1", x.told(2), 1);
        Check.due("room", Check.work(x, "day;"), 1);
        Check.due("undo", x.undo(), 1);
        Check.due("undo", x.undo(), 0);
        Check.due("day 0", x.told(2), 0);
        DebtMiller y = Check.with(SMALL);
        for (int i = 1; i <= 16; i++) {
            Check.work(y, "day;");
        }
        for (int i = 15; i >= 0; i--) {
            Check.due("undo", y.undo(), i);
            Check.due("day", y.told(2), i);
        }
        Check.due("none left", y.undo(), -1);
    }

    // "The place of the FAULT of the latest text; NONE without."
    private static void faultPlaces() {
        DebtMiller x = Check.with(SMALL);
        Check.due("none", x.fault(), -1);
        Check.valley(x, "house 0 0;");
        Check.due("of the valley", x.fault(), 6);
        Check.law(x, "x");
        Check.due("of the law", x.fault(), 0);
        Check.work(x, "day");
        Check.due("of the work", x.fault(), 3);
        Check.book(x, "0 1000;");
        Check.due("of the book", x.fault(), 2);
        x.image();
        x.restore();
        x.undo();
        x.told(0);
        Check.due("still", x.fault(), 2);
        Check.book(x, "0 1;");
        Check.due("none again", x.fault(), -1);
        Check.work(x, "x");
        Check.law(x, "1");
        Check.due("none again", x.fault(), -1);
        Check.law(x, "x");
        Check.work(x, "");
        Check.due("none again", x.fault(), -1);
        Check.law(x, "x");
        Check.valley(x, "");
        Check.due("none again", x.fault(), -1);
    }

    // undo: "The latest WORK that was done is undone: how many are left"
    private static void undoAll() {
        DebtMiller x = Check.with(SMALL);
        String[] works = {"grind 0;", "forgive 1;", "swell 2 30;", "give 0 1 9;", "rain 40;", "day;", "forgive 0;", ""};
        String[] before = new String[works.length];
        for (int i = 0; i < works.length; i++) {
            DebtMiller y = Check.with(SMALL);
            for (int k = 0; k < i; k++) {
                Check.work(y, works[k]);
            }
            before[i] = Check.valleySeen(y);
            Check.work(x, works[i]);
        }
        for (int i = works.length - 1; i >= 0; i--) {
            Check.due("left", x.undo(), i);
            if (i % 3 == 0) {
                Check.same("undone " + works[i], Check.valleySeen(x), before[i]);
            }
        }
        Check.due("none", x.undo(), -1);
        for (int i = 0; i < works.length; i++) {
            DebtMiller y = Check.with(SMALL);
            for (int k = 0; k <= i; k++) {
                Check.work(y, works[k]);
            }
            Check.due("left", y.undo(), i);
            Check.same("undone " + works[i], Check.valleySeen(y), before[i]);
        }
    }

    // undo: "-1: there is none"
    private static void undoNone() {
        DebtMiller x = Check.with(SMALL);
        String before = Check.seen(x);
        Check.due("none", x.undo(), -1);
        Check.same("nothing changes", Check.seen(x), before);
        Check.work(x, "x");
        Check.due("a faulty one is none", x.undo(), -1);
        Check.work(x, "forgive 0;");
        Check.work(x, "forgive 0;");
        Check.due("one that did nothing is one", x.undo(), 1);
        Check.due("the other", x.undo(), 0);
        Check.due("all there", x.told(4), 7);
        Check.due("none", x.undo(), -1);
        Check.due("and again", x.undo(), -1);
    }

    // told: "10 STEPS REFUSED by the latest WORK (0 ahead of any, behind undo(), restore())"
    private static void refusedSteps() {
        DebtMiller x = Check.with(SMALL);
        Check.due("ahead of any", x.told(10), 0);
        Check.work(x, "give 0 0 1;give 0 0 1;");
        Check.due("two", x.told(10), 2);
        Check.work(x, "give 0 0 1;");
        Check.due("one", x.told(10), 1);
        x.undo();
        Check.due("behind undo, though a work is there", x.told(10), 0);
        Check.work(x, "give 0 0 1;");
        x.image();
        Check.due("an image leaves it", x.told(10), 1);
        x.restore();
        Check.due("behind restore", x.told(10), 0);
        Check.work(x, "again 60[give 0 0 1;give 0 0 1;give 0 0 1;give 0 0 1;];");
        Check.due("as many as are begun", x.told(10), 199);
        Check.valley(x, SMALL);
        Check.due("a new valley", x.told(10), 0);
    }

    private interface Asked {
        long answer(DebtMiller x, int what);
    }

    /** From least to greatest it answers, and nowhere else. */
    private static void bound(String call, int least, int greatest, Asked run) {
        DebtMiller x = Check.with(SMALL);
        int step = greatest - least > 100 ? 37 : 1;
        for (int what = least; what <= greatest; what += step) {
            int w = what;
            Check.due(call + what + " answers", Check.outcome(() -> run.answer(x, w)), 0);
        }
        Check.due(call + greatest + " answers", Check.outcome(() -> run.answer(x, greatest)), 0);
        for (int what : new int[] {least - 1, greatest + 1, Integer.MIN_VALUE, Integer.MAX_VALUE}) {
            Check.refused(call + what, () -> run.answer(x, what));
        }
        Check.due(call + "counted", x.status(1), 4);
        Check.due(call + "counted", x.status(0), 0);
    }

    // "IllegalArgumentException: another what (so below)."
    private static void whats() {
        bound("told ", 0, 11, (x, w) -> x.told(w));
        bound("house 1 ", 0, 7, (x, w) -> x.house(1, w));
        bound("debt 2 ", 0, 6, (x, w) -> x.debt(2, w));
        bound("ahead 1 ", 0, 2, (x, w) -> x.ahead(1, w));
        bound("most ", 0, 1, (x, w) -> x.most(w));
        bound("ground ", 0, 2, (x, w) -> x.ground(w));
        bound("ask ", 0, 1, (x, w) -> x.ask(w));
        bound("creditors ", 0, 2, (x, w) -> x.creditors(1, 1, w));
        bound("wheel part ", 0, 1, (x, w) -> x.wheel(1, 1, 1, w));
        bound("whitest ", 0, 1, (x, w) -> x.whitest(w));
        bound("hungriest ", 0, 1, (x, w) -> x.hungriest(w));
        bound("even ", 0, 1, (x, w) -> x.even(w));
        bound("oldest ", 0, 1, (x, w) -> x.oldest(w));
        bound("year ", 0, 3, (x, w) -> x.year(1, 1, 1, w));
        bound("span ", 0, 2, (x, w) -> x.span(1, 1, 1, 1, w, 1));
    }

    // The bounds that stand behind each argument: "n (0 to 99)" and their like.
    private static void ranges() {
        bound("ahead n ", 0, 99, (x, w) -> x.ahead(w, 0));
        bound("plan n ", 0, 99, (x, w) -> x.plan(1, w));
        bound("mix n ", 0, 999, (x, w) -> x.mix(w));
        bound("creditors v ", 0, 99, (x, w) -> x.creditors(w, 1, 0));
        bound("creditors w ", 0, 99, (x, w) -> x.creditors(1, w, 0));
        bound("wheel n ", 0, 12, (x, w) -> x.wheel(w, 1, 1, 0));
        bound("wheel k ", 0, 13, (x, w) -> x.wheel(12, w, 1, 0));
        bound("wheel q ", 0, 16, (x, w) -> x.wheel(1, 1, w, 0));
        bound("share bits ", 0, 3, (x, w) -> x.share(1, w, 9));
        bound("share n ", 0, 99, (x, w) -> x.share(1, 3, w));
        bound("share n of none of them ", 0, 99, (x, w) -> x.share(1, 1, w));
        bound("kind ", 0, 9, (x, w) -> x.kind(w));
        bound("year days ", 1, 96, (x, w) -> x.year(1, w, 0, 0));
        bound("year q ", 0, 16, (x, w) -> x.year(1, 1, w, 0));
        bound("span many ", 1, 20, (x, w) -> x.span(1, w, 1, 0, 0, 0));
        bound("span days ", 1, 96, (x, w) -> x.span(1, 1, w, 0, 0, 0));
        bound("span q ", 0, 16, (x, w) -> x.span(1, 1, 1, w, 1, 1));
        bound("span house ", 0, 1, (x, w) -> x.span(1, 1, 1, 1, 0, w));
        bound("span house, least ", 0, 1, (x, w) -> x.span(1, 1, 1, 1, 2, w));
    }

    // "NoSuchElementException: no such HOUSE, DEBT (so below, ahead of others)."
    private static void missingFirst() {
        for (int none : new int[] {-1, 2, 6, Integer.MIN_VALUE, Integer.MAX_VALUE}) {
            DebtMiller x = Check.with(SMALL);
            for (int wrong : new int[] {0, -1, 100}) {
                Check.missing("house " + none, () -> x.house(none, wrong));
                Check.missing("plan " + none, () -> x.plan(none, wrong));
                Check.missing("share bits " + none, () -> x.share(none, wrong, 0));
                Check.missing("share n " + none, () -> x.share(none, 0, wrong));
            }
            Check.missing("lasts " + none, () -> x.lasts(none));
            Check.missing("ring " + none, () -> x.ring(none));
            Check.missing("tangle " + none, () -> x.tangle(none));
            Check.missing("net " + none, () -> x.net(none));
            Check.due("counted as missing", x.status(0), 16);
            Check.due("and as nothing else", x.status(1), 0);
        }
        for (int none : new int[] {-1, 3, 12, Integer.MIN_VALUE, Integer.MAX_VALUE}) {
            DebtMiller x = Check.with(SMALL);
            Check.missing("debt " + none, () -> x.debt(none, 0));
            Check.missing("debt, wrong what " + none, () -> x.debt(none, 7));
            Check.missing("debt, wrong what " + none, () -> x.debt(none, -1));
            Check.missing("can " + none, () -> x.can(none) ? 1 : 0);
            Check.due("counted as missing", x.status(0), 4);
            Check.due("and as nothing else", x.status(1), 0);
        }
        DebtMiller x = Check.with(SMALL);
        Check.work(x, "forgive 2;");
        Check.due("a debt that is gone was told", Check.outcome(() -> x.debt(2, 0)), 0);
        Check.due("a debt that is gone was told", x.can(2), false);
        Check.due("told houses answer", x.lasts(1) + x.lasts(0), 16);
    }

    // image: "how many there are; -1: there are 3"
    private static void images() {
        DebtMiller x = Check.with(SMALL);
        Check.due("first", x.image(), 1);
        Check.due("second", x.image(), 2);
        Check.due("third", x.image(), 3);
        Check.work(x, "day;");
        Check.due("there are 3", x.image(), -1);
        Check.due("still 3", x.count(0), 3);
        Check.due("the third is the latest", x.restore(), 2);
        Check.due("of day 0", x.told(2), 0);
        Check.work(x, "day;day;");
        Check.due("room again", x.image(), 3);
        Check.due("restore", x.restore(), 2);
        Check.due("of day 2", x.told(2), 2);
        Check.due("restore", x.restore(), 1);
        Check.due("restore", x.restore(), 0);
        Check.due("there is none", x.restore(), -1);
        Check.due("day 0", x.told(2), 0);
    }

    // "An IMAGE of all that WORK changes, and of WORKS that can be undone", "(No IMAGE keeps it.)"
    private static void imageKeeps() {
        DebtMiller x = Check.with(SMALL);
        Check.work(x, "grind 1;");
        Check.work(x, "day;swell 0 3;");
        String before = Check.seen(x);
        x.image();
        Check.work(x, "grind 0;forgive 2;give 1 0 1;rain 9;day;");
        x.undo();
        x.undo();
        x.undo();
        Check.work(x, "forgive 0;");
        Check.missing("refused", () -> x.net(9));
        Check.refused("refused", () -> x.told(12));
        Check.feed(x, "day;");
        Check.due("restore", x.restore(), 0);
        Check.due("the tape is as it is", x.work(4), 1);
        Check.due("undo it", x.undo(), 2);
        Check.same("as in the image", Check.seen(x), before);
        Check.due("status is as it is", x.status(0), 1);
        Check.due("status is as it is", x.status(1), 1);
        Check.due("undo as in the image", x.undo(), 1);
        Check.due("weight", x.debt(0, 3), 10);
        Check.due("undo as in the image", x.undo(), 0);
        Check.due("there", x.told(4), 7);
    }

    /** Each WORK's own day and water, so that a row that is not its own is seen. */
    private static void undoneByDays(DebtMiller x, int works, int first) {
        for (int i = works - 1; i >= 0; i--) {
            Check.due("left", x.undo(), i);
            Check.due("day " + i, x.told(2), i < first ? i : 2 * i - first);
        }
    }

    // "An IMAGE .. of WORKS that can be undone": none of them, 16 of them, others done in between
    private static void imageWorks() {
        DebtMiller x = Check.with(SMALL);
        for (int i = 0; i < 16; i++) {
            Check.work(x, "day;");
        }
        x.image();
        for (int i = 0; i < 9; i++) {
            x.undo();
        }
        for (int i = 0; i < 9; i++) {
            Check.work(x, "day;day;");
        }
        Check.due("day", x.told(2), 25);
        x.image();
        Check.due("a third one", x.image(), 3);
        for (int i = 0; i < 16; i++) {
            x.undo();
        }
        Check.work(x, "rain 40;");
        Check.work(x, "rain 9;");
        Check.due("the third", x.restore(), 2);
        undoneByDays(x, 16, 7);
        Check.due("the second", x.restore(), 1);
        Check.due("day", x.told(2), 25);
        undoneByDays(x, 16, 7);
        Check.work(x, "rain 40;");
        Check.work(x, "rain 9;");
        Check.due("the first", x.restore(), 0);
        Check.due("day", x.told(2), 16);
        undoneByDays(x, 16, 16);
        Check.due("water", x.told(3), 30);
        x.image();
        Check.work(x, "day;");
        Check.due("an image of no works", x.restore(), 0);
        Check.due("nothing to undo", x.undo(), -1);
        Check.due("day", x.told(2), 0);
    }

    // restore: "All that is as in the latest IMAGE, which is gone: how many are left; -1: there is none."
    private static void restoreOrder() {
        DebtMiller x = Check.with(SMALL);
        for (int i = 0; i < 3; i++) {
            x.image();
            Check.work(x, "day;");
        }
        for (int i = 2; i >= 0; i--) {
            Check.due("left", x.restore(), i);
            Check.due("images", x.count(0), i);
            Check.due("day", x.told(2), i);
            Check.due("works", x.count(2), i);
        }
        Check.work(x, "day;give 0 0 1;");
        String before = Check.seen(x);
        Check.due("none", x.restore(), -1);
        Check.same("nothing changes", Check.seen(x), before);
    }

    // "How many calls were refused: 0 NoSuchElementException, 1 IllegalArgumentException; NONE for others."
    private static void statusCounts() {
        DebtMiller x = Check.with(SMALL);
        for (int what : new int[] {-1, 2, 3, Integer.MIN_VALUE, Integer.MAX_VALUE}) {
            Check.due("status " + what, x.status(what), -1);
        }
        for (int what : new int[] {-1, 3, 4, Integer.MIN_VALUE, Integer.MAX_VALUE}) {
            Check.due("count " + what, x.count(what), -1);
        }
        Check.due("asking is not refused", x.status(0) + x.status(1), 0);
        x.undo();
        x.restore();
        Check.law(x, "x");
        Check.work(x, "give 0 0 1;");
        for (int i = 0; i < 4; i++) {
            x.image();
        }
        Check.due("-1, faults, refused steps are no refused calls", x.status(0) + x.status(1), 0);
        Check.missing("one", () -> x.house(2, 99));
        Check.due("missing", x.status(0), 1);
        Check.due("arguments", x.status(1), 0);
        Check.refused("two", () -> x.house(0, 99));
        Check.due("missing", x.status(0), 1);
        Check.due("arguments", x.status(1), 1);
        x.restore();
        x.undo();
        Check.valley(x, "");
        Check.due("missing", x.status(0), 1);
        Check.due("arguments", x.status(1), 1);
        DebtMiller y = new DebtMiller();
        Check.due("each object its own", y.status(0) + y.status(1), 0);
    }

    // A call that throws changes nothing but what status tells.
    private static void refusedChangesNothing() {
        for (int i = 0; i < 29; i++) {
            DebtMiller x = Check.with(SMALL);
            Check.law(x, "weight+hunger");
            Check.book(x, "0 10;");
            Check.work(x, "day;forgive 2;forgive 2;");
            x.image();
            Check.work(x, "1");
            Check.feed(x, "day;".repeat(40));
            Check.Call[] all = {() -> x.valley(161), () -> x.law(151), () -> x.work(151), () -> x.book(61), () -> x.told(12),
                () -> x.house(2, 0), () -> x.debt(3, 0), () -> x.would(0, 0, 0, 0, 1, 0, 0, 0, 0), () -> x.can(3) ? 1 : 0,
                () -> x.ahead(100, 0), () -> x.lasts(2), () -> x.plan(0, 100), () -> x.most(2), () -> x.ring(2), () -> x.tangle(2),
                () -> x.ground(3), () -> x.ask(2), () -> x.mix(1000), () -> x.creditors(100, 0, 0), () -> x.wheel(13, 0, 0, 0),
                () -> x.share(0, 4, 0), () -> x.year(0, 97, 0, 0), () -> x.span(0, 21, 1, 0, 0, 0), () -> x.net(2),
                () -> x.whitest(2), () -> x.hungriest(2), () -> x.even(2), () -> x.kind(10), () -> x.oldest(2)};
            String before = Check.seen(x);
            Check.due("refused " + i, Check.outcome(all[i]) > 0, true);
            Check.same("what a refused call leaves " + i, Check.seen(x), before);
            Check.due("fault", x.fault(), 0);
            Check.due("one is counted", x.status(0) + x.status(1), 1);
            Check.due("would as before", x.would(5, 0, 0, 0, 1, 0, 0, 7, 0), 12);
        }
    }

    private static void extremes() {
        int[] far = {Integer.MIN_VALUE, Integer.MIN_VALUE + 1, -32, -1, 31, 32, 33, 64, 256, 65536, Integer.MAX_VALUE};
        for (int a : far) {
            DebtMiller x = Check.with(SMALL);
            Check.due("house", Check.outcome(() -> x.house(a, a)), 2);
            Check.due("debt", Check.outcome(() -> x.debt(a, a)), 2);
            Check.due("plan", Check.outcome(() -> x.plan(a, a)), 2);
            Check.due("share", Check.outcome(() -> x.share(a, a, a)), 2);
            Check.due("share", Check.outcome(() -> x.share(0, a, 1)), 1);
            Check.due("told", Check.outcome(() -> x.told(a)), 1);
            Check.due("wheel", Check.outcome(() -> x.wheel(a, a, a, a)), 1);
            Check.due("would", Check.outcome(() -> x.would(a, a, a, a, a, a, a, a, a)), 1);
            Check.due("span", Check.outcome(() -> x.span(a, a, a, a, a, a)), 1);
            Check.due("year", Check.outcome(() -> x.year(a, a, a, a)), 1);
            Check.due("year of any seed", Check.outcome(() -> x.year(a, 96, 16, 0)), 0);
            Check.due("span of any seed", Check.outcome(() -> x.span(a, 20, 96, 16, 2, 1)), 0);
            Check.due("feed of any numbers", x.feed(a, a, a, a, a), 20);
            Check.due("which are no text", x.valley(20) < 0, true);
        }
    }

    // "An object is used for at most 512 calls": so many are fine, each a dear one.
    private static void manyCalls() {
        DebtMiller x = Check.with(TWO + "debt 0 1 0 30;debt 1 0 0 30;".repeat(6) + "water 99;");
        for (int i = 0; i < 480; i++) {
            switch (i % 4) {
                case 0: Check.due("span", x.span(i, 20, 96, 16, 0, 0) > 0, true); break;
                case 1: Check.due("most", x.most(0), 720); break;
                case 2: Check.due("ask", x.ask(1), 64 * 20); break;
                default: Check.due("mix", x.mix(60), 12); break;
            }
        }
    }
}
