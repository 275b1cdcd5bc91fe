import java.util.Arrays;
import java.util.NoSuchElementException;

/** A miller who grinds only what is owed; ../shared/DOC.md says what each call promises. */
public final class DebtMiller {
    public static final int NONE = -1;

    private static final int MOST_HOUSES = 6;
    private static final int MOST_DEBTS = 12;
    private static final int MOST_CLAUSES = 60;
    private static final int MOST_OPEN = 6;
    private static final int MOST_WORKS = 16;
    private static final int MOST_IMAGES = 3;
    private static final int MOST_FLOUR = 99;
    private static final int MOST_CROCK = 999;
    private static final int MOST_WATER = 99;
    private static final int MOST_HUNGER = 99;
    private static final int MOST_WEIGHT = 60;
    private static final int LAST_DAY = 400;

    private static final int TAPE_BYTES = 600;
    private static final int FED_BYTES = 20;
    private static final int LAW_BYTES = 150;
    private static final int WORK_BYTES = 150;
    private static final int BOOK_BYTES = 60;

    private static final int CANT_STAND = 1;
    private static final int NONE_SUCH = 2;
    private static final int TOO_MANY = 3;
    private static final int FAULT_LESS = 10;
    private static final int WORKS_FULL = -20;

    private final Text text = new Text();
    private final Valley valley = new Valley();
    private final Valley draftValley = new Valley();
    private final Law law = new Law();
    private final Law draftLaw = new Law();
    private final Book book = new Book();
    private final Book draftBook = new Book();
    private final Steps steps = new Steps();
    private final int[] wouldTerms = new int[Law.TERMS];
    private final Mill now = new Mill(valley, law);
    private final Mill asked = new Mill(valley, law);
    private final Nights nights = new Nights(now);
    private final Sets sets = new Sets(valley, now, book);
    private final Seasons seasons = new Seasons(valley, asked);
    private int refusedMissing = 0;
    private int refusedArguments = 0;

    public DebtMiller() {
    }

    public int feed(int a, int b, int c, int d, int e) {
        if (!text.hasRoom()) {
            return NONE;
        }
        text.put(a);
        text.put(b);
        text.put(c);
        text.put(d);
        text.put(e);
        return text.fed;
    }

    public int valley(int n) throws IllegalArgumentException {
        needBytes(n, TAPE_BYTES);
        text.open(n);
        draftValley.read(text);
        if (!text.sound()) {
            return text.fault - FAULT_LESS;
        }
        valley.takeFrom(draftValley);
        law.makeUsual();
        book.clear();
        nights.begin();
        return valley.debts;
    }

    public int law(int n) throws IllegalArgumentException {
        needBytes(n, LAW_BYTES);
        text.open(n);
        draftLaw.read(text);
        if (!text.sound()) {
            return text.fault - FAULT_LESS;
        }
        law.takeFrom(draftLaw);
        return 1;
    }

    public int work(int n) throws IllegalArgumentException {
        needBytes(n, WORK_BYTES);
        if (nights.isFull()) {
            text.open(0);
            return WORKS_FULL;
        }
        text.open(n);
        steps.read(text, valley);
        if (!text.sound()) {
            return text.fault - FAULT_LESS;
        }
        nights.keepForUndo();
        steps.perform(now);
        nights.refused = steps.refused;
        return steps.done;
    }

    public int book(int n) throws IllegalArgumentException {
        needBytes(n, BOOK_BYTES);
        text.open(n);
        draftBook.read(text, valley.houses);
        if (!text.sound()) {
            return text.fault - FAULT_LESS;
        }
        book.takeFrom(draftBook);
        return book.lines;
    }

    public int fault() {
        return text.place;
    }

    public int undo() {
        return nights.takeBack();
    }

    public int told(int what) throws IllegalArgumentException {
        needWithin(what, 0, 11);
        switch (what) {
            case 0: return valley.houses;
            case 1: return valley.debts;
            case 2: return now.day();
            case 3: return now.water();
            case 4: return now.there();
            case 5: return now.hungry();
            case 6: return now.crocksTogether();
            case 7: return now.weightsTogether();
            case 8: return now.floursTogether();
            case 9: return book.lines;
            case 10: return nights.refused;
            default: return now.grindable();
        }
    }

    public int house(int house, int what) throws NoSuchElementException, IllegalArgumentException {
        needHouse(house);
        needWithin(what, 0, 7);
        switch (what) {
            case 0: return valley.mouths[house];
            case 1: return valley.pride[house];
            case 2: return now.crock(house);
            case 3: return now.hunger(house);
            case 4: return now.debtsOf(house);
            case 5: return now.owedBy(house);
            case 6: return now.owedTo(house);
            default: return now.came(house);
        }
    }

    public int debt(int debt, int what) throws NoSuchElementException, IllegalArgumentException {
        needDebt(debt);
        needWithin(what, 0, 6);
        switch (what) {
            case 0: return valley.debtor[debt];
            case 1: return valley.creditor[debt];
            case 2: return valley.kind[debt];
            case 3: return now.weight(debt);
            case 4: return now.age(debt);
            case 5: return now.flour(debt);
            default: return now.drinks(debt);
        }
    }

    public int would(int weight, int kind, int age, int pride, int mouths, int owed, int others, int hunger, int debt)
            throws IllegalArgumentException {
        needWithin(weight, 1, MOST_WEIGHT);
        needWithin(kind, 0, 9);
        needWithin(age, 0, 999);
        needWithin(pride, 0, 9);
        needWithin(mouths, 1, 9);
        needWithin(owed, 0, 999);
        needWithin(others, 0, MOST_DEBTS - 1);
        needWithin(hunger, 0, MOST_HUNGER);
        needWithin(debt, 0, MOST_DEBTS - 1);
        wouldTerms[Law.WEIGHT] = weight;
        wouldTerms[Law.KIND] = kind;
        wouldTerms[Law.AGE] = age;
        wouldTerms[Law.PRIDE] = pride;
        wouldTerms[Law.MOUTHS] = mouths;
        wouldTerms[Law.OWED] = owed;
        wouldTerms[Law.OTHERS] = others;
        wouldTerms[Law.HUNGER] = hunger;
        wouldTerms[Law.DEBT] = debt;
        return law.flourFor(wouldTerms);
    }

    public boolean can(int debt) throws NoSuchElementException {
        needDebt(debt);
        return now.canGrind(debt);
    }

    public int ahead(int n, int what) throws IllegalArgumentException {
        needWithin(n, 0, 99);
        needWithin(what, 0, 2);
        asked.takeFrom(now);
        for (int i = 0; i < n; i++) {
            asked.passDay();
        }
        switch (what) {
            case 0: return asked.crocksTogether();
            case 1: return asked.hungry();
            default: return asked.hungerTogether();
        }
    }

    public int lasts(int house) throws NoSuchElementException {
        needHouse(house);
        return now.daysFed(house);
    }

    public int plan(int house, int n) throws NoSuchElementException, IllegalArgumentException {
        needHouse(house);
        needWithin(n, 0, 99);
        return sets.fewestFor(house, valley.mouths[house] * n);
    }

    public int most(int what) throws IllegalArgumentException {
        needWithin(what, 0, 1);
        int set = sets.richest();
        return what == 0 ? sets.floursOf(set) : set;
    }

    public int ring(int house) throws NoSuchElementException {
        needHouse(house);
        return now.shortestRing(house);
    }

    public int tangle(int house) throws NoSuchElementException {
        needHouse(house);
        return now.entangled(house);
    }

    public int ground(int what) throws IllegalArgumentException {
        needWithin(what, 0, 2);
        sets.search();
        switch (what) {
            case 0: return sets.many;
            case 1: return sets.first;
            default: return sets.sure;
        }
    }

    public int ask(int what) throws IllegalArgumentException {
        needWithin(what, 0, 1);
        sets.choose();
        return what == 0 ? sets.bestHouse : sets.bestLeft;
    }

    public int mix(int n) throws IllegalArgumentException {
        needWithin(n, 0, 999);
        return sets.waysTo(n);
    }

    public int creditors(int v, int w, int what) throws IllegalArgumentException {
        needWithin(v, 0, 99);
        needWithin(w, 0, 99);
        needWithin(what, 0, 2);
        int rests = 0;
        int first = NONE;
        for (int pair = 3; pair >= 0; pair--) {
            if (isRest(pair / 2, pair % 2, v, w)) {
                rests++;
                first = pair;
            }
        }
        if (what == 0) {
            return rests;
        }
        if (first == NONE) {
            return what == 1 ? NONE : 0;
        }
        int one = first / 2;
        int other = first % 2;
        return what == 1 ? 10 * one + other : payOf(one, other, v, w) + payOf(other, one, v, w);
    }

    public long wheel(int n, int k, int q, int part) throws IllegalArgumentException {
        needWithin(n, 0, 12);
        needWithin(k, 0, 13);
        needWithin(q, 0, 16);
        needWithin(part, 0, 1);
        long above = turningWays(n, k, q);
        long below = 1L << (4 * n);
        // What is below is a power of two, so halving is all that least terms need.
        while (below > 1 && above % 2 == 0) {
            above = above / 2;
            below = below / 2;
        }
        return part == 0 ? above : below;
    }

    public int share(int house, int houses, int n) throws NoSuchElementException, IllegalArgumentException {
        needHouse(house);
        needWithin(houses, 0, (1 << valley.houses) - 1);
        needWithin(n, 0, 99);
        if ((houses & (1 << house)) == 0) {
            return 0;
        }
        return Math.min(valley.mouths[house], valley.levelFor(houses, n));
    }

    public int whitest(int what) throws IllegalArgumentException {
        needWithin(what, 0, 1);
        int best = NONE;
        int bestFlour = NONE;
        for (int d = 0; d < valley.debts; d++) {
            int flour = now.isThere(d) ? now.flour(d) : NONE;
            if (flour > bestFlour) {
                best = d;
                bestFlour = flour;
            }
        }
        return what == 0 ? best : bestFlour;
    }

    public int hungriest(int what) throws IllegalArgumentException {
        needWithin(what, 0, 1);
        int best = NONE;
        int bestHunger = 0;
        for (int h = 0; h < valley.houses; h++) {
            if (now.hunger(h) > bestHunger) {
                best = h;
                bestHunger = now.hunger(h);
            }
        }
        return what == 0 || best == NONE ? best : bestHunger;
    }

    public int net(int house) throws NoSuchElementException {
        needHouse(house);
        return now.owedTo(house) - now.owedBy(house);
    }

    public int even(int what) throws IllegalArgumentException {
        needWithin(what, 0, 1);
        int pairs = 0;
        int first = NONE;
        for (int a = 0; a < valley.houses; a++) {
            for (int b = a + 1; b < valley.houses; b++) {
                int weights = now.owedBetween(a, b);
                if (weights > 0 && weights == now.owedBetween(b, a)) {
                    first = pairs == 0 ? 10 * a + b : first;
                    pairs++;
                }
            }
        }
        return what == 0 ? pairs : first;
    }

    public int honest() {
        int bits = 0;
        for (int h = 0; h < valley.houses; h++) {
            if (now.debtsOf(h) == 0) {
                bits |= 1 << h;
            }
        }
        return bits;
    }

    public int kind(int kind) throws IllegalArgumentException {
        needWithin(kind, 0, 9);
        int bits = 0;
        for (int d = 0; d < valley.debts; d++) {
            if (now.isThere(d) && valley.kind[d] == kind) {
                bits |= 1 << d;
            }
        }
        return bits;
    }

    public int oldest(int what) throws IllegalArgumentException {
        needWithin(what, 0, 1);
        int best = NONE;
        int bestAge = NONE;
        for (int d = 0; d < valley.debts; d++) {
            int age = now.isThere(d) ? now.age(d) : NONE;
            if (age > bestAge) {
                best = d;
                bestAge = age;
            }
        }
        return what == 0 ? best : bestAge;
    }

    public int thirst() {
        int water = 0;
        for (int d = 0; d < valley.debts; d++) {
            water += now.drinks(d);
        }
        return water;
    }

    public int year(int seed, int days, int q, int what) throws IllegalArgumentException {
        needWithin(days, 1, 96);
        needWithin(q, 0, 16);
        needWithin(what, 0, 3);
        seasons.live(now, seed, days, q);
        switch (what) {
            case 0: return seasons.flour;
            case 1: return asked.hungry();
            case 2: return asked.water();
            default: return asked.there();
        }
    }

    public int span(int seed, int many, int days, int q, int what, int house) throws IllegalArgumentException {
        needWithin(many, 1, 20);
        needWithin(days, 1, 96);
        needWithin(q, 0, 16);
        needWithin(what, 0, 2);
        needWithin(house, 0, valley.houses - 1);
        int least = Integer.MAX_VALUE;
        int greatest = 0;
        int hungering = 0;
        for (int i = 0; i < many; i++) {
            seasons.live(now, seed + i, days, q);
            least = Math.min(least, seasons.flour);
            greatest = Math.max(greatest, seasons.flour);
            hungering += asked.hunger(house) > 0 ? 1 : 0;
        }
        switch (what) {
            case 0: return least;
            case 1: return greatest;
            default: return hungering;
        }
    }

    public int image() {
        return nights.keepImage();
    }

    public int restore() {
        return nights.bringBack();
    }

    public int status(int what) {
        switch (what) {
            case 0: return refusedMissing;
            case 1: return refusedArguments;
            default: return NONE;
        }
    }

    public int count(int what) {
        switch (what) {
            case 0: return nights.images;
            case 1: return text.fed;
            case 2: return nights.works;
            default: return NONE;
        }
    }

    private void needWithin(int value, int least, int greatest) {
        if (value < least || value > greatest) {
            refusedArguments++;
            throw new IllegalArgumentException("out of its range");
        }
    }

    private void needBytes(int n, int greatest) {
        needWithin(n, 0, Math.min(greatest, text.fed));
    }

    private void needHouse(int house) {
        if (house < 0 || house >= valley.houses) {
            refusedMissing++;
            throw new NoSuchElementException("no such house");
        }
    }

    private void needDebt(int debt) {
        if (debt < 0 || debt >= valley.debts) {
            refusedMissing++;
            throw new NoSuchElementException("no such debt");
        }
    }

    /** What one creditor has who does mine while the other does theirs: 0 asks, 1 forgives. */
    private static int payOf(int mine, int theirs, int v, int w) {
        if (mine == 1) {
            return w;
        }
        return theirs == 1 ? v : v / 2;
    }

    private static boolean isRest(int one, int other, int v, int w) {
        return payOf(one, other, v, w) >= payOf(1 - one, other, v, w)
            && payOf(other, one, v, w) >= payOf(1 - other, one, v, w);
    }

    /** Of the 16 to the power of n ways of n nights, those in which the wheel turns k times or more. */
    private static long turningWays(int n, int k, int q) {
        long ways = 0;
        long choices = 1;
        for (int turns = 0; turns <= n; turns++) {
            if (turns >= k) {
                ways += choices * power(q, turns) * power(16 - q, n - turns);
            }
            choices = choices * (n - turns) / (turns + 1);
        }
        return ways;
    }

    private static long power(int base, int exponent) {
        long result = 1;
        for (int i = 0; i < exponent; i++) {
            result *= base;
        }
        return result;
    }

    /** The tape, and the text that is read off its first bytes, with the first fault from the left. */
    private static final class Text {
        // Far above every number that a text may hold, and far below what ten times would wrap.
        private static final int TOO_GREAT = 100000;

        private final byte[] bytes = new byte[TAPE_BYTES];
        private int fed = 0;
        private int length = 0;
        private int at = 0;
        private int tokenAt = 0;
        private int fault = 0;
        private int place = NONE;

        boolean hasRoom() {
            return fed + FED_BYTES <= TAPE_BYTES;
        }

        void put(int number) {
            for (int shift = 24; shift >= 0 && fed < bytes.length; shift -= 8) {
                bytes[fed] = (byte) (number >> shift);
                fed++;
            }
        }

        /** The tape counts as empty from here on; its bytes stay until the next feed, so they can be read. */
        void open(int n) {
            length = Math.min(n, fed);
            fed = 0;
            at = 0;
            tokenAt = 0;
            fault = 0;
            place = NONE;
        }

        boolean sound() {
            return fault == 0;
        }

        /** A fault at the token looked at latest; later ones don't count. */
        void fail(int reason) {
            if (fault == 0) {
                fault = reason;
                place = tokenAt;
            }
        }

        boolean ended() {
            findToken();
            return at >= length;
        }

        boolean sees(char sign) {
            findToken();
            return at < length && bytes[at] == sign;
        }

        boolean seesDigit() {
            findToken();
            return at < length && isDigit(bytes[at]);
        }

        boolean takes(char sign) {
            findToken();
            if (fault != 0 || at >= length || bytes[at] != sign) {
                return false;
            }
            at++;
            return true;
        }

        void needs(char sign) {
            findToken();
            if (at < length && bytes[at] == sign) {
                at++;
            } else {
                fail(CANT_STAND);
            }
        }

        int number(int least, int greatest) {
            if (!sound()) {
                return 0;
            }
            findToken();
            int value = 0;
            while (at < length && isDigit(bytes[at])) {
                value = Math.min(TOO_GREAT, 10 * value + bytes[at] - '0');
                at++;
            }
            if (at == tokenAt) {
                fail(CANT_STAND);
            } else if (value < least || value > greatest) {
                fail(NONE_SUCH);
            }
            return value;
        }

        /** Which of the words (told in one text, a blank between them) stands here; a fault, if none does. */
        int word(String words) {
            if (!sound()) {
                return NONE;
            }
            findToken();
            int end = at;
            while (end < length && isLetter(bytes[end])) {
                end++;
            }
            int index = indexAmong(words, end);
            if (index == NONE) {
                fail(CANT_STAND);
            } else {
                at = end;
            }
            return index;
        }

        private int indexAmong(String words, int end) {
            int index = 0;
            int alike = at;
            for (int i = 0; i < words.length(); i++) {
                char letter = words.charAt(i);
                if (letter == ' ') {
                    if (alike == end) {
                        return index;
                    }
                    index++;
                    alike = at;
                } else if (alike != NONE && alike < end && bytes[alike] == letter) {
                    alike++;
                } else {
                    alike = NONE;
                }
            }
            return alike == end ? index : NONE;
        }

        private void findToken() {
            while (at < length && bytes[at] == ' ') {
                at++;
            }
            tokenAt = at;
        }

        private static boolean isDigit(int sign) {
            return sign >= '0' && sign <= '9';
        }

        private static boolean isLetter(int sign) {
            return sign >= 'a' && sign <= 'z';
        }
    }

    /** What was told of houses, debts, flour and water: WORK changes none of it. */
    private static final class Valley {
        private static final String WORDS = "house debt flour water";
        private static final int USUAL_WATER = 20;

        private final int[] mouths = new int[MOST_HOUSES];
        private final int[] pride = new int[MOST_HOUSES];
        private final int[] flour = new int[MOST_HOUSES];
        private final int[] debtor = new int[MOST_DEBTS];
        private final int[] creditor = new int[MOST_DEBTS];
        private final int[] kind = new int[MOST_DEBTS];
        private final int[] weight = new int[MOST_DEBTS];
        private int houses = 0;
        private int debts = 0;
        private int water = USUAL_WATER;

        void takeFrom(Valley other) {
            System.arraycopy(other.mouths, 0, mouths, 0, MOST_HOUSES);
            System.arraycopy(other.pride, 0, pride, 0, MOST_HOUSES);
            System.arraycopy(other.flour, 0, flour, 0, MOST_HOUSES);
            System.arraycopy(other.debtor, 0, debtor, 0, MOST_DEBTS);
            System.arraycopy(other.creditor, 0, creditor, 0, MOST_DEBTS);
            System.arraycopy(other.kind, 0, kind, 0, MOST_DEBTS);
            System.arraycopy(other.weight, 0, weight, 0, MOST_DEBTS);
            houses = other.houses;
            debts = other.debts;
            water = other.water;
        }

        void read(Text text) {
            houses = 0;
            debts = 0;
            water = USUAL_WATER;
            for (int clauses = 0; clauses <= MOST_CLAUSES && text.sound() && !text.ended(); clauses++) {
                int word = text.word(WORDS);
                if (clauses == MOST_CLAUSES) {
                    text.fail(TOO_MANY);
                }
                readClause(text, word);
                text.needs(';');
            }
        }

        private void readClause(Text text, int word) {
            switch (word) {
                case 0:
                    readHouse(text);
                    break;
                case 1:
                    readDebt(text);
                    break;
                case 2:
                    readFlour(text);
                    break;
                default:
                    water = text.number(0, MOST_WATER);
                    break;
            }
        }

        private void readHouse(Text text) {
            if (houses >= MOST_HOUSES) {
                text.fail(TOO_MANY);
                return;
            }
            mouths[houses] = text.number(1, 9);
            pride[houses] = text.number(0, 9);
            flour[houses] = 0;
            houses++;
        }

        private void readDebt(Text text) {
            if (debts >= MOST_DEBTS) {
                text.fail(TOO_MANY);
                return;
            }
            debtor[debts] = text.number(0, houses - 1);
            creditor[debts] = text.number(0, houses - 1);
            if (creditor[debts] == debtor[debts]) {
                text.fail(NONE_SUCH);
            }
            kind[debts] = text.number(0, 9);
            weight[debts] = text.number(1, 30);
            debts++;
        }

        private void readFlour(Text text) {
            int house = text.number(0, houses - 1);
            int much = text.number(0, 99);
            if (text.sound() && house < houses) {
                flour[house] = much;
            }
        }

        /** The greatest bound by which n are enough for these houses; 9 mouths are the most there can be. */
        int levelFor(int these, int n) {
            int level = 0;
            for (int bound = 1; bound <= 9; bound++) {
                int given = 0;
                for (int h = 0; h < houses; h++) {
                    given += (these & (1 << h)) != 0 ? Math.min(mouths[h], bound) : 0;
                }
                level = given <= n ? bound : level;
            }
            return level;
        }
    }

    /** How much flour a debt is, held as what a stack is to do, term behind term. */
    private static final class Law {
        private static final String WORDS = "weight kind age pride mouths owed others hunger debt least most";
        private static final int WEIGHT = 0;
        private static final int KIND = 1;
        private static final int AGE = 2;
        private static final int PRIDE = 3;
        private static final int MOUTHS = 4;
        private static final int OWED = 5;
        private static final int OTHERS = 6;
        private static final int HUNGER = 7;
        private static final int DEBT = 8;
        private static final int TERMS = 9;
        private static final int LEAST = 9;
        private static final int MOST = 10;
        private static final int PLUS = 11;
        private static final int MINUS = 12;
        private static final int TIMES = 13;
        private static final int OVER = 14;
        private static final int REST = 15;
        private static final int NUMBER = 16;
        private static final int[] USUAL = {
            WEIGHT, NUMBER + 2, TIMES, KIND, MINUS, AGE, NUMBER + 3, OVER, PLUS
        };

        private final int[] code = new int[LAW_BYTES];
        private final int[] stack = new int[LAW_BYTES];
        private int size = 0;

        Law() {
            System.arraycopy(USUAL, 0, code, 0, USUAL.length);
            size = USUAL.length;
        }

        void makeUsual() {
            System.arraycopy(USUAL, 0, code, 0, USUAL.length);
            size = USUAL.length;
        }

        void takeFrom(Law other) {
            System.arraycopy(other.code, 0, code, 0, LAW_BYTES);
            size = other.size;
        }

        void read(Text text) {
            size = 0;
            readSum(text, 0);
            if (text.sound() && !text.ended()) {
                text.fail(CANT_STAND);
            }
        }

        private void readSum(Text text, int open) {
            readProduct(text, open);
            for (int i = 0; i < LAW_BYTES && text.sound(); i++) {
                int operation = text.takes('+') ? PLUS : text.takes('-') ? MINUS : NONE;
                if (operation == NONE) {
                    return;
                }
                readProduct(text, open);
                emit(operation);
            }
        }

        private void readProduct(Text text, int open) {
            readUnit(text, open);
            for (int i = 0; i < LAW_BYTES && text.sound(); i++) {
                int operation = text.takes('*') ? TIMES : text.takes('/') ? OVER : text.takes('%') ? REST : NONE;
                if (operation == NONE) {
                    return;
                }
                readUnit(text, open);
                emit(operation);
            }
        }

        private void readUnit(Text text, int open) {
            if (!text.sound()) {
                return;
            }
            if (text.seesDigit()) {
                emit(NUMBER + text.number(0, 999));
                return;
            }
            boolean bracket = text.takes('(');
            int word = bracket ? NONE : text.word(WORDS);
            if (word >= 0 && word < TERMS) {
                emit(word);
                return;
            }
            if (open >= MOST_OPEN) {
                text.fail(TOO_MANY);
            }
            if (!text.sound()) {
                return;
            }
            if (bracket) {
                readSum(text, open + 1);
                text.needs(')');
            } else {
                readPair(text, word, open + 1);
            }
        }

        private void readPair(Text text, int word, int open) {
            text.needs('[');
            readSum(text, open);
            text.needs(',');
            readSum(text, open);
            text.needs(']');
            emit(word);
        }

        private void emit(int what) {
            if (size < code.length) {
                code[size] = what;
                size++;
            }
        }

        int flourFor(int[] terms) {
            int top = 0;
            for (int i = 0; i < size && i < code.length && top < stack.length; i++) {
                int what = code[i];
                if (what >= NUMBER) {
                    stack[top] = what - NUMBER;
                    top++;
                } else if (what >= 0 && what < TERMS && what < terms.length) {
                    stack[top] = terms[what];
                    top++;
                } else if (top >= 2) {
                    stack[top - 2] = combined(what, stack[top - 2], stack[top - 1]);
                    top--;
                }
            }
            return Math.max(0, Math.min(MOST_FLOUR, stack[0]));
        }

        private static int combined(int operation, int left, int right) {
            switch (operation) {
                case LEAST: return Math.min(left, right);
                case MOST: return Math.max(left, right);
                case PLUS: return left + right;
                case MINUS: return left - right;
                case TIMES: return left * right;
                case OVER: return right == 0 ? 0 : left / right;
                default: return right == 0 ? 0 : left % right;
            }
        }
    }

    /** What is said to have come to which houses. */
    private static final class Book {
        private final int[] came = new int[MOST_HOUSES];
        private int listed = 0;
        private int lines = 0;

        void clear() {
            listed = 0;
            lines = 0;
        }

        void takeFrom(Book other) {
            System.arraycopy(other.came, 0, came, 0, MOST_HOUSES);
            listed = other.listed;
            lines = other.lines;
        }

        boolean lists(int house) {
            return (listed & (1 << house)) != 0;
        }

        void read(Text text, int houses) {
            clear();
            // No house stands twice, so one line more than there are houses is a fault in any case.
            for (int i = 0; i <= MOST_HOUSES && text.sound() && !text.ended(); i++) {
                readLine(text, houses);
            }
        }

        private void readLine(Text text, int houses) {
            int house = text.number(0, houses - 1);
            if (lists(house)) {
                text.fail(NONE_SUCH);
            }
            int much = text.number(0, 999);
            text.needs(';');
            if (text.sound() && house < MOST_HOUSES) {
                came[house] = much;
                listed |= 1 << house;
                lines++;
            }
        }
    }

    /** All that WORK changes, in one row of numbers that can be copied whole. */
    private static final class Mill {
        private static final int DAY = 0;
        private static final int WATER = 1;
        private static final int THERE = 2;
        private static final int CROCK = 3;
        private static final int HUNGER = CROCK + MOST_HOUSES;
        private static final int CAME = HUNGER + MOST_HOUSES;
        private static final int WEIGHT = CAME + MOST_HOUSES;
        private static final int AGE = WEIGHT + MOST_DEBTS;
        private static final int ROW = AGE + MOST_DEBTS;

        private final Valley valley;
        private final Law law;
        private final int[] cells = new int[ROW];
        private final int[] terms = new int[Law.TERMS];

        Mill(Valley valley, Law law) {
            this.valley = valley;
            this.law = law;
            this.cells[WATER] = Valley.USUAL_WATER;
        }

        void begin() {
            Arrays.fill(cells, 0);
            cells[WATER] = valley.water;
            cells[THERE] = (1 << valley.debts) - 1;
            System.arraycopy(valley.flour, 0, cells, CROCK, valley.houses);
            System.arraycopy(valley.weight, 0, cells, WEIGHT, valley.debts);
        }

        void takeFrom(Mill other) {
            System.arraycopy(other.cells, 0, cells, 0, ROW);
        }

        int day() {
            return cells[DAY];
        }

        int water() {
            return cells[WATER];
        }

        int there() {
            return cells[THERE];
        }

        boolean isThere(int debt) {
            return debt >= 0 && debt < valley.debts && (cells[THERE] & (1 << debt)) != 0;
        }

        boolean isHouse(int house) {
            return house >= 0 && house < valley.houses;
        }

        int crock(int house) {
            return isHouse(house) ? cells[CROCK + house] : 0;
        }

        int hunger(int house) {
            return isHouse(house) ? cells[HUNGER + house] : 0;
        }

        int came(int house) {
            return isHouse(house) ? cells[CAME + house] : 0;
        }

        int weight(int debt) {
            return isThere(debt) ? cells[WEIGHT + debt] : 0;
        }

        int age(int debt) {
            return isThere(debt) ? cells[AGE + debt] : 0;
        }

        int drinks(int debt) {
            return isThere(debt) ? waterFor(cells[WEIGHT + debt]) : 0;
        }

        private static int waterFor(int weight) {
            return 1 + weight / 5;
        }

        int flour(int debt) {
            if (!isThere(debt)) {
                return 0;
            }
            int house = valley.debtor[debt];
            terms[Law.WEIGHT] = cells[WEIGHT + debt];
            terms[Law.KIND] = valley.kind[debt];
            terms[Law.AGE] = cells[AGE + debt];
            terms[Law.PRIDE] = valley.pride[house];
            terms[Law.MOUTHS] = valley.mouths[house];
            terms[Law.OWED] = owedBetween(valley.creditor[debt], house);
            terms[Law.OTHERS] = Integer.bitCount(debtsOf(house)) - 1;
            terms[Law.HUNGER] = hunger(house);
            terms[Law.DEBT] = debt;
            return law.flourFor(terms);
        }

        boolean canGrind(int debt) {
            return isThere(debt) && waterFor(cells[WEIGHT + debt]) <= cells[WATER];
        }

        /** The flour that came of it; NONE, if it is refused. */
        int grind(int debt) {
            if (!canGrind(debt)) {
                return NONE;
            }
            int flour = flour(debt);
            int house = valley.debtor[debt];
            cells[CROCK + house] = Math.min(MOST_CROCK, cells[CROCK + house] + flour);
            cells[CAME + house] += flour;
            cells[WATER] -= drinks(debt);
            remove(debt);
            return flour;
        }

        boolean forgive(int debt) {
            if (!isThere(debt)) {
                return false;
            }
            remove(debt);
            return true;
        }

        /** What is gone weighs nothing, so that sums of weights need not look whether a debt is there. */
        private void remove(int debt) {
            cells[THERE] &= ~(1 << debt);
            cells[WEIGHT + debt] = 0;
            cells[AGE + debt] = 0;
        }

        boolean swell(int debt, int n) {
            if (!isThere(debt) || cells[WEIGHT + debt] >= MOST_WEIGHT) {
                return false;
            }
            cells[WEIGHT + debt] = Math.min(MOST_WEIGHT, cells[WEIGHT + debt] + n);
            return true;
        }

        boolean give(int from, int to, int n) {
            if (from == to || !isHouse(from) || !isHouse(to) || crock(from) < n) {
                return false;
            }
            cells[CROCK + from] -= n;
            cells[CROCK + to] = Math.min(MOST_CROCK, crock(to) + n);
            return true;
        }

        boolean rain(int n) {
            if (water() >= MOST_WATER) {
                return false;
            }
            cells[WATER] = Math.min(MOST_WATER, water() + n);
            return true;
        }

        boolean workDay() {
            if (day() >= LAST_DAY) {
                return false;
            }
            passDay();
            return true;
        }

        void passDay() {
            for (int h = 0; h < valley.houses; h++) {
                int left = cells[CROCK + h] - valley.mouths[h];
                cells[CROCK + h] = Math.max(0, left);
                cells[HUNGER + h] = left >= 0 ? 0 : Math.min(MOST_HUNGER, cells[HUNGER + h] - left);
            }
            for (int d = 0; d < valley.debts; d++) {
                cells[AGE + d] += isThere(d) ? 1 : 0;
            }
            cells[DAY]++;
        }

        int daysFed(int house) {
            if (!isHouse(house) || valley.mouths[house] <= 0) {
                return 0;
            }
            return Math.min(99, crock(house) / valley.mouths[house]);
        }

        int hungry() {
            int bits = 0;
            for (int h = 0; h < valley.houses; h++) {
                bits |= hunger(h) > 0 ? 1 << h : 0;
            }
            return bits;
        }

        int hungerTogether() {
            int sum = 0;
            for (int h = 0; h < valley.houses; h++) {
                sum += hunger(h);
            }
            return sum;
        }

        int crocksTogether() {
            int sum = 0;
            for (int h = 0; h < valley.houses; h++) {
                sum += crock(h);
            }
            return sum;
        }

        int weightsTogether() {
            int sum = 0;
            for (int d = 0; d < valley.debts; d++) {
                sum += cells[WEIGHT + d];
            }
            return sum;
        }

        int floursTogether() {
            int sum = 0;
            for (int d = 0; d < valley.debts; d++) {
                sum += flour(d);
            }
            return sum;
        }

        int grindable() {
            int bits = 0;
            for (int d = 0; d < valley.debts; d++) {
                bits |= canGrind(d) ? 1 << d : 0;
            }
            return bits;
        }

        int debtsOf(int house) {
            int bits = 0;
            for (int d = 0; d < valley.debts; d++) {
                bits |= isThere(d) && valley.debtor[d] == house ? 1 << d : 0;
            }
            return bits;
        }

        int owedBy(int house) {
            int sum = 0;
            for (int d = 0; d < valley.debts; d++) {
                sum += valley.debtor[d] == house ? cells[WEIGHT + d] : 0;
            }
            return sum;
        }

        int owedTo(int house) {
            int sum = 0;
            for (int d = 0; d < valley.debts; d++) {
                sum += valley.creditor[d] == house ? cells[WEIGHT + d] : 0;
            }
            return sum;
        }

        int owedBetween(int from, int to) {
            int sum = 0;
            for (int d = 0; d < valley.debts; d++) {
                sum += valley.debtor[d] == from && valley.creditor[d] == to ? cells[WEIGHT + d] : 0;
            }
            return sum;
        }

        /** The houses (bits) that one or more of these houses (bits) owe. */
        private int owedByAny(int houses) {
            int bits = 0;
            for (int d = 0; d < valley.debts; d++) {
                if (isThere(d) && (houses & (1 << valley.debtor[d])) != 0) {
                    bits |= 1 << valley.creditor[d];
                }
            }
            return bits;
        }

        int shortestRing(int house) {
            int reached = 1 << house;
            for (int length = 1; length <= MOST_HOUSES; length++) {
                reached = owedByAny(reached);
                if ((reached & (1 << house)) != 0) {
                    return length;
                }
            }
            return NONE;
        }

        int entangled(int house) {
            int reached = 1 << house;
            for (int i = 0; i < MOST_HOUSES; i++) {
                reached |= owedByAny(reached);
            }
            return reached;
        }
    }

    /** A WORK as it was read: rows of a step and what stands behind its word. */
    private static final class Steps {
        private static final String WORDS = "grind forgive swell give rain day again";
        private static final int GRIND = 0;
        private static final int FORGIVE = 1;
        private static final int SWELL = 2;
        private static final int GIVE = 3;
        private static final int RAIN = 4;
        private static final int DAY = 5;
        private static final int AGAIN = 6;
        private static final int MOST_BEGUN = 200;
        // The shortest step, "day;", has four bytes.
        private static final int MOST_ROWS = WORK_BYTES / 4 + 1;

        private final int[] step = new int[MOST_ROWS];
        private final int[] one = new int[MOST_ROWS];
        private final int[] two = new int[MOST_ROWS];
        private final int[] three = new int[MOST_ROWS];
        private int rows = 0;
        private int begun = 0;
        private int done = 0;
        private int refused = 0;

        void read(Text text, Valley valley) {
            rows = 0;
            readSteps(text, valley, 0);
        }

        private void readSteps(Text text, Valley valley, int open) {
            for (int i = 0; i < MOST_ROWS && text.sound(); i++) {
                boolean over = open == 0 ? text.ended() : text.sees(']');
                if (over) {
                    return;
                }
                readStep(text, valley, open);
                text.needs(';');
            }
        }

        private void readStep(Text text, Valley valley, int open) {
            int word = text.word(WORDS);
            if (!text.sound() || rows >= MOST_ROWS) {
                return;
            }
            int row = rows;
            rows++;
            step[row] = word;
            switch (word) {
                case GRIND:
                case FORGIVE:
                    one[row] = text.number(0, valley.debts - 1);
                    break;
                case SWELL:
                    one[row] = text.number(0, valley.debts - 1);
                    two[row] = text.number(1, 30);
                    break;
                case GIVE:
                    one[row] = text.number(0, valley.houses - 1);
                    two[row] = text.number(0, valley.houses - 1);
                    three[row] = text.number(1, 99);
                    break;
                case RAIN:
                    one[row] = text.number(1, 40);
                    break;
                case AGAIN:
                    readAgain(text, valley, open, row);
                    break;
                default:
                    break;
            }
        }

        private void readAgain(Text text, Valley valley, int open, int row) {
            if (open >= MOST_OPEN) {
                text.fail(TOO_MANY);
                return;
            }
            one[row] = text.number(0, 60);
            text.needs('[');
            readSteps(text, valley, open + 1);
            text.needs(']');
            two[row] = rows;
        }

        void perform(Mill mill) {
            begun = 0;
            done = 0;
            refused = 0;
            performRows(mill, 0, rows, 0);
        }

        private void performRows(Mill mill, int from, int to, int open) {
            int row = from;
            for (int i = from; i < to && row < to && row < MOST_ROWS && begun < MOST_BEGUN; i++) {
                begun++;
                if (step[row] == AGAIN) {
                    performAgain(mill, row, open);
                    row = Math.max(row + 1, two[row]);
                } else {
                    if (isDone(mill, row)) {
                        done++;
                    } else {
                        refused++;
                    }
                    row++;
                }
            }
        }

        private void performAgain(Mill mill, int row, int open) {
            if (open >= MOST_OPEN) {
                return;
            }
            for (int times = 0; times < one[row] && begun < MOST_BEGUN; times++) {
                performRows(mill, row + 1, two[row], open + 1);
            }
        }

        private boolean isDone(Mill mill, int row) {
            switch (step[row]) {
                case GRIND: return mill.grind(one[row]) != NONE;
                case FORGIVE: return mill.forgive(one[row]);
                case SWELL: return mill.swell(one[row], two[row]);
                case GIVE: return mill.give(one[row], two[row], three[row]);
                case RAIN: return mill.rain(one[row]);
                case DAY: return mill.workDay();
                default: return false;
            }
        }
    }

    /** The mill as it is, the rows it had ahead of each WORK, and images of both. */
    private static final class Nights {
        private static final int IMAGE_ROWS = Mill.ROW * (1 + MOST_WORKS);

        private final Mill mill;
        private final int[] workRows = new int[Mill.ROW * MOST_WORKS];
        private final int[] imageRows = new int[IMAGE_ROWS * MOST_IMAGES];
        private final int[] imageWorks = new int[MOST_IMAGES];
        private int works = 0;
        private int images = 0;
        private int refused = 0;

        Nights(Mill mill) {
            this.mill = mill;
        }

        void begin() {
            works = 0;
            images = 0;
            refused = 0;
            mill.begin();
        }

        boolean isFull() {
            return works >= MOST_WORKS;
        }

        void keepForUndo() {
            if (!isFull()) {
                System.arraycopy(mill.cells, 0, workRows, Mill.ROW * works, Mill.ROW);
                works++;
            }
        }

        int takeBack() {
            if (works <= 0) {
                return NONE;
            }
            works--;
            System.arraycopy(workRows, Mill.ROW * works, mill.cells, 0, Mill.ROW);
            refused = 0;
            return works;
        }

        int keepImage() {
            if (images >= MOST_IMAGES) {
                return NONE;
            }
            int from = IMAGE_ROWS * images;
            System.arraycopy(mill.cells, 0, imageRows, from, Mill.ROW);
            System.arraycopy(workRows, 0, imageRows, from + Mill.ROW, Mill.ROW * works);
            imageWorks[images] = works;
            images++;
            return images;
        }

        int bringBack() {
            if (images <= 0) {
                return NONE;
            }
            images--;
            works = imageWorks[images];
            int from = IMAGE_ROWS * images;
            System.arraycopy(imageRows, from, mill.cells, 0, Mill.ROW);
            System.arraycopy(imageRows, from + Mill.ROW, workRows, 0, Mill.ROW * works);
            refused = 0;
            return images;
        }
    }

    /** Sums over sets of debts, held by halves so that a set's sum is one addition. */
    private static final class Sums {
        private static final int HALF = MOST_DEBTS / 2;
        private static final int HALF_SETS = 1 << HALF;

        private final int[] low = new int[HALF_SETS];
        private final int[] high = new int[HALF_SETS];

        void set(int[] values) {
            if (values.length < MOST_DEBTS) {
                return;
            }
            for (int half = 1; half < HALF_SETS; half++) {
                int last = Integer.numberOfTrailingZeros(half);
                int rest = half & (half - 1);
                low[half] = low[rest] + values[last];
                high[half] = high[rest] + values[HALF + last];
            }
        }

        int of(int debts) {
            return low[debts & (HALF_SETS - 1)] + high[(debts >> HALF) & (HALF_SETS - 1)];
        }
    }

    /** Questions that look through sets of the debts that are there. */
    private static final class Sets {
        private final Valley valley;
        private final Mill mill;
        private final Book book;
        private final int[] values = new int[MOST_DEBTS];
        private final Sums flours = new Sums();
        private final Sums drinks = new Sums();
        private final int[] tally = new int[MOST_DEBTS * MOST_FLOUR + 1];
        private int many = 0;
        private int first = NONE;
        private int sure = 0;
        private int bestHouse = NONE;
        private int bestLeft = NONE;

        Sets(Valley valley, Mill mill, Book book) {
            this.valley = valley;
            this.mill = mill;
            this.book = book;
        }

        private void weighFlours() {
            for (int d = 0; d < MOST_DEBTS; d++) {
                values[d] = mill.flour(d);
            }
            flours.set(values);
        }

        private void weighDrinks() {
            for (int d = 0; d < MOST_DEBTS; d++) {
                values[d] = mill.drinks(d);
            }
            drinks.set(values);
        }

        private static int setsOf(int debts) {
            return 1 << Integer.bitCount(debts);
        }

        /** The set behind this one among those of all, the bits growing; behind the last one the empty one. */
        private static int next(int set, int all) {
            return (set - all) & all;
        }

        int floursOf(int set) {
            return flours.of(set);
        }

        int fewestFor(int house, int wanted) {
            weighFlours();
            weighDrinks();
            int all = mill.debtsOf(house);
            int missing = wanted - mill.crock(house);
            int best = NONE;
            int fewest = MOST_DEBTS + 1;
            int sets = setsOf(all);
            int set = 0;
            for (int i = 0; i < sets; i++) {
                if (flours.of(set) >= missing && drinks.of(set) <= mill.water() && Integer.bitCount(set) < fewest) {
                    best = set;
                    fewest = Integer.bitCount(set);
                }
                set = next(set, all);
            }
            return best;
        }

        int richest() {
            weighFlours();
            weighDrinks();
            int all = mill.there();
            int best = 0;
            int sets = setsOf(all);
            int set = 0;
            for (int i = 0; i < sets; i++) {
                if (drinks.of(set) <= mill.water() && isRicher(set, best)) {
                    best = set;
                }
                set = next(set, all);
            }
            return best;
        }

        private boolean isRicher(int set, int best) {
            int more = flours.of(set) - flours.of(best);
            return more > 0 || more == 0 && Integer.bitCount(set) < Integer.bitCount(best);
        }

        int waysTo(int flour) {
            weighFlours();
            int all = mill.there();
            int ways = 0;
            int sets = setsOf(all);
            int set = 0;
            for (int i = 0; i < sets; i++) {
                ways += flours.of(set) == flour ? 1 : 0;
                set = next(set, all);
            }
            return ways;
        }

        /** Each debt fills one house's crock alone, so what fits a house can be chosen by itself. */
        void search() {
            weighFlours();
            many = 1;
            first = 0;
            sure = 0;
            for (int h = 0; h < valley.houses; h++) {
                if (book.lists(h)) {
                    searchHouse(mill.debtsOf(h), book.came[h]);
                } else {
                    many *= setsOf(mill.debtsOf(h));
                }
            }
            if (many == 0) {
                first = NONE;
                sure = 0;
            }
        }

        private void searchHouse(int all, int came) {
            int fitting = 0;
            int least = 0;
            int common = all;
            int sets = setsOf(all);
            int set = 0;
            for (int i = 0; i < sets; i++) {
                if (flours.of(set) == came) {
                    least = fitting == 0 ? set : least;
                    common &= set;
                    fitting++;
                }
                set = next(set, all);
            }
            many *= fitting;
            first |= least;
            sure |= common;
        }

        void choose() {
            search();
            bestHouse = NONE;
            bestLeft = NONE;
            for (int h = 0; h < valley.houses; h++) {
                if (!book.lists(h)) {
                    weighHouse(h);
                }
            }
        }

        private void weighHouse(int house) {
            int all = mill.debtsOf(house);
            int ofOthers = many >> Integer.bitCount(all);
            int left = ofOthers * greatestTally(all);
            if (bestHouse == NONE || left < bestLeft) {
                bestHouse = house;
                bestLeft = left;
            }
        }

        /** How many sets of all have the flour that most of them have. */
        private int greatestTally(int all) {
            Arrays.fill(tally, 0);
            int greatest = 0;
            int sets = setsOf(all);
            int set = 0;
            for (int i = 0; i < sets; i++) {
                int flour = flours.of(set);
                if (flour >= 0 && flour < tally.length) {
                    tally[flour]++;
                    greatest = Math.max(greatest, tally[flour]);
                }
                set = next(set, all);
            }
            return greatest;
        }
    }

    /** Years by a seed, lived on a mill that only questions use. */
    private static final class Seasons {
        private final Valley valley;
        private final Mill mill;
        private int seed = 0;
        private int flour = 0;

        Seasons(Valley valley, Mill mill) {
            this.valley = valley;
            this.mill = mill;
        }

        void live(Mill from, int start, int days, int q) {
            mill.takeFrom(from);
            seed = start;
            flour = 0;
            for (int i = 0; i < days; i++) {
                if (valley.debts > 0) {
                    liveNight(q);
                }
                mill.passDay();
            }
        }

        private void liveNight(int q) {
            flour += Math.max(0, mill.grind(drawn(valley.debts)));
            if (drawn(16) < q) {
                mill.rain(5);
            }
            mill.swell(drawn(valley.debts), 3);
        }

        private int drawn(int by) {
            seed = seed * 1103515245 + 12345;
            return by <= 0 ? 0 : (seed >>> 16 & 0x7FFF) % by;
        }
    }
}
