import java.nio.charset.StandardCharsets;
import java.util.Arrays;
import java.util.NoSuchElementException;

/** What the project's tests share: answers that are due, calls that must be refused, texts on the tape. */
final class Check {
    interface Call {
        long answer();
    }

    private static int wrong = 0;

    private Check() {
    }

    static void due(String call, long got, long want) {
        if (got != want) {
            tell(call + " answered " + got + ", due is " + want);
        }
    }

    static void due(String call, boolean got, boolean want) {
        due(call, got ? 1 : 0, want ? 1 : 0);
    }

    static void missing(String call, Call run) {
        due(call + " (2: NoSuchElementException)", outcome(run), 2);
    }

    static void refused(String call, Call run) {
        due(call + " (1: IllegalArgumentException)", outcome(run), 1);
    }

    /** 0 an answer, 1 IllegalArgumentException, 2 NoSuchElementException; nothing else is ever due. */
    static int outcome(Call run) {
        try {
            run.answer();
            return 0;
        } catch (IllegalArgumentException e) {
            return e.getClass() == IllegalArgumentException.class ? 1 : 3;
        } catch (NoSuchElementException e) {
            return e.getClass() == NoSuchElementException.class ? 2 : 3;
        }
    }

    static void tell(String line) {
        wrong++;
        if (wrong <= 50) {
            System.out.println(line);
        }
    }

    static int wrong() {
        return wrong;
    }

    static void end() {
        if (wrong != 0) {
            System.out.println(wrong + " answers are not as due");
            System.exit(1);
        }
    }

    /** Feeds the text, the last twenty filled up with bytes of 0; answers its length. */
    static int feed(DebtMiller x, String text) {
        byte[] bytes = text.getBytes(StandardCharsets.ISO_8859_1);
        byte[] whole = Arrays.copyOf(bytes, (bytes.length + 19) / 20 * 20);
        for (int i = 0; i < whole.length; i += 20) {
            x.feed(number(whole, i), number(whole, i + 4), number(whole, i + 8), number(whole, i + 12), number(whole, i + 16));
        }
        return bytes.length;
    }

    private static int number(byte[] bytes, int at) {
        return (bytes[at] & 255) << 24 | (bytes[at + 1] & 255) << 16 | (bytes[at + 2] & 255) << 8 | bytes[at + 3] & 255;
    }

    static int valley(DebtMiller x, String text) {
        return x.valley(feed(x, text));
    }

    static int law(DebtMiller x, String text) {
        return x.law(feed(x, text));
    }

    static int work(DebtMiller x, String text) {
        return x.work(feed(x, text));
    }

    static int book(DebtMiller x, String text) {
        return x.book(feed(x, text));
    }

    /** What can be asked of the valley as it is: told (but for the refused steps), houses, debts; up to some 150 calls. */
    static String valleySeen(DebtMiller x) {
        StringBuilder b = new StringBuilder();
        for (int what = 0; what < 12; what++) {
            b.append(what == 10 ? 0 : x.told(what)).append(' ');
        }
        for (int h = 0; h < x.told(0); h++) {
            for (int what = 0; what < 8; what++) {
                b.append(x.house(h, what)).append(' ');
            }
        }
        for (int d = 0; d < x.told(1); d++) {
            for (int what = 0; what < 7; what++) {
                b.append(x.debt(d, what)).append(' ');
            }
        }
        return b.append(x.ground(0)).append(' ').append(x.ground(2)).toString();
    }

    /** All that can be seen of an object, but for fault() and status. */
    static String seen(DebtMiller x) {
        return valleySeen(x) + " / " + x.told(10) + " " + x.count(0) + " " + x.count(1) + " " + x.count(2);
    }

    static void same(String call, String got, String want) {
        if (!got.equals(want)) {
            tell(call + ": was " + want + ", became " + got);
        }
    }

    static DebtMiller with(String valley) {
        DebtMiller x = new DebtMiller();
        if (valley(x, valley) < 0) {
            tell("a valley that should stand: " + valley + ", fault at " + x.fault());
        }
        return x;
    }
}
