import java.util.function.Consumer;
import java.util.function.Supplier;

/** What the tests share: checks that print what is wrong, and a bank to check it on. */
final class Checks {
    private static int wrong = 0;

    private Checks() {
    }

    static void due(String call, long got, long want) {
        if (got != want) {
            wrong(call + " answered " + got + ", due is " + want);
        }
    }

    static void due(String call, double got, double want) {
        if (got != want) {
            wrong(call + " answered " + got + ", due is " + want);
        }
    }

    static void due(String call, boolean got, boolean want) {
        if (got != want) {
            wrong(call + " answered " + got + ", due is " + want);
        }
    }

    static void due(String call, String got, String want) {
        if (!got.equals(want)) {
            wrong(call + " answered " + got + ", due is " + want);
        }
    }

    static void wrong(String text) {
        wrong++;
        System.out.println(text);
    }

    /** The call throws no such number, and changes nothing. */
    static void noIndex(String call, Supplier<ChequeSerials> bank, Consumer<ChequeSerials> run) {
        thrown(call, IndexOutOfBoundsException.class, bank, run);
    }

    /** The call throws a bad argument, and changes nothing. */
    static void noArgument(String call, Supplier<ChequeSerials> bank, Consumer<ChequeSerials> run) {
        thrown(call, IllegalArgumentException.class, bank, run);
    }

    /** The call throws a bad state, and changes nothing. */
    static void noState(String call, Supplier<ChequeSerials> bank, Consumer<ChequeSerials> run) {
        thrown(call, IllegalStateException.class, bank, run);
    }

    private static void thrown(String call, Class<? extends RuntimeException> want,
            Supplier<ChequeSerials> bank, Consumer<ChequeSerials> run) {
        ChequeSerials x = bank.get();
        try {
            run.accept(x);
            wrong(call + " throws nothing, due is " + want.getName());
        } catch (RuntimeException e) {
            if (e.getClass() != want) {
                wrong(call + " throws " + e + ", due is " + want.getName());
            }
        }
        due(call + " leaves the bank", picture(x), picture(bank.get()));
    }

    /** All that shows of a bank, and of the states behind it as undo brings them back. */
    static String picture(ChequeSerials x) {
        StringBuilder text = new StringBuilder();
        text.append(x.firstError()).append(' ').append(x.count(11)).append(' ');
        int saved = x.count(10);
        for (int depth = 0; depth <= saved; depth++) {
            for (int what = 0; what <= 17; what++) {
                if (what != 11) {
                    text.append(x.count(what)).append(' ');
                }
            }
            for (int book = 0; book < x.count(0); book++) {
                text.append(x.bookOf(book, 0)).append(' ').append(x.bookOf(book, 1)).append(' ');
                text.append(x.bookOf(book, 8)).append(' ');
            }
            if (depth < saved) {
                x.undo();
            }
        }
        return text.toString();
    }

    /** Two books, 500 to 509 and 100 to 104: some cheques written, one cashed, one void. */
    static ChequeSerials example() {
        ChequeSerials x = new ChequeSerials();
        x.book(500, 10);
        x.book(100, 5);
        x.write(500, 10);
        x.write(501, 20);
        x.write(503, 40);
        x.write(100, 999);
        x.cash(500, x.letter(500));
        x.voidRun(504, 504);
        return x;
    }

    static void type(ChequeSerials x, String text) {
        for (int i = 0; i < text.length(); i++) {
            x.append(text.charAt(i));
        }
    }

    static void end() {
        if (wrong != 0) {
            System.out.println(wrong + " answers are not as due");
            System.exit(1);
        }
    }
}
