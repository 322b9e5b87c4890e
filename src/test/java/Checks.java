import java.util.function.Consumer;
import java.util.function.Supplier;

/** What the tests share: checks that print what is wrong, and a bank to check it on. */
final class Checks {
    private static int wrong = 0;
    private static String sentence = "";

    private Checks() {
    }

    /** What the checks from now on are about; it is told once, ahead of the first that is wrong. */
    static void about(String words) {
        sentence = words;
    }

    static int wrongs() {
        return wrong;
    }

    static void due(String call, long got, long want) {
        if (got != want) {
            wrong(call + " answered " + got + ", due is " + want);
        }
    }

    static void due(String call, double got, double want) {
        if (got != want) {
            wrong(call + " answered " + got + ", due is " + want);
        }
    }

    static void due(String call, boolean got, boolean want) {
        if (got != want) {
            wrong(call + " answered " + got + ", due is " + want);
        }
    }

    static void due(String call, String got, String want) {
        if (!got.equals(want)) {
            wrong(call + " answered " + got + ", due is " + want);
        }
    }

    static void wrong(String text) {
        wrong++;
        if (!sentence.isEmpty()) {
            System.out.println("BROKEN " + sentence);
            sentence = "";
        }
        System.out.println(text);
    }

    /** The call throws no such number, and changes nothing. */
    static void noIndex(String call, Supplier<ChequeSerials> bank, Consumer<ChequeSerials> run) {
        thrown(call, IndexOutOfBoundsException.class, bank, run);
    }

    /** The call throws a bad argument, and changes nothing. */
    static void noArgument(String call, Supplier<ChequeSerials> bank, Consumer<ChequeSerials> run) {
        thrown(call, IllegalArgumentException.class, bank, run);
    }

    /** The call throws a bad state, and changes nothing. */
    static void noState(String call, Supplier<ChequeSerials> bank, Consumer<ChequeSerials> run) {
        thrown(call, IllegalStateException.class, bank, run);
    }

    /** The call on the busy bank is undone by one undo(), and by nothing less. */
    static void undone(String call, Consumer<ChequeSerials> run) {
        ChequeSerials x = busy();
        x.undo();
        String before = state(x);
        run.accept(x);
        due("saved states after " + call, x.count(10), 6);
        due("undo() of " + call, x.undo(), 5);
        due("the state after undo() of " + call, state(x), before);
    }

    private static void thrown(String call, Class<? extends RuntimeException> want,
            Supplier<ChequeSerials> bank, Consumer<ChequeSerials> run) {
        try {
            run.accept(bank.get());
            wrong(call + " throws nothing, due is " + want.getName());
        } catch (RuntimeException e) {
            if (e.getClass() != want) {
                wrong(call + " throws " + e + ", due is " + want.getName());
            }
        }
        due(call + " leaves the bank", picture(() -> after(bank, run)), picture(bank));
    }

    private static ChequeSerials after(Supplier<ChequeSerials> bank, Consumer<ChequeSerials> run) {
        ChequeSerials x = bank.get();
        try {
            run.accept(x);
        } catch (RuntimeException e) {
            return x;
        }
        return x;
    }

    /**
     * All that shows of a bank: its state, the states behind it as undo brings them back, its
     * snapshots, and what the orders in its buffer do. It is made anew for each of these, as an
     * object is good for 512 calls alone.
     */
    static String picture(Supplier<ChequeSerials> bank) {
        ChequeSerials x = bank.get();
        StringBuilder text = new StringBuilder();
        text.append("buffer ").append(x.firstError()).append(" of ").append(x.count(11));
        int saved = x.count(10);
        text.append(", now ").append(state(x));
        for (int depth = 1; depth <= saved; depth++) {
            x = bank.get();
            for (int undone = 0; undone < depth; undone++) {
                x.undo();
            }
            text.append(", saved ").append(state(x));
        }
        for (int slot = 0; slot <= 1; slot++) {
            text.append(", slot ").append(slot).append(' ').append(snapshot(bank.get(), slot));
        }
        return text.append(", orders ").append(orders(bank.get())).toString();
    }

    /** All that shows of the state itself; of many cheques just some. */
    static String state(ChequeSerials x) {
        StringBuilder text = new StringBuilder();
        for (int what = 0; what <= 17; what++) {
            if (what != 10 && what != 11) {
                text.append(x.count(what)).append(' ');
            }
        }
        int books = x.count(0);
        for (int book = 0; book < books; book++) {
            for (int what = 0; what <= 8; what++) {
                text.append(what == 0 ? "book " : "").append(x.bookOf(book, what)).append(' ');
            }
        }
        int cheques = x.count(1);
        for (int rank = 0; rank < cheques; rank += 1 + cheques / 60) {
            int serial = x.ranked(rank);
            text.append(serial).append(' ').append(x.cheque(serial, 0)).append(' ');
            text.append(x.cheque(serial, 1)).append(' ');
        }
        return text.toString();
    }

    private static String snapshot(ChequeSerials x, int slot) {
        try {
            x.goBack(slot);
            return state(x);
        } catch (IllegalStateException e) {
            return "empty";
        }
    }

    /** An order text that lacks its last number gets one. */
    private static String orders(ChequeSerials x) {
        try {
            return x.execute() + " done " + state(x);
        } catch (IllegalArgumentException e) {
            if (x.count(11) >= 60 || x.append('1') < 1) {
                return "full";
            }
        }
        try {
            return x.execute() + " done with a 1 " + state(x);
        } catch (IllegalArgumentException e) {
            return "none";
        }
    }

    /** Two books, 500 to 509 and 100 to 104: some cheques written, one cashed, one void. */
    static ChequeSerials example() {
        ChequeSerials x = new ChequeSerials();
        x.book(500, 10);
        x.book(100, 5);
        x.write(500, 10);
        x.write(501, 20);
        x.write(503, 40);
        x.write(100, 999);
        x.cash(500, x.letter(500));
        x.voidRun(504, 504);
        return x;
    }

    /** The example, with letters of its own, a refusal, one snapshot, and an order typed. */
    static ChequeSerials busy() {
        ChequeSerials x = example();
        x.weight(5, 8);
        x.modulus(13);
        x.keep(0);
        x.cash(7, 0);
        type(x, "w000505=");
        return x;
    }

    /** A bank with six books of one cheque each: 10, 20 and so on to 60. */
    static ChequeSerials sixBooks() {
        ChequeSerials x = new ChequeSerials();
        for (int serial = 10; serial <= 60; serial += 10) {
            x.book(serial, 1);
        }
        return x;
    }

    /** A bank with these weights, as many as are given, and a modulus. */
    static ChequeSerials lettered(int modulus, int... weights) {
        ChequeSerials x = new ChequeSerials();
        x.modulus(modulus);
        for (int position = 0; position < weights.length; position++) {
            x.weight(position, weights[position]);
        }
        return x;
    }

    static ChequeSerials typed(String text) {
        ChequeSerials x = new ChequeSerials();
        type(x, text);
        return x;
    }

    static void undoAll(ChequeSerials x) {
        for (int left = x.count(10); left > 0; left--) {
            x.undo();
        }
    }

    static void type(ChequeSerials x, String text) {
        for (int i = 0; i < text.length(); i++) {
            x.append(text.charAt(i));
        }
    }

    static void end() {
        if (wrong != 0) {
            System.out.println(wrong + " answers are not as due");
            System.exit(1);
        }
    }
}
