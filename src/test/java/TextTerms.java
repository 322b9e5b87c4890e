import java.util.LinkedHashMap;
import java.util.Map;
import java.util.function.Consumer;

/** The document's terms "Order text", "Undo and snapshots" and "Exceptions", with their tests. */
final class TextTerms {
    private static final String DIGITS = "0123456789";
    private static final String ALPHABET = "ABCDEFGHIJKLMNOPQRSTUVWXYZ";
    private static final int MOST = Integer.MAX_VALUE;
    private static final int LEAST = Integer.MIN_VALUE;

    private TextTerms() {
    }

    static void all() {
        whatItIs();
        orderText();
        undoAndSnapshots();
        exceptions();
        interfaceLines();
    }

    // ---- What it is

    private static void whatItIs() {
        Sentences.section("What it is");
        Sentences.holds("An object is used for at most 512 calls after it has been made;", () -> {
            ChequeSerials x = new ChequeSerials();
            for (int call = 1; call <= 511; call++) {
                Checks.due("the refusal " + call, x.cash(0, 25), -1);
            }
            Checks.due("the refusals, told by the call 512", x.count(8), 511);
            ChequeSerials y = new ChequeSerials();
            for (int round = 0; round < 10; round++) {
                for (int call = 0; call < 50; call++) {
                    y.append('b');
                }
                y.clearBuffer();
            }
            y.modulus(26);
            Checks.due("undo() as the call 512", y.undo(), 0);
        });
    }

    // ---- Order text

    private static void orderText() {
        Sentences.section("Order text");
        Sentences.holds("The buffer holds at most 60 characters.", TextTerms::atMost60Characters);
        Sentences.holds("It is empty at first.", TextTerms::emptyAtFirst);
        Sentences.holds("An order text is one or more orders with \";\" between them.",
                TextTerms::ordersWithSemicolons);
        Sentences.holds("An order is: \"b\", six digits, \"+\", and a number from 1 to 40 (as"
                + " book());", TextTerms::bookOrders);
        Sentences.holds("or \"w\", six digits, \"=\", and an amount from 1 to 999 (as write());",
                TextTerms::writeOrders);
        Sentences.holds("or \"c\", six digits, and a letter from A to Z (as cash());",
                TextTerms::cashOrders);
        Sentences.holds("or \"v\", six digits, \"-\", and six digits (as voidRun()).",
                TextTerms::voidOrders);
        Sentences.holds("Numbers other than the six digits have no leading zeros.",
                TextTerms::noLeadingZeros);
        Sentences.holds("The first error of the buffer is the index of the first character that no"
                + " order text can have after the characters before it.", TextTerms::firstError);
    }

    private static void atMost60Characters() {
        ChequeSerials x = new ChequeSerials();
        Checks.type(x, "b000000+9;w000000=1;c000000A;w000001=5;b000010+10;b000030+10");
        Checks.due("60 characters", x.count(11), 60);
        Checks.due("the first error of 60", x.firstError(), 60);
        Checks.due("execute() of 60", x.execute(), 6);
        Checks.due("the cheques of its last order", x.bookOf(2, 1), 10);
        Checks.noState("the 61st character", () -> Checks.typed("b".repeat(60)),
                y -> y.append('b'));
        Checks.due("the 60th character", Checks.typed("b".repeat(59)).append('b'), 60);
    }

    private static void emptyAtFirst() {
        ChequeSerials x = new ChequeSerials();
        Checks.due("the length at first", x.count(11), 0);
        Checks.due("the first error at first", x.firstError(), 0);
        Checks.noArgument("execute() at first", ChequeSerials::new, y -> y.execute());
        Checks.due("clearBuffer() at first", x.clearBuffer(), 0);
        Checks.due("the first append()", x.append('c'), 1);
    }

    private static void ordersWithSemicolons() {
        Checks.noArgument("execute() of no order", Checks::example, y -> y.execute());
        String one = "v000000-000000";
        for (int orders = 1; orders <= 4; orders++) {
            String text = (one + ";").repeat(orders - 1) + one;
            Checks.due("execute() of " + text, Checks.typed(text).execute(), orders);
            Checks.noArgument("execute() of " + text + ";", () -> Checks.typed(text + ";"),
                    y -> y.execute());
            Checks.due("firstError() of " + text + ";", Checks.typed(text + ";").firstError(),
                    text.length() + 1);
            follows(text, ";");
            if (orders < 4) {
                follows(text + ";", "bwcv");
            }
        }
        follows("", "bwcv");
        Checks.noArgument("execute() of ;", () -> Checks.typed(";"), y -> y.execute());
        Checks.noArgument("execute() of ;" + one, () -> Checks.typed(";" + one), y -> y.execute());
        Checks.noArgument("execute() of two without a sign between", () -> Checks.typed(one + one),
                y -> y.execute());
    }

    /** Behind the characters before it, just these can stand. */
    private static void follows(String before, String due) {
        for (int code = 33; code <= 126; code++) {
            Checks.due("firstError() of " + before + (char) code,
                    Checks.typed(before + (char) code).firstError(),
                    before.length() + (due.indexOf(code) >= 0 ? 1 : 0));
        }
    }

    private static void sixDigitsFollow(String before) {
        String text = before;
        for (int digit = 0; digit < 6; digit++) {
            follows(text, DIGITS);
            text += 9 - digit;
        }
    }

    private static void bookOrders() {
        sixDigitsFollow("b");
        follows("b000500", "+");
        follows("b000500+", "123456789");
        for (int number = 1; number <= 40; number++) {
            follows("b000500+" + number, number < 4 ? DIGITS + ";" : number == 4 ? "0;" : ";");
            ChequeSerials x = Checks.typed("b000500+" + number);
            Checks.due("execute() of a book of " + number, x.execute(), 1);
            Checks.due("its first serial", x.bookOf(0, 0), 500);
            Checks.due("its cheques", x.bookOf(0, 1), number);
        }
        incomplete("b", "b0", "b000500", "b000500+");
    }

    private static void incomplete(String... texts) {
        for (String text : texts) {
            Checks.due("firstError() of " + text, Checks.typed(text).firstError(), text.length());
            Checks.noArgument("execute() of " + text, () -> Checks.typed(text), y -> y.execute());
        }
    }

    private static void writeOrders() {
        sixDigitsFollow("w");
        follows("w000500", "=");
        follows("w000500=", "123456789");
        for (int amount : new int[] {1, 9, 10, 99, 100, 101, 998, 999}) {
            follows("w000500=" + amount, amount < 100 ? DIGITS + ";" : ";");
            ChequeSerials x = Checks.typed("w000500=" + amount);
            x.book(500, 1);
            Checks.due("execute() of the amount " + amount, x.execute(), 1);
            Checks.due("the kind", x.cheque(500, 0), 1);
            Checks.due("the amount", x.cheque(500, 1), amount);
        }
        incomplete("w", "w00050", "w000500", "w000500=");
    }

    private static void cashOrders() {
        sixDigitsFollow("c");
        follows("c000500", ALPHABET);
        for (int letter = 0; letter <= 25; letter++) {
            String text = "c000500" + ALPHABET.charAt(letter);
            follows(text, ";");
            ChequeSerials x = Checks.typed(text);
            x.book(500, 1);
            x.write(500, 6);
            int due = letter == x.letter(500) ? 1 : 0;
            Checks.due("execute() of " + text, x.execute(), due);
            Checks.due("the kind after " + text, x.cheque(500, 0), 1 + due);
            Checks.due("refusals after " + text, x.count(8), 1 - due);
        }
        incomplete("c", "c00050", "c000500");
    }

    private static void voidOrders() {
        sixDigitsFollow("v");
        follows("v000500", "-");
        sixDigitsFollow("v000500-");
        follows("v000500-999999", ";");
        ChequeSerials x = Checks.typed("v000501-000502");
        x.book(500, 4);
        Checks.due("execute() of a run", x.execute(), 1);
        for (int serial = 500; serial <= 503; serial++) {
            boolean within = serial == 501 || serial == 502;
            Checks.due("the kind of " + serial, x.cheque(serial, 0), within ? 3 : 0);
        }
        Checks.type(x, "v000000-999999");
        Checks.due("execute() of all", x.execute(), 1);
        Checks.due("void cheques", x.count(5), 4);
        Checks.type(x, "v000500-000503");
        Checks.due("execute() of a run that changes nothing", x.execute(), 1);
        incomplete("v", "v000500", "v000500-", "v000500-00050");
    }

    private static void noLeadingZeros() {
        for (String head : new String[] {"b000001+", "w000001="}) {
            for (String number : new String[] {"0", "01", "007", "00"}) {
                Checks.due("firstError() of " + head + number,
                        Checks.typed(head + number).firstError(), 8);
                Checks.noArgument("execute() of " + head + number,
                        () -> Checks.typed(head + number), y -> y.execute());
            }
            for (String number : new String[] {"1", "10", "20", "40"}) {
                Checks.due("firstError() of " + head + number,
                        Checks.typed(head + number).firstError(), 8 + number.length());
            }
        }
        Checks.due("firstError() of w000001=100", Checks.typed("w000001=100").firstError(), 11);
        for (String text : new String[] {"b000000+1", "v000000-000000", "v000001-000002"}) {
            Checks.due("execute() of " + text, Checks.typed(text).execute(), 1);
        }
        ChequeSerials x = Checks.typed("b000000+1;w000000=1;c000000A");
        Checks.due("execute() of the serial 000000", x.execute(), 3);
    }

    private static void firstError() {
        String right = "b000500+40;w000539=999;c000539A;v000500-000539;b999999+4;w9";
        for (int length = 0; length <= right.length(); length++) {
            Checks.due("firstError() of the first " + length + " of " + right,
                    Checks.typed(right.substring(0, length)).firstError(), length);
        }
        for (int at = 0; at < right.length(); at++) {
            ChequeSerials x = Checks.typed(right.substring(0, at) + "?");
            Checks.due("firstError() at the last character", x.firstError(), at);
            Checks.type(x, right.substring(at));
            Checks.due("firstError() at " + at + " with more behind it", x.firstError(), at);
        }
        ChequeSerials full = Checks.typed("v000500-000539;".repeat(3) + "v000500-00053?");
        Checks.due("firstError() at 58", full.firstError(), 58);
        full.append(';');
        Checks.due("firstError() of the first of two errors", full.firstError(), 58);
        Checks.due("firstError() at 59",
                Checks.typed("v000500-000539;".repeat(4).substring(0, 59) + "0").firstError(), 59);
        Checks.due("firstError() at 0", Checks.typed("0").firstError(), 0);
        Checks.due("firstError() of books that cannot be",
                Checks.typed("b999999+40;b999999+40").firstError(), 21);
        Checks.due("firstError() of a run that cannot be",
                Checks.typed("v000001-000000").firstError(), 14);
    }

    // ---- Undo and snapshots

    private static void undoAndSnapshots() {
        Sentences.section("Undo and snapshots");
        Sentences.holds("The state consists of everything except the buffer, the saved states and"
                + " the snapshots.", TextTerms::whatTheStateIs);
        Sentences.holds("Each method that is marked \"Undoable\" saves the state from before the"
                + " call if it does not throw an exception,", TextTerms::undoableCallsSave);
        Sentences.holds("even if nothing changes.", TextTerms::savedIfNothingChanges);
        Sentences.holds("At most 6 states are saved;", TextTerms::atMostSixStates);
        Sentences.holds("when one more is saved, the oldest one is dropped.",
                TextTerms::oldestIsDropped);
        Sentences.holds("There are two snapshot slots,", TextTerms::twoSlots);
        Sentences.holds("which are empty at first.", TextTerms::slotsEmptyAtFirst);
    }

    /** The undoable calls, each one with an effect on the busy bank. */
    private static Map<String, Consumer<ChequeSerials>> undoable() {
        Map<String, Consumer<ChequeSerials>> calls = new LinkedHashMap<>();
        for (int position = 0; position < 6; position++) {
            int at = position;
            calls.put("weight(" + at + ", 7)", x -> x.weight(at, 7));
        }
        calls.put("modulus(26)", x -> x.modulus(26));
        calls.put("book(0, 40)", x -> x.book(0, 40));
        calls.put("write(505, 999)", x -> x.write(505, 999));
        calls.put("cash(501)", x -> x.cash(501, x.letter(501)));
        calls.put("cash(501), refused", x -> x.cash(501, 25));
        calls.put("voidRun(0, 999999)", x -> x.voidRun(0, 999999));
        calls.put("execute()", x -> {
            x.append('1');
            x.execute();
        });
        calls.put("goBack(0)", x -> x.goBack(0));
        return calls;
    }

    private static void whatTheStateIs() {
        undoable().forEach((call, run) -> {
            ChequeSerials x = Checks.busy();
            String before = Checks.state(x);
            run.accept(x);
            Checks.due(call + " changes the state", Checks.state(x).equals(before), false);
            x.undo();
            Checks.due("the state after undo() of " + call, Checks.state(x), before);
            x = Checks.busy();
            x.keep(1);
            run.accept(x);
            x.goBack(1);
            Checks.due("the state after goBack() before " + call, Checks.state(x), before);
        });
        booksComeBack();
        ChequeSerials x = Checks.busy();
        x.keep(1);
        x.undo();
        x.undo();
        Checks.due("the buffer after undo()", x.count(11), 8);
        x.goBack(1);
        Checks.due("the buffer after goBack()", x.count(11), 8);
        Checks.due("the saved states after goBack()", x.count(10), 5);
        x.append('7');
        Checks.due("its orders after goBack()", x.execute(), 1);
        Checks.due("their amount", x.cheque(505, 1), 7);
        x.keep(0);
        x.undo();
        Checks.due("the state is undone", x.cheque(505, 1), 0);
        Checks.due("the buffer is not", x.count(11), 0);
        x.goBack(0);
        Checks.due("the snapshot is not", x.cheque(505, 1), 7);
        x.goBack(1);
        Checks.due("the other state", x.cheque(505, 1), 0);
        x.goBack(0);
        Checks.due("the snapshot is not gone by goBack(1)", x.cheque(505, 1), 7);
    }

    /** A book that came in the place of another one gives way to it. */
    private static void booksComeBack() {
        ChequeSerials x = new ChequeSerials();
        x.keep(0);
        x.book(100, 7);
        x.keep(1);
        String before = Checks.state(x);
        x.goBack(0);
        x.book(200, 9);
        x.goBack(1);
        Checks.due("the book after goBack(1)", Checks.state(x), before);
        x.undo();
        Checks.due("the first serial after undo()", x.bookOf(0, 0), 200);
        Checks.due("the cheques after undo()", x.bookOf(0, 1), 9);
        x.undo();
        x.undo();
        Checks.due("the book after three undo()", Checks.state(x), before);
    }

    private static void undoableCallsSave() {
        undoable().forEach(Checks::undone);
        refused().forEach((call, run) -> {
            ChequeSerials x = Checks.busy();
            x.undo();
            int saved = x.count(10);
            try {
                run.accept(x);
                Checks.wrong(call + " throws nothing");
            } catch (RuntimeException e) {
                Checks.due("saved states after " + call, x.count(10), saved);
            }
        });
        ChequeSerials x = Checks.busy();
        x.undo();
        x.keep(0);
        x.keep(1);
        x.clearBuffer();
        x.append('b');
        x.firstError();
        Checks.due("saved states after calls that are not undoable", x.count(10), 5);
    }

    /** Calls on the busy bank that throw, with the exception that is due by their names. */
    private static Map<String, Consumer<ChequeSerials>> refused() {
        Map<String, Consumer<ChequeSerials>> calls = new LinkedHashMap<>();
        calls.put("I weight(6, 1)", x -> x.weight(6, 1));
        calls.put("A weight(0, 10)", x -> x.weight(0, 10));
        calls.put("A modulus(27)", x -> x.modulus(27));
        calls.put("I book(-1, 1)", x -> x.book(-1, 1));
        calls.put("I book(999999, 2)", x -> x.book(999999, 2));
        calls.put("A book(7, 41)", x -> x.book(7, 41));
        calls.put("S book(99, 2)", x -> x.book(99, 2));
        calls.put("I write(99, 1)", x -> x.write(99, 1));
        calls.put("A write(101, 1000)", x -> x.write(101, 1000));
        calls.put("S write(501, 1)", x -> x.write(501, 1));
        calls.put("I cash(1000000, 0)", x -> x.cash(1000000, 0));
        calls.put("A cash(501, 26)", x -> x.cash(501, 26));
        calls.put("I voidRun(-1, 999)", x -> x.voidRun(-1, 999));
        calls.put("I voidRun(0, 1000000)", x -> x.voidRun(0, 1000000));
        calls.put("A voidRun(501, 500)", x -> x.voidRun(501, 500));
        calls.put("A append(32)", x -> x.append(32));
        calls.put("A append(127)", x -> x.append(127));
        calls.put("A execute()", x -> x.execute());
        calls.put("A keep(2)", x -> x.keep(2));
        calls.put("A goBack(2)", x -> x.goBack(2));
        calls.put("S goBack(1)", x -> x.goBack(1));
        calls.put("I letter(-1)", x -> x.letter(-1));
        calls.put("I cheque(99, 0)", x -> x.cheque(99, 0));
        calls.put("A cheque(100, 5)", x -> x.cheque(100, 5));
        calls.put("I bookOf(2, 0)", x -> x.bookOf(2, 0));
        calls.put("A bookOf(0, 9)", x -> x.bookOf(0, 9));
        calls.put("A count(18)", x -> x.count(18));
        calls.put("A ranked(-1)", x -> x.ranked(-1));
        calls.put("I missed(-1, 0)", x -> x.missed(-1, 0));
        calls.put("A missed(0, 3)", x -> x.missed(0, 3));
        calls.put("I weak(5, 1, 0)", x -> x.weak(5, 1, 0));
        calls.put("A weak(5, 2, 0)", x -> x.weak(5, 2, 0));
        calls.put("A weak(4, 1, 2)", x -> x.weak(4, 1, 2));
        calls.put("A finds(3)", x -> x.finds(3));
        calls.put("I bestWeight(6)", x -> x.bestWeight(6));
        calls.put("I meant(-1, 0, 0)", x -> x.meant(-1, 0, 0));
        calls.put("A meant(0, 26, 0)", x -> x.meant(0, 26, 0));
        calls.put("A meant(0, 0, -2)", x -> x.meant(0, 0, -2));
        calls.put("I slip(-1, 0, 0)", x -> x.slip(-1, 0, 0));
        calls.put("I slip(0, 1000000, 0)", x -> x.slip(0, 1000000, 0));
        calls.put("A slip(0, 0, 26)", x -> x.slip(0, 0, 26));
        return calls;
    }

    private static void savedIfNothingChanges() {
        Map<String, Consumer<ChequeSerials>> calls = new LinkedHashMap<>();
        calls.put("weight(0, 1)", x -> x.weight(0, 1));
        calls.put("modulus(11)", x -> x.modulus(11));
        calls.put("voidRun(7, 8)", x -> x.voidRun(7, 8));
        calls.put("execute()", x -> {
            Checks.type(x, "w000007=1");
            x.execute();
        });
        calls.put("execute() of a run without cheques", x -> {
            Checks.type(x, "v000007-000008");
            x.execute();
        });
        calls.put("goBack(0)", x -> x.goBack(0));
        calls.forEach((call, run) -> {
            ChequeSerials x = new ChequeSerials();
            x.book(100, 1);
            x.keep(0);
            String before = Checks.state(x);
            run.accept(x);
            Checks.due(call + " leaves the state", Checks.state(x), before);
            Checks.due("saved states after " + call, x.count(10), 2);
            Checks.due("undo() of " + call, x.undo(), 1);
            Checks.due("the state after that", Checks.state(x), before);
            Checks.due("undo() of the book", x.undo(), 0);
            Checks.due("no books", x.count(0), 0);
        });
    }

    private static void atMostSixStates() {
        ChequeSerials x = new ChequeSerials();
        for (int calls = 1; calls <= 20; calls++) {
            x.modulus(6 + calls);
            Checks.due("saved states after " + calls + " calls", x.count(10), Math.min(6, calls));
        }
        for (int left = 5; left >= 0; left--) {
            Checks.due("undo()", x.undo(), left);
        }
        Checks.noState("undo() of a 7th state", () -> {
            ChequeSerials y = new ChequeSerials();
            for (int calls = 1; calls <= 7; calls++) {
                y.modulus(6 + calls);
            }
            for (int undone = 1; undone <= 6; undone++) {
                y.undo();
            }
            return y;
        }, y -> y.undo());
    }

    private static void oldestIsDropped() {
        for (int calls = 7; calls <= 19; calls++) {
            ChequeSerials x = new ChequeSerials();
            for (int call = 1; call <= calls; call++) {
                x.modulus(7 + call);
            }
            for (int undone = 1; undone <= 6; undone++) {
                x.undo();
                Checks.due("the modulus of " + calls + " with " + undone + " undone", x.count(9),
                        7 + calls - undone);
            }
        }
        ChequeSerials x = new ChequeSerials();
        for (int modulus = 12; modulus <= 18; modulus++) {
            x.modulus(modulus);
        }
        x.undo();
        x.undo();
        x.modulus(20);
        x.modulus(21);
        x.modulus(22);
        for (int due : new int[] {21, 20, 16, 15, 14, 13}) {
            x.undo();
            Checks.due("the modulus, undone and saved anew", x.count(9), due);
        }
    }

    private static void twoSlots() {
        ChequeSerials x = new ChequeSerials();
        x.keep(0);
        x.book(100, 1);
        x.keep(1);
        x.book(200, 1);
        Checks.due("goBack(0)", x.goBack(0), 0);
        Checks.due("goBack(1)", x.goBack(1), 1);
        Checks.due("its book", x.bookOf(0, 0), 100);
        Checks.due("goBack(0) again", x.goBack(0), 0);
        for (int slot : new int[] {-1, 2, LEAST, MOST}) {
            Checks.noArgument("keep(" + slot + ")", Checks::busy, y -> y.keep(slot));
            Checks.noArgument("goBack(" + slot + ")", Checks::busy, y -> y.goBack(slot));
        }
    }

    private static void slotsEmptyAtFirst() {
        for (int slot = 0; slot <= 1; slot++) {
            int at = slot;
            Checks.noState("goBack(" + at + ") at first", ChequeSerials::new, y -> y.goBack(at));
            Checks.noState("goBack(" + at + ") with the other slot filled", () -> {
                ChequeSerials y = Checks.example();
                y.keep(1 - at);
                return y;
            }, y -> y.goBack(at));
        }
    }

    // ---- Exceptions

    private static void exceptions() {
        Sentences.section("Exceptions");
        Sentences.holds("A call that throws an exception changes nothing.",
                TextTerms::throwingChangesNothing);
        Sentences.holds("If more than one exception applies to a call, the one that its throws"
                + " clause lists first is thrown.", TextTerms::theFirstException);
        Sentences.holds("\"There is no such serial\" means that the number is not from 0 to"
                + " 999999;", TextTerms::noSuchSerial);
        Sentences.holds("\"no such cheque\" that it is in no book.", TextTerms::noSuchCheque);
        Sentences.holds("The constants: `NONE = -1`: There is no such number.", TextTerms::none);
    }

    private static void throwingChangesNothing() {
        refused().forEach((call, run) -> {
            if (call.startsWith("I")) {
                Checks.noIndex(call, Checks::busy, run);
            } else if (call.startsWith("A")) {
                Checks.noArgument(call, Checks::busy, run);
            } else {
                Checks.noState(call, Checks::busy, run);
            }
        });
        Checks.noState("append() to a full buffer",
                () -> Checks.typed("b000000+9;w000000=1;c000000A;w000001=5;b000010+10;b000030+10"),
                x -> x.append('1'));
        Checks.noState("a 7th book", Checks::sixBooks, x -> x.book(70, 1));
        Checks.noState("undo() without saved states", () -> Checks.typed("b000000+"),
                x -> x.undo());
    }

    private static void theFirstException() {
        Map<String, Consumer<ChequeSerials>> index = new LinkedHashMap<>();
        index.put("weight(6, 0)", x -> x.weight(6, 0));
        index.put("book(-1, 0)", x -> x.book(-1, 0));
        index.put("book(1000000, 41)", x -> x.book(1000000, 41));
        index.put("write(99, 0)", x -> x.write(99, 0));
        index.put("write(-1, 1000)", x -> x.write(-1, 1000));
        index.put("cash(-1, -1)", x -> x.cash(-1, -1));
        index.put("voidRun(1000000, 0)", x -> x.voidRun(1000000, 0));
        index.put("voidRun(0, -1)", x -> x.voidRun(0, -1));
        index.put("cheque(99, 5)", x -> x.cheque(99, 5));
        index.put("bookOf(2, 9)", x -> x.bookOf(2, 9));
        index.put("missed(-1, 3)", x -> x.missed(-1, 3));
        index.put("weak(6, 2, 2)", x -> x.weak(6, 2, 2));
        index.put("weak(5, 1, 2)", x -> x.weak(5, 1, 2));
        index.put("meant(-1, 26, -2)", x -> x.meant(-1, 26, -2));
        index.put("slip(-1, 0, 26)", x -> x.slip(-1, 0, 26));
        index.put("slip(0, -1, 26)", x -> x.slip(0, -1, 26));
        index.forEach((call, run) -> Checks.noIndex(call, Checks::busy, run));
        Checks.noIndex("a 7th book(-1, 0)", Checks::sixBooks, x -> x.book(-1, 0));
        Checks.noIndex("a 7th book(999999, 2)", Checks::sixBooks, x -> x.book(999999, 2));
        Checks.noArgument("book(500, 41)", Checks::busy, x -> x.book(500, 41));
        Checks.noArgument("a 7th book(70, 0)", Checks::sixBooks, x -> x.book(70, 0));
        Checks.noArgument("write(501, 0)", Checks::busy, x -> x.write(501, 0));
        Checks.noArgument("goBack(2)", Checks::busy, x -> x.goBack(2));
        Checks.noArgument("append(127), full", () -> Checks.typed("b".repeat(60)),
                x -> x.append(127));
    }

    private static void noSuchSerial() {
        ChequeSerials x = new ChequeSerials();
        for (int serial : new int[] {0, 999999}) {
            int letter = serial == 0 ? 0 : 2;
            Checks.due("letter(" + serial + ") in no book", x.letter(serial), letter);
            Checks.due("cash(" + serial + ") in no book", x.cash(serial, letter), -2);
            Checks.due("voidRun(" + serial + ") in no book", x.voidRun(serial, serial), 0);
            Checks.due("missed(" + serial + ") in no book", x.missed(serial, 0), 0);
            Checks.due("meant(" + serial + ") in no book", x.meant(serial, letter, -1), 0);
            Checks.due("slip(" + serial + ") in no book", x.slip(serial, serial, letter), 3);
        }
        for (int serial : new int[] {-1, 1000000, LEAST, MOST}) {
            String told = "(" + serial + ")";
            Checks.noIndex("letter" + told, Checks::busy, y -> y.letter(serial));
            Checks.noIndex("cash" + told, Checks::busy, y -> y.cash(serial, 0));
            Checks.noIndex("voidRun from" + told, Checks::busy, y -> y.voidRun(serial, 999999));
            Checks.noIndex("voidRun to" + told, Checks::busy, y -> y.voidRun(0, serial));
            Checks.noIndex("book" + told, Checks::busy, y -> y.book(serial, 1));
            Checks.noIndex("missed" + told, Checks::busy, y -> y.missed(serial, 0));
            Checks.noIndex("meant" + told, Checks::busy, y -> y.meant(serial, 0, 0));
            Checks.noIndex("slip of" + told, Checks::busy, y -> y.slip(serial, 0, 0));
            Checks.noIndex("slip to" + told, Checks::busy, y -> y.slip(0, serial, 0));
        }
    }

    private static void noSuchCheque() {
        for (int serial : new int[] {99, 105, 499, 510, 0, 999999, -1, 1000000, LEAST, MOST}) {
            Checks.noIndex("cheque(" + serial + ", 0)", Checks::busy, x -> x.cheque(serial, 0));
            Checks.noIndex("write(" + serial + ", 1)", Checks::busy, x -> x.write(serial, 1));
            Checks.noIndex("cheque(" + serial + ", 0) without books", ChequeSerials::new,
                    x -> x.cheque(serial, 0));
            Checks.noIndex("write(" + serial + ", 1) without books", ChequeSerials::new,
                    x -> x.write(serial, 1));
        }
        ChequeSerials x = Checks.busy();
        Checks.due("a void cheque is one", x.cheque(504, 0), 3);
        Checks.noIndex("a cheque whose book is undone", () -> {
            ChequeSerials y = Checks.busy();
            y.book(0, 1);
            y.undo();
            return y;
        }, y -> y.cheque(0, 0));
    }

    private static void none() {
        Checks.due("NONE", ChequeSerials.NONE, -1);
        ChequeSerials x = new ChequeSerials();
        Checks.due("ranked(0) without cheques", x.ranked(0), ChequeSerials.NONE);
        Checks.due("slip(0, 11, 0)", x.slip(0, 11, 0), ChequeSerials.NONE);
        Checks.due("meant(0, 0, 0)", x.meant(0, 0, 0), ChequeSerials.NONE);
        Checks.due("meant(0, 0, NONE)", x.meant(0, 0, ChequeSerials.NONE), 0);
        x.book(0, 1);
        x.voidRun(0, 0);
        Checks.due("bookOf(0, 8)", x.bookOf(0, 8), ChequeSerials.NONE);
    }

    // ---- the interface's own headings

    private static void interfaceLines() {
        String end = " the interface says: ---- ";
        Sentences.bare("Ahead of the calls `weight`, `modulus`" + end + "letters.");
        Sentences.bare("Ahead of the calls `book`, `write`, `cash`, `voidRun`" + end
                + "books and cheques.");
        Sentences.bare("Ahead of the calls `append`, `clearBuffer`, `firstError`, `execute`" + end
                + "order text.");
        Sentences.bare("Ahead of the calls `undo`, `keep`, `goBack`" + end
                + "undo and snapshots.");
        Sentences.holds("Ahead of the calls `letter`, `cheque`, `bookOf`, `count`, `ranked`" + end
                + "queries; nothing changes.", TextTerms::queriesChangeNothing);
        Sentences.holds("Ahead of the calls `missed`, `weak`, `finds`, `bestWeight`, `meant`,"
                + " `slip`, `cashed`" + end + "slips; nothing changes.",
                TextTerms::slipsChangeNothing);
    }

    private static void changesNothing(String call, Consumer<ChequeSerials> run) {
        Checks.due("the bank after " + call, Checks.picture(() -> {
            ChequeSerials x = Checks.busy();
            run.accept(x);
            return x;
        }), Checks.picture(Checks::busy));
    }

    private static void queriesChangeNothing() {
        changesNothing("letter(501)", x -> x.letter(501));
        changesNothing("ranked(14)", x -> x.ranked(14));
        changesNothing("ranked(15)", x -> x.ranked(15));
        for (int what = 0; what <= 17; what++) {
            int number = what;
            changesNothing("count(" + what + ")", x -> x.count(number));
            if (what <= 8) {
                changesNothing("bookOf(0, " + what + ")", x -> x.bookOf(0, number));
            }
            if (what <= 4) {
                changesNothing("cheque(501, " + what + ")", x -> x.cheque(501, number));
            }
        }
    }

    private static void slipsChangeNothing() {
        for (int kind = 0; kind <= 2; kind++) {
            int of = kind;
            changesNothing("missed(501, " + kind + ")", x -> x.missed(501, of));
            changesNothing("finds(" + kind + ")", x -> x.finds(of));
        }
        for (int position = 0; position <= 5; position++) {
            int at = position;
            changesNothing("weak(" + at + ", 0, 0)", x -> x.weak(at, 0, 0));
            changesNothing("weak(" + at + ", 0, 1)", x -> x.weak(at, 0, 1));
            changesNothing("bestWeight(" + at + ")", x -> x.bestWeight(at));
        }
        changesNothing("weak(4, 1, 1)", x -> x.weak(4, 1, 1));
        changesNothing("meant(501, 0, NONE)", x -> x.meant(501, 0, -1));
        changesNothing("meant(501, 25, 0)", x -> x.meant(501, 25, 0));
        changesNothing("slip(501, 510, 25)", x -> x.slip(501, 510, 25));
        changesNothing("cashed()", x -> x.cashed());
    }
}
