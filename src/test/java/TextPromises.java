/** Promises 8 to 14, the order text, undo and the snapshots: each sentence's test. */
final class TextPromises {
    private static final int MOST = Integer.MAX_VALUE;
    private static final int LEAST = Integer.MIN_VALUE;

    private TextPromises() {
    }

    static void all() {
        append();
        clearBuffer();
        firstError();
        execute();
        undo();
        keep();
        goBack();
    }

    // ---- Promise 8

    private static void append() {
        Sentences.section("Promise 8");
        Sentences.bare("`int append(int code) throws IllegalArgumentException,"
                + " IllegalStateException`:");
        Sentences.holds("Appends a character to the buffer.", () -> {
            ChequeSerials x = Checks.typed("b000500+");
            x.append('3');
            Checks.due("the length", x.count(11), 9);
            x.append('4');
            Checks.due("execute()", x.execute(), 1);
            Checks.due("the cheques of its book", x.count(1), 34);
            x.append('v');
            x.append('?');
            Checks.due("the first error", x.firstError(), 1);
        });
        Sentences.holds("`code`: a character code, 33 to 126", () -> {
            ChequeSerials x = new ChequeSerials();
            for (int code = 33; code <= 126; code++) {
                Checks.due("append(" + code + ")", x.append(code), 1);
                x.clearBuffer();
            }
        });
        Sentences.holds("Returns the new length of the buffer.", () -> {
            ChequeSerials x = new ChequeSerials();
            for (int length = 1; length <= 60; length++) {
                Checks.due("append() of the character " + length, x.append('!'), length);
            }
            x.clearBuffer();
            Checks.due("append() after clearBuffer()", x.append('!'), 1);
        });
        Sentences.holds("Throws `IllegalArgumentException` if code is out of range", () -> {
            for (int code : new int[] {32, 127, 0, -1, 128, 289, 65569, LEAST, MOST}) {
                Checks.noArgument("append(" + code + ")", Checks::busy, x -> x.append(code));
                Checks.noArgument("append(" + code + "), full", TextPromises::full,
                        x -> x.append(code));
            }
        });
        Sentences.holds("Throws `IllegalStateException` if the buffer holds 60 characters", () -> {
            for (int code : new int[] {33, ';', '0', 126}) {
                Checks.noState("append(" + code + "), full", TextPromises::full,
                        x -> x.append(code));
            }
            ChequeSerials x = Checks.typed("!".repeat(59));
            Checks.due("append() to 59", x.append('!'), 60);
            x.clearBuffer();
            Checks.due("append() after clearBuffer()", x.append('!'), 1);
        });
    }

    /** A buffer with 60 characters that are a complete order text. */
    private static ChequeSerials full() {
        return Checks.typed("b000000+9;w000000=1;c000000A;w000001=5;b000010+10;b000030+10");
    }

    // ---- Promise 9

    private static void clearBuffer() {
        Sentences.section("Promise 9");
        Sentences.bare("`int clearBuffer()`:");
        Sentences.holds("Clears the buffer.", () -> {
            for (String text : new String[] {"", "?", "b000500+1", "!".repeat(60)}) {
                ChequeSerials x = Checks.typed(text);
                x.clearBuffer();
                Checks.due("the length", x.count(11), 0);
                Checks.due("the first error", x.firstError(), 0);
                Checks.type(x, "b000600+2");
                Checks.due("execute() of what is typed then", x.execute(), 1);
                Checks.due("its cheques", x.count(1), 2);
            }
            Checks.noArgument("execute() of the cleared buffer", () -> {
                ChequeSerials x = Checks.typed("b000500+1");
                x.clearBuffer();
                return x;
            }, x -> x.execute());
        });
        Sentences.holds("Returns the length that it had.", () -> {
            for (int length = 0; length <= 60; length++) {
                ChequeSerials x = Checks.typed("c".repeat(length));
                Checks.due("clearBuffer() of " + length, x.clearBuffer(), length);
                Checks.due("clearBuffer() again", x.clearBuffer(), 0);
            }
        });
    }

    // ---- Promise 10

    private static void firstError() {
        Sentences.section("Promise 10");
        Sentences.bare("`int firstError()`:");
        Sentences.holds("Finds the first error of the buffer.", () -> {
            ChequeSerials x = Checks.typed("b000500+1;w0005?0=?");
            Checks.due("firstError()", x.firstError(), 15);
            Checks.due("firstError() again", x.firstError(), 15);
            Checks.due("the length", x.count(11), 19);
            ChequeSerials y = Checks.typed("b999999+40;w123456=1;c123456A;v999999-000000");
            Checks.due("firstError() of orders that cannot be executed", y.firstError(), 44);
        });
        Sentences.holds("Returns its index;", () -> {
            String text = "v000500-000539;".repeat(4);
            for (int at = 0; at < 60; at++) {
                ChequeSerials x = Checks.typed(text.substring(0, at) + "~");
                Checks.due("firstError() at " + at, x.firstError(), at);
            }
        });
        Sentences.holds("the length of the buffer if there is no error (also if the text is not"
                + " complete).", () -> {
            Checks.due("firstError() of no text", new ChequeSerials().firstError(), 0);
            String text = "v000500-000539;".repeat(4);
            for (int length = 1; length <= 60; length++) {
                Checks.due("firstError() of " + text.substring(0, length),
                        Checks.typed(text.substring(0, length)).firstError(), length);
            }
            Checks.due("firstError() of a full buffer", full().firstError(), 60);
        });
    }

    // ---- Promise 11

    private static void execute() {
        Sentences.section("Promise 11");
        Sentences.bare("`int execute() throws IllegalArgumentException`:");
        Sentences.holds("Executes the orders in the buffer, one after the other,",
                TextPromises::oneAfterTheOther);
        Sentences.holds("up to the first one that is refused", TextPromises::upToRefusal);
        Sentences.holds("or whose method would throw an exception,", TextPromises::upToException);
        Sentences.holds("and clears the buffer.", () -> {
            for (String text : new String[] {"b000500+1", "w000500=1", "c000500A", "c000500B",
                "v000500-000500", "v000500-000499;b000500+1"}) {
                ChequeSerials x = Checks.typed(text);
                x.execute();
                Checks.due("the length after execute() of " + text, x.count(11), 0);
                Checks.due("append() after it", x.append('b'), 1);
            }
        });
        Sentences.holds("Undoable, as one call.", () -> {
            ChequeSerials x = Checks.typed("b000010+5;w000011=42;c000011A;v000012-000013;c000011B");
            x.modulus(11);
            Checks.due("execute()", x.execute(), 4);
            Checks.due("saved states", x.count(10), 2);
            Checks.due("undo()", x.undo(), 1);
            Checks.due("books", x.count(0), 0);
            Checks.due("refusals", x.count(8), 0);
            ChequeSerials y = Checks.typed("w000500=1");
            Checks.due("execute() of no order", y.execute(), 0);
            Checks.due("saved states even so", y.count(10), 1);
            ChequeSerials z = full();
            Checks.due("execute() of six orders", z.execute(), 6);
            Checks.due("one saved state", z.count(10), 1);
            Checks.undone("execute() of one order", e -> {
                e.append('1');
                e.execute();
            });
        });
        Sentences.holds("Returns how many orders are executed", () -> {
            String text = "";
            for (int orders = 1; orders <= 6; orders++) {
                text += (orders == 1 ? "" : ";") + "b00000" + orders + "+1";
                Checks.due("execute() of " + text, Checks.typed(text).execute(), orders);
            }
            Checks.due("execute() of a run without cheques",
                    Checks.typed("v000000-000000").execute(), 1);
            Checks.due("execute() up to the third",
                    Checks.typed("b000001+1;b000002+1;b000001+1;b000003+1").execute(), 2);
        });
        Sentences.holds("(one that is refused is not counted here, but in count() of 8).",
                TextPromises::refusedIsNotCounted);
        Sentences.holds("Throws `IllegalArgumentException` if the buffer is not a complete order"
                + " text", TextPromises::notComplete);
    }

    private static void oneAfterTheOther() {
        ChequeSerials x = Checks.typed("b000010+3;w000010=5;c000010F;v000010-000012;b000013+1");
        Checks.due("execute()", x.execute(), 5);
        Checks.due("the cashed one", x.cheque(10, 0), 2);
        Checks.due("its amount", x.cheque(10, 1), 5);
        Checks.due("the void one", x.cheque(11, 0), 3);
        Checks.due("the later book", x.cheque(13, 0), 0);
        Checks.due("its number", x.cheque(13, 2), 1);
        ChequeSerials y = Checks.typed("v000010-000012;b000010+3");
        Checks.due("execute() of a run before its book", y.execute(), 2);
        Checks.due("blank cheques", y.count(2), 3);
        ChequeSerials z = Checks.typed("w000010=5;b000010+3");
        Checks.due("execute() of writing before its book", z.execute(), 0);
        Checks.due("books", z.count(0), 0);
    }

    private static void upToRefusal() {
        for (String refused : new String[] {"c000011B", "c000011Z", "c000010F", "c000009K"}) {
            ChequeSerials x = Checks.typed("b000010+2;w000011=5;" + refused + ";w000010=6");
            Checks.due("execute() up to " + refused, x.execute(), 2);
            Checks.due("the kind of 11", x.cheque(11, 0), 1);
            Checks.due("the kind of 10", x.cheque(10, 0), 0);
        }
        ChequeSerials x = Checks.typed("c000000A;b000010+2");
        Checks.due("execute() of a refusal at once", x.execute(), 0);
        Checks.due("books", x.count(0), 0);
    }

    private static void upToException() {
        for (String order : new String[] {"b999999+2", "b999961+40", "b000011+1", "b000000+11",
            "w000009=1", "w000012=1", "w000011=6", "v000011-000010"}) {
            ChequeSerials x = Checks.typed("b000010+2;w000011=5;" + order + ";w000010=6");
            Checks.due("execute() up to " + order, x.execute(), 2);
            Checks.due("the amount of 11", x.cheque(11, 1), 5);
            Checks.due("the kind of 10", x.cheque(10, 0), 0);
            Checks.due("books", x.count(0), 1);
            Checks.due("refusals", x.count(8), 0);
        }
        ChequeSerials x = Checks.sixBooks();
        Checks.type(x, "w000010=1;b000070+1;w000020=1");
        Checks.due("execute() up to a 7th book", x.execute(), 1);
        Checks.due("the kind of 10", x.cheque(10, 0), 1);
        Checks.due("the kind of 20", x.cheque(20, 0), 0);
    }

    private static void refusedIsNotCounted() {
        ChequeSerials x = Checks.typed("b000010+2;w000011=5;c000011B");
        Checks.due("execute() up to a wrong letter", x.execute(), 2);
        Checks.due("refusals", x.count(8), 1);
        Checks.type(x, "c000010F");
        Checks.due("execute() of a blank one", x.execute(), 0);
        Checks.due("refusals", x.count(8), 2);
        Checks.type(x, "c000009K");
        Checks.due("execute() of one in no book", x.execute(), 0);
        Checks.due("refusals", x.count(8), 3);
        Checks.type(x, "w000009=1;c000011B");
        Checks.due("execute() up to an exception", x.execute(), 0);
        Checks.due("refusals", x.count(8), 3);
        Checks.type(x, "c000011A;c000011A;c000011A");
        Checks.due("execute() of cashing it again", x.execute(), 1);
        Checks.due("refusals", x.count(8), 4);
    }

    private static void notComplete() {
        String[] texts = {"", "b", "b000500", "b000500+", "b000500+0", "b000500+41", "b000500+1;",
            "w000500=", "w000500=0", "w000500=1000", "c000500", "c000500a", "c00050A", "v000500",
            "v000500-", "v000500-00050", "v000500-0005000", ";", ";b000500+1",
            "b000500+1;;c000500A",
            "b000500+1;c000500", "b000500+1,c000500A", "B000500+1", "?", "b000500+1?",
            "v000500-000539;v000500-000539;v000500-000539;v000500-00053"};
        for (String text : texts) {
            Checks.noArgument("execute() of " + text, () -> {
                ChequeSerials x = Checks.example();
                Checks.type(x, text);
                return x;
            }, x -> x.execute());
        }
        Checks.noArgument("execute() of 60 characters, the last one wrong",
                () -> Checks.typed("v000500-000539;".repeat(4)), x -> x.execute());
        ChequeSerials x = Checks.typed("b000500+");
        x.append('4');
        Checks.due("execute() when it is complete", x.execute(), 1);
    }

    // ---- Promise 12

    private static void undo() {
        Sentences.section("Promise 12");
        Sentences.bare("`int undo() throws IllegalStateException`:");
        Sentences.holds("Restores the state that was saved last,", () -> {
            ChequeSerials x = new ChequeSerials();
            String[] states = new String[6];
            states[0] = Checks.state(x);
            x.book(500, 3);
            states[1] = Checks.state(x);
            x.write(501, 9);
            states[2] = Checks.state(x);
            x.cash(501, 25);
            states[3] = Checks.state(x);
            x.cash(501, x.letter(501));
            states[4] = Checks.state(x);
            x.voidRun(0, 999999);
            states[5] = Checks.state(x);
            x.weight(0, 9);
            for (int left = 5; left >= 0; left--) {
                x.undo();
                Checks.due("the state with " + left + " left", Checks.state(x), states[left]);
            }
        });
        Sentences.holds("and removes it from the saved states.", () -> {
            ChequeSerials x = new ChequeSerials();
            x.modulus(12);
            x.modulus(13);
            x.undo();
            Checks.due("saved states", x.count(10), 1);
            Checks.due("the modulus", x.count(9), 12);
            x.modulus(14);
            Checks.due("saved states with one more", x.count(10), 2);
            x.undo();
            Checks.due("the modulus, undone again", x.count(9), 12);
            x.undo();
            Checks.due("the modulus at first", x.count(9), 11);
            Checks.due("no saved state", x.count(10), 0);
        });
        Sentences.holds("Returns the number of saved states that are left.", () -> {
            ChequeSerials x = new ChequeSerials();
            for (int call = 1; call <= 9; call++) {
                x.modulus(7 + call);
            }
            for (int left = 5; left >= 0; left--) {
                Checks.due("undo()", x.undo(), left);
            }
            x.modulus(7);
            Checks.due("undo() of a single one", x.undo(), 0);
        });
        undoThrows();
    }

    private static void undoThrows() {
        Sentences.holds("Throws `IllegalStateException` if no state is saved", () -> {
            Checks.noState("undo() at first", ChequeSerials::new, x -> x.undo());
            Checks.noState("undo() with all undone", () -> {
                ChequeSerials x = Checks.busy();
                Checks.undoAll(x);
                return x;
            }, x -> x.undo());
            Checks.noState("undo() after a call that threw", () -> {
                ChequeSerials x = new ChequeSerials();
                try {
                    x.modulus(27);
                } catch (IllegalArgumentException e) {
                    x.keep(0);
                }
                return x;
            }, x -> x.undo());
        });
    }

    // ---- Promise 13

    private static void keep() {
        Sentences.section("Promise 13");
        Sentences.bare("`int keep(int slot) throws IllegalArgumentException`:");
        Sentences.holds("Takes a snapshot of the state,", () -> {
            ChequeSerials x = Checks.busy();
            x.keep(1);
            String due = Checks.state(x);
            x.book(0, 9);
            x.voidRun(0, 999999);
            x.cash(0, 0);
            x.weight(0, 9);
            x.modulus(7);
            x.goBack(1);
            Checks.due("the state of the snapshot", Checks.state(x), due);
            ChequeSerials y = Checks.busy();
            y.undo();
            y.keep(1);
            Checks.due("keep() saves nothing", y.count(10), 5);
        });
        Sentences.holds("which replaces the one in the slot.", () -> {
            for (int slot = 0; slot <= 1; slot++) {
                ChequeSerials x = new ChequeSerials();
                x.keep(slot);
                x.modulus(20);
                x.keep(1 - slot);
                x.modulus(21);
                x.keep(slot);
                x.modulus(22);
                x.goBack(slot);
                Checks.due("the modulus of the later one", x.count(9), 21);
                x.goBack(1 - slot);
                Checks.due("the modulus of the other slot", x.count(9), 20);
            }
        });
        Sentences.holds("`slot`: 0 or 1", () -> {
            ChequeSerials x = new ChequeSerials();
            Checks.due("keep(0)", x.keep(0), 0);
            Checks.due("keep(1)", x.keep(1), 0);
        });
        Sentences.holds("Returns the number of books.", () -> {
            ChequeSerials x = new ChequeSerials();
            Checks.due("keep(0) without books", x.keep(0), 0);
            for (int books = 1; books <= 6; books++) {
                x.book(100 * books, 40);
                Checks.due("keep(1) with books", x.keep(1), books);
            }
        });
        Sentences.holds("Throws `IllegalArgumentException` if there is no such slot", () -> {
            for (int slot : new int[] {-1, 2, LEAST, MOST}) {
                Checks.noArgument("keep(" + slot + ")", Checks::busy, x -> x.keep(slot));
            }
        });
    }

    // ---- Promise 14

    private static void goBack() {
        Sentences.section("Promise 14");
        Sentences.bare("`int goBack(int slot) throws IllegalArgumentException,"
                + " IllegalStateException`:");
        Sentences.holds("Restores a snapshot,", () -> {
            for (int slot = 0; slot <= 1; slot++) {
                ChequeSerials x = Checks.busy();
                x.write(505, 8);
                x.keep(slot);
                String due = Checks.state(x);
                x.voidRun(0, 999999);
                x.book(0, 1);
                x.weight(4, 1);
                x.modulus(26);
                x.cash(0, 1);
                x.goBack(slot);
                Checks.due("the state after goBack(" + slot + ")", Checks.state(x), due);
            }
        });
        Sentences.holds("which stays in its slot.", () -> {
            ChequeSerials x = Checks.busy();
            x.keep(1);
            String due = Checks.state(x);
            for (int time = 1; time <= 3; time++) {
                x.goBack(1);
                Checks.due("the state, time " + time, Checks.state(x), due);
                x.voidRun(0, 999999);
                x.weight(0, 9);
            }
            x.undo();
            x.undo();
            x.undo();
            x.goBack(1);
            Checks.due("the state after undo()", Checks.state(x), due);
        });
        Sentences.holds("Undoable.", () -> Checks.undone("goBack(0)", x -> x.goBack(0)));
        goBackReturns();
    }

    private static void goBackReturns() {
        Sentences.holds("`slot`: 0 or 1", () -> {
            ChequeSerials x = new ChequeSerials();
            x.keep(0);
            x.modulus(20);
            x.keep(1);
            x.goBack(0);
            Checks.due("the modulus of slot 0", x.count(9), 11);
            x.goBack(1);
            Checks.due("the modulus of slot 1", x.count(9), 20);
        });
        Sentences.holds("Returns the number of books after the call.", () -> {
            ChequeSerials x = new ChequeSerials();
            x.keep(0);
            for (int books = 1; books <= 6; books++) {
                x.book(100 * books, 40);
            }
            x.keep(1);
            Checks.due("goBack(0) from six books", x.goBack(0), 0);
            Checks.due("goBack(1) from none", x.goBack(1), 6);
            Checks.due("goBack(1) again", x.goBack(1), 6);
        });
        goBackThrows();
    }

    private static void goBackThrows() {
        Sentences.holds("Throws `IllegalArgumentException` if there is no such slot", () -> {
            for (int slot : new int[] {-1, 2, LEAST, MOST}) {
                Checks.noArgument("goBack(" + slot + ")", Checks::busy, x -> x.goBack(slot));
                Checks.noArgument("goBack(" + slot + ") with empty slots", ChequeSerials::new,
                        x -> x.goBack(slot));
            }
        });
        Sentences.holds("Throws `IllegalStateException` if the slot is empty", () -> {
            Checks.noState("goBack(1)", Checks::busy, x -> x.goBack(1));
            Checks.noState("goBack(0)", Checks::example, x -> x.goBack(0));
            Checks.noState("goBack(0) with slot 1 filled", () -> {
                ChequeSerials x = Checks.example();
                x.keep(1);
                return x;
            }, x -> x.goBack(0));
            ChequeSerials x = new ChequeSerials();
            x.keep(0);
            x.modulus(12);
            x.undo();
            Checks.due("goBack(0) of a slot filled before undo()", x.goBack(0), 0);
        });
    }
}
