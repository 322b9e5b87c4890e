/** Promises 1 to 7, the calls that change letters, books and cheques: each sentence's test. */
final class ChangePromises {
    private static final int MOST = Integer.MAX_VALUE;
    private static final int LEAST = Integer.MIN_VALUE;

    private ChangePromises() {
    }

    static void all() {
        newObject();
        weight();
        modulus();
        book();
        write();
        cash();
        voidRun();
    }

    // ---- Promise 1

    private static void newObject() {
        Sentences.section("Promise 1");
        Sentences.bare("`ChequeSerials()`:");
        Sentences.holds("Creates a bank without books.", ChangePromises::withoutBooks);
    }

    private static void withoutBooks() {
        ChequeSerials other = Checks.busy();
        ChequeSerials x = new ChequeSerials();
        for (int what = 0; what <= 8; what++) {
            Checks.due("count(" + what + ")", x.count(what), 0);
        }
        Checks.due("saved states", x.count(10), 0);
        Checks.due("ranked(0)", x.ranked(0), -1);
        Checks.due("cashed()", x.cashed(), 0.0);
        Checks.noIndex("bookOf(0, 0)", ChequeSerials::new, y -> y.bookOf(0, 0));
        Checks.noIndex("cheque(0, 0)", ChequeSerials::new, y -> y.cheque(0, 0));
        Checks.due("its first book", x.book(0, 1), 0);
        Checks.due("the books of another bank", other.count(0), 2);
    }

    // ---- Promise 2

    private static void weight() {
        Sentences.section("Promise 2");
        Sentences.bare("`int weight(int position, int weight) throws IndexOutOfBoundsException,"
                + " IllegalArgumentException`:");
        Sentences.holds("Changes the weight of a position.", ChangePromises::changesOneWeight);
        Sentences.holds("Undoable.", () -> {
            Checks.undone("weight(0, 9)", x -> x.weight(0, 9));
            Checks.undone("weight(5, 8), the same", x -> x.weight(5, 8));
        });
        Sentences.holds("`position`: 0 to 5", () -> {
            ChequeSerials x = new ChequeSerials();
            Checks.due("weight(0, 7)", x.weight(0, 7), 1);
            Checks.due("weight(5, 8)", x.weight(5, 8), 6);
            Checks.due("the weight at 0", x.count(12), 7);
            Checks.due("the weight at 5", x.count(17), 8);
        });
        Sentences.holds("`weight`: 1 to 9", () -> {
            ChequeSerials x = new ChequeSerials();
            for (int weight = 1; weight <= 9; weight++) {
                x.weight(2, weight);
                Checks.due("the weight " + weight, x.count(14), weight);
                Checks.due("letter(001000)", x.letter(1000), weight);
            }
        });
        Sentences.holds("Returns the previous weight.", () -> {
            ChequeSerials x = new ChequeSerials();
            Checks.due("weight(3, 9)", x.weight(3, 9), 4);
            Checks.due("weight(3, 9) again", x.weight(3, 9), 9);
            Checks.due("weight(3, 1)", x.weight(3, 1), 9);
            x.undo();
            x.undo();
            x.undo();
            Checks.due("weight(3, 5) after undo()", x.weight(3, 5), 4);
        });
        Sentences.holds("Throws `IndexOutOfBoundsException` if there is no such position", () -> {
            for (int position : new int[] {-1, 6, LEAST, MOST}) {
                Checks.noIndex("weight(" + position + ", 1)", Checks::busy,
                        x -> x.weight(position, 1));
                Checks.noIndex("weight(" + position + ", 0)", Checks::busy,
                        x -> x.weight(position, 0));
            }
        });
        Sentences.holds("Throws `IllegalArgumentException` if weight is out of range", () -> {
            for (int weight : new int[] {0, 10, -1, LEAST, MOST}) {
                Checks.noArgument("weight(0, " + weight + ")", Checks::busy,
                        x -> x.weight(0, weight));
                Checks.noArgument("weight(5, " + weight + ")", Checks::busy,
                        x -> x.weight(5, weight));
            }
        });
    }

    private static void changesOneWeight() {
        for (int position = 0; position < 6; position++) {
            ChequeSerials x = new ChequeSerials();
            x.weight(position, 8);
            for (int other = 0; other < 6; other++) {
                Checks.due("the weight at " + other + " after weight(" + position + ", 8)",
                        x.count(12 + other), other == position ? 8 : 1 + other);
            }
            Checks.due("the modulus", x.count(9), 11);
        }
    }

    // ---- Promise 3

    private static void modulus() {
        Sentences.section("Promise 3");
        Sentences.bare("`int modulus(int modulus) throws IllegalArgumentException`:");
        Sentences.holds("Changes the modulus.", () -> {
            ChequeSerials x = new ChequeSerials();
            x.modulus(13);
            Checks.due("count(9)", x.count(9), 13);
            Checks.due("letter(000002) modulo 13", x.letter(2), 12);
            Checks.due("letter(000111) modulo 13", x.letter(111), 2);
            for (int position = 0; position < 6; position++) {
                Checks.due("the weights stay", x.count(12 + position), 1 + position);
            }
        });
        Sentences.holds("Undoable.", () -> {
            Checks.undone("modulus(7)", x -> x.modulus(7));
            Checks.undone("modulus(13), the same", x -> x.modulus(13));
        });
        Sentences.holds("`modulus`: 7 to 26", () -> {
            ChequeSerials x = new ChequeSerials();
            for (int modulus = 7; modulus <= 26; modulus++) {
                x.modulus(modulus);
                Checks.due("the modulus " + modulus, x.count(9), modulus);
                Checks.due("letter(999999) by it", x.letter(999999), 189 % modulus);
            }
        });
        Sentences.holds("Returns the previous modulus.", () -> {
            ChequeSerials x = new ChequeSerials();
            Checks.due("modulus(26)", x.modulus(26), 11);
            Checks.due("modulus(26) again", x.modulus(26), 26);
            Checks.due("modulus(7)", x.modulus(7), 26);
            x.undo();
            x.undo();
            x.undo();
            Checks.due("modulus(8) after undo()", x.modulus(8), 11);
        });
        Sentences.holds("Throws `IllegalArgumentException` if modulus is out of range", () -> {
            for (int modulus : new int[] {6, 27, 0, -7, LEAST, MOST}) {
                Checks.noArgument("modulus(" + modulus + ")", Checks::busy,
                        x -> x.modulus(modulus));
            }
        });
    }

    // ---- Promise 4

    private static void book() {
        Sentences.section("Promise 4");
        Sentences.bare("`int book(int first, int count) throws IndexOutOfBoundsException,"
                + " IllegalArgumentException, IllegalStateException`:");
        Sentences.holds("Adds a book of blank cheques.", ChangePromises::addsBlankCheques);
        Sentences.holds("Undoable.", () -> Checks.undone("book(0, 40)", x -> x.book(0, 40)));
        Sentences.holds("`first`: the first serial", () -> {
            for (int first : new int[] {0, 999960, 123456}) {
                ChequeSerials x = new ChequeSerials();
                x.book(first, 40);
                Checks.due("bookOf(0, 0)", x.bookOf(0, 0), first);
                Checks.due("the lowest serial", x.ranked(0), first);
                Checks.due("the highest serial", x.ranked(39), first + 39);
            }
        });
        Sentences.holds("`count`: 1 to 40", () -> {
            for (int count : new int[] {1, 2, 39, 40}) {
                ChequeSerials x = new ChequeSerials();
                Checks.due("book(7, " + count + ")", x.book(7, count), 0);
                Checks.due("its cheques", x.bookOf(0, 1), count);
            }
        });
        Sentences.holds("Returns its number.", () -> {
            ChequeSerials x = new ChequeSerials();
            for (int number = 0; number <= 5; number++) {
                int first = 900 - 100 * number;
                Checks.due("book(" + first + ", 2)", x.book(first, 2), number);
                Checks.due("its first serial", x.bookOf(number, 0), first);
            }
        });
        bookThrows();
    }

    private static void bookThrows() {
        Sentences.holds("Throws `IndexOutOfBoundsException` if there is no such serial as the first"
                + " or the last one", ChangePromises::noFirstOrLast);
        Sentences.holds("Throws `IllegalArgumentException` if count is out of range", () -> {
            for (int count : new int[] {0, 41, -1, LEAST, MOST}) {
                Checks.noArgument("book(7, " + count + ")", Checks::busy, x -> x.book(7, count));
                Checks.noArgument("a 7th book(70, " + count + ")", Checks::sixBooks,
                        x -> x.book(70, count));
            }
        });
        Sentences.holds("(this is looked at before the last serial is)", () -> {
            for (int count : new int[] {41, 42, MOST}) {
                Checks.noArgument("book(999999, " + count + ")", Checks::busy,
                        x -> x.book(999999, count));
                Checks.noArgument("book(999960, " + count + ")", Checks::busy,
                        x -> x.book(999960, count));
            }
            Checks.noArgument("book(0, 0), ending before the first serial", Checks::busy,
                    x -> x.book(0, 0));
            Checks.noIndex("book(999999, 40)", Checks::busy, x -> x.book(999999, 40));
        });
        Sentences.holds("Throws `IllegalStateException` if there are 6 books,", () -> {
            Checks.noState("a 7th book(70, 1)", Checks::sixBooks, x -> x.book(70, 1));
            Checks.noState("a 7th book(0, 10)", Checks::sixBooks, x -> x.book(0, 10));
            ChequeSerials x = Checks.sixBooks();
            x.undo();
            Checks.due("a 6th book(70, 1)", x.book(70, 1), 5);
        });
        Sentences.holds("or a serial would be in two books", ChangePromises::serialInTwoBooks);
    }

    /** Also where a book with other cheques was before. */
    private static void addsBlankCheques() {
        ChequeSerials x = new ChequeSerials();
        x.book(100, 40);
        Checks.due("blank cheques", x.count(2), 40);
        for (int serial = 100; serial < 140; serial++) {
            Checks.due("the kind of " + serial, x.cheque(serial, 0), 0);
            Checks.due("the amount of " + serial, x.cheque(serial, 1), 0);
        }
        x.write(100, 9);
        x.voidRun(101, 139);
        x.undo();
        x.undo();
        x.undo();
        x.book(99, 40);
        Checks.due("blank cheques after undo()", x.count(2), 40);
        Checks.due("amounts after undo()", x.count(6), 0);
        Checks.due("the amount of 100 after undo()", x.cheque(100, 1), 0);
        ChequeSerials y = Checks.busy();
        y.book(0, 3);
        Checks.due("the books before it stay", y.count(0), 3);
        Checks.due("their amounts stay", y.count(6), 1059);
        Checks.due("blank ones, three more", y.count(2), 13);
    }

    private static void noFirstOrLast() {
        for (int first : new int[] {-1, 1000000, LEAST, MOST}) {
            for (int count : new int[] {1, 40, 0, 41}) {
                Checks.noIndex("book(" + first + ", " + count + ")", Checks::busy,
                        x -> x.book(first, count));
            }
        }
        int[][] beyond = {{999999, 2}, {999999, 40}, {999961, 40}};
        for (int[] book : beyond) {
            Checks.noIndex("book(" + book[0] + ", " + book[1] + ")", Checks::busy,
                    x -> x.book(book[0], book[1]));
        }
        int[][] last = {{999999, 1}, {999998, 2}, {999960, 40}, {0, 1}};
        for (int[] book : last) {
            Checks.due("book(" + book[0] + ", " + book[1] + ")",
                    new ChequeSerials().book(book[0], book[1]), 0);
        }
    }

    private static ChequeSerials threeBooks() {
        ChequeSerials x = new ChequeSerials();
        x.book(300, 10);
        x.book(100, 10);
        x.book(200, 1);
        return x;
    }

    private static void serialInTwoBooks() {
        int[][] shared = {{100, 10}, {109, 1}, {100, 1}, {91, 10}, {105, 1}, {95, 30}, {200, 1},
            {199, 2}, {200, 2}, {190, 40}, {291, 10}, {309, 40}, {300, 11}};
        for (int[] book : shared) {
            Checks.noState("book(" + book[0] + ", " + book[1] + ")", ChangePromises::threeBooks,
                    x -> x.book(book[0], book[1]));
        }
        int[][] beside = {{90, 10}, {110, 40}, {199, 1}, {201, 40}, {260, 40}, {310, 1}};
        for (int[] book : beside) {
            Checks.due("book(" + book[0] + ", " + book[1] + ")",
                    threeBooks().book(book[0], book[1]), 3);
        }
        ChequeSerials x = threeBooks();
        x.voidRun(200, 200);
        Checks.noState("book(200, 1) over a void cheque", ChangePromises::threeBooks,
                y -> y.book(200, 1));
    }

    // ---- Promise 5

    private static void write() {
        Sentences.section("Promise 5");
        Sentences.bare("`int write(int serial, int amount) throws IndexOutOfBoundsException,"
                + " IllegalArgumentException, IllegalStateException`:");
        Sentences.holds("Writes a cheque.", () -> {
            ChequeSerials x = Checks.busy();
            x.write(505, 77);
            Checks.due("its kind", x.cheque(505, 0), 1);
            Checks.due("its amount", x.cheque(505, 1), 77);
            Checks.due("the kind before it", x.cheque(504, 0), 3);
            Checks.due("the kind behind it", x.cheque(506, 0), 0);
            Checks.due("the written ones", x.count(3), 4);
        });
        Sentences.holds("Undoable.", () -> Checks.undone("write(505, 1)", x -> x.write(505, 1)));
        Sentences.holds("`serial`: its serial", () -> {
            ChequeSerials x = new ChequeSerials();
            x.book(0, 40);
            x.book(999960, 40);
            for (int serial : new int[] {0, 39, 999960, 999999}) {
                x.write(serial, 5);
                Checks.due("the kind of " + serial, x.cheque(serial, 0), 1);
            }
            Checks.due("the written ones", x.count(3), 4);
            Checks.due("those of the first book", x.bookOf(0, 3), 2);
        });
        Sentences.holds("`amount`: 1 to 999", () -> {
            ChequeSerials x = new ChequeSerials();
            x.book(100, 4);
            int serial = 100;
            for (int amount : new int[] {1, 2, 998, 999}) {
                x.write(serial, amount);
                Checks.due("the amount " + amount, x.cheque(serial, 1), amount);
                serial++;
            }
            Checks.due("their sum", x.count(6), 2000);
        });
        Sentences.holds("Returns the index of its letter.", () -> {
            ChequeSerials x = new ChequeSerials();
            x.book(0, 40);
            Checks.due("write(000011), of the sum 11", x.write(11, 5), 0);
            Checks.due("write(000020), of the sum 10", x.write(20, 5), 10);
            x.modulus(26);
            Checks.due("write(000018), of the sum 53", x.write(18, 5), 1);
            Checks.due("write(000038), of the sum 63", x.write(38, 5), 11);
            x.weight(5, 9);
            Checks.due("write(000023), of the sum 37", x.write(23, 5), 11);
            Checks.due("write(000035), of the sum 60", x.write(35, 5), 8);
        });
        writeThrows();
    }

    private static void writeThrows() {
        Sentences.holds("Throws `IndexOutOfBoundsException` if there is no such cheque", () -> {
            for (int serial : new int[] {99, 105, 499, 510, -1, 1000000, LEAST, MOST}) {
                Checks.noIndex("write(" + serial + ", 1)", Checks::busy, x -> x.write(serial, 1));
                Checks.noIndex("write(" + serial + ", 0)", Checks::busy, x -> x.write(serial, 0));
            }
        });
        Sentences.holds("Throws `IllegalArgumentException` if amount is out of range", () -> {
            for (int amount : new int[] {0, 1000, -1, LEAST, MOST}) {
                Checks.noArgument("write(505, " + amount + ")", Checks::busy,
                        x -> x.write(505, amount));
                Checks.noArgument("write(501, " + amount + "), not blank", Checks::busy,
                        x -> x.write(501, amount));
            }
        });
        Sentences.holds("Throws `IllegalStateException` if it is not blank", () -> {
            for (int serial : new int[] {500, 501, 504, 100}) {
                Checks.noState("write(" + serial + ", 5)", Checks::busy, x -> x.write(serial, 5));
            }
        });
    }

    // ---- Promise 6

    private static void cash() {
        Sentences.section("Promise 6");
        Sentences.bare("`int cash(int serial, int letter) throws IndexOutOfBoundsException,"
                + " IllegalArgumentException`:");
        Sentences.holds("Cashes a cheque by a reading, unless this is refused.", () -> {
            ChequeSerials x = Checks.example();
            x.cash(501, x.letter(501) + 1);
            Checks.due("the kind if refused", x.cheque(501, 0), 1);
            Checks.due("refusals", x.count(8), 1);
            x.cash(501, x.letter(501));
            Checks.due("the kind if not", x.cheque(501, 0), 2);
            Checks.due("the kind of another", x.cheque(503, 0), 1);
            Checks.due("refusals after that", x.count(8), 1);
            Checks.due("the amount cashed", x.count(7), 30);
        });
        Sentences.holds("Undoable, also if it is refused.", () -> {
            Checks.undone("cash(501)", x -> x.cash(501, x.letter(501)));
            Checks.undone("cash(501), not right", x -> x.cash(501, 25));
            Checks.undone("cash(7), in no book", x -> x.cash(7, x.letter(7)));
            Checks.undone("cash(500), cashed", x -> x.cash(500, x.letter(500)));
        });
        Sentences.holds("`serial`: the serial that is read", () -> {
            ChequeSerials x = new ChequeSerials();
            x.book(0, 1);
            x.book(999999, 1);
            x.write(0, 5);
            x.write(999999, 6);
            Checks.due("cash(0, 0)", x.cash(0, 0), 5);
            Checks.due("cash(999999, 2)", x.cash(999999, 2), 6);
        });
        Sentences.holds("`letter`: the index of the letter that is read, 0 to 25", () -> {
            for (int rest : new int[] {0, 1, 24, 25}) {
                ChequeSerials x = Checks.lettered(26, 1, 1, 1, 1, 9, 8);
                int serial = rest == 0 ? 0 : rest == 1 ? 100000 : rest == 24 ? 3 : 100003;
                x.book(serial, 1);
                x.write(serial, 4);
                Checks.due("cash(" + serial + ", " + rest + ")", x.cash(serial, rest), 4);
            }
            for (int letter = 11; letter <= 25; letter++) {
                Checks.due("cash(501, " + letter + ")", Checks.example().cash(501, letter), -1);
            }
        });
        Sentences.holds("Returns its amount; minus the reason if it is refused.", () -> {
            ChequeSerials x = new ChequeSerials();
            x.book(100, 2);
            x.write(100, 1);
            x.write(101, 999);
            Checks.due("not right", x.cash(100, 5), -1);
            Checks.due("in no book", x.cash(102, 5), -2);
            Checks.due("cash(100, 4)", x.cash(100, 4), 1);
            Checks.due("cash(101, 10)", x.cash(101, 10), 999);
            Checks.due("not written", x.cash(101, 10), -3);
        });
        cashThrows();
    }

    private static void cashThrows() {
        Sentences.holds("Throws `IndexOutOfBoundsException` if there is no such serial", () -> {
            for (int serial : new int[] {-1, 1000000, LEAST, MOST}) {
                for (int letter : new int[] {0, 25, -1, 26}) {
                    Checks.noIndex("cash(" + serial + ", " + letter + ")", Checks::busy,
                            x -> x.cash(serial, letter));
                }
            }
        });
        Sentences.holds("Throws `IllegalArgumentException` if letter is out of range", () -> {
            for (int letter : new int[] {-1, 26, LEAST, MOST}) {
                for (int serial : new int[] {501, 0, 999999, 500}) {
                    Checks.noArgument("cash(" + serial + ", " + letter + ")", Checks::busy,
                            x -> x.cash(serial, letter));
                }
            }
        });
    }

    // ---- Promise 7

    private static void voidRun() {
        Sentences.section("Promise 7");
        Sentences.bare("`int voidRun(int from, int to) throws IndexOutOfBoundsException,"
                + " IllegalArgumentException`:");
        Sentences.holds("Makes all cheques of a run of serials void that can become void.", () -> {
            ChequeSerials x = Checks.busy();
            x.voidRun(0, 999999);
            for (int rank = 0; rank < 15; rank++) {
                int serial = x.ranked(rank);
                Checks.due("the kind of " + serial, x.cheque(serial, 0), serial == 500 ? 2 : 3);
            }
            Checks.due("the cashed amount", x.cheque(500, 1), 10);
        });
        Sentences.holds("Undoable.", () -> {
            Checks.undone("voidRun(0, 999999)", x -> x.voidRun(0, 999999));
            Checks.undone("voidRun(0, 0), of none", x -> x.voidRun(0, 0));
        });
        Sentences.holds("`from`: the first serial", () -> {
            ChequeSerials x = Checks.busy();
            Checks.due("voidRun(506, 999999)", x.voidRun(506, 999999), 4);
            Checks.due("the kind of 505", x.cheque(505, 0), 0);
            Checks.due("the kind of 506", x.cheque(506, 0), 3);
            Checks.due("voidRun(0, 100) up to the book's first", x.voidRun(0, 100), 1);
        });
        Sentences.holds("`to`: the last serial", () -> {
            ChequeSerials x = Checks.busy();
            Checks.due("voidRun(0, 102)", x.voidRun(0, 102), 3);
            Checks.due("the kind of 102", x.cheque(102, 0), 3);
            Checks.due("the kind of 103", x.cheque(103, 0), 0);
            Checks.due("voidRun(509, 999999) from the book's last", x.voidRun(509, 999999), 1);
        });
        Sentences.holds("Returns how many cheques become void.", ChangePromises::howManyBecomeVoid);
        Sentences.holds("Throws `IndexOutOfBoundsException` if there is no such serial", () -> {
            for (int serial : new int[] {-1, 1000000, LEAST, MOST}) {
                Checks.noIndex("voidRun(" + serial + ", 0)", Checks::busy,
                        x -> x.voidRun(serial, 0));
                Checks.noIndex("voidRun(" + serial + ", 999999)", Checks::busy,
                        x -> x.voidRun(serial, 999999));
                Checks.noIndex("voidRun(0, " + serial + ")", Checks::busy,
                        x -> x.voidRun(0, serial));
                Checks.noIndex("voidRun(999999, " + serial + ")", Checks::busy,
                        x -> x.voidRun(999999, serial));
            }
        });
        Sentences.holds("Throws `IllegalArgumentException` if to is less than from", () -> {
            Checks.noArgument("voidRun(501, 500)", Checks::busy, x -> x.voidRun(501, 500));
            Checks.noArgument("voidRun(1, 0)", Checks::busy, x -> x.voidRun(1, 0));
            Checks.noArgument("voidRun(999999, 0)", Checks::busy, x -> x.voidRun(999999, 0));
            Checks.due("voidRun(501, 501)", Checks.busy().voidRun(501, 501), 1);
            Checks.due("voidRun(0, 0)", Checks.busy().voidRun(0, 0), 0);
            Checks.due("voidRun(999999, 999999)", Checks.busy().voidRun(999999, 999999), 0);
        });
    }

    private static void howManyBecomeVoid() {
        ChequeSerials x = Checks.busy();
        Checks.due("a cashed one", x.voidRun(500, 500), 0);
        Checks.due("a void one", x.voidRun(504, 504), 0);
        Checks.due("serials without cheques", x.voidRun(105, 499), 0);
        Checks.due("a written and a blank one", x.voidRun(501, 502), 2);
        Checks.due("these again", x.voidRun(501, 502), 0);
        Checks.due("over both books", x.voidRun(104, 505), 3);
        Checks.due("all others", x.voidRun(0, 999999), 8);
        ChequeSerials full = new ChequeSerials();
        for (int number = 0; number < 6; number++) {
            full.book(1000 - 100 * number, 40);
        }
        Checks.due("six full books", full.voidRun(0, 999999), 240);
    }
}
