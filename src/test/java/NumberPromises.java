/** Promises 15 to 19 and 26, what is told of letters, cheques and books: each sentence's test. */
final class NumberPromises {
    private static final int MOST = Integer.MAX_VALUE;
    private static final int LEAST = Integer.MIN_VALUE;

    private NumberPromises() {
    }

    static void all() {
        letter();
        cheque();
        bookOf();
        count();
        ranked();
        cashed();
    }

    /** Book 0 from 40 to 79 and, before it, book 1 from 0 to 39, of all kinds at the edges. */
    private static ChequeSerials fullBooks() {
        ChequeSerials x = new ChequeSerials();
        x.book(40, 40);
        x.book(0, 40);
        x.write(40, 1);
        x.write(79, 20);
        x.write(0, 300);
        x.write(39, 999);
        x.cash(39, x.letter(39));
        x.cash(79, x.letter(79));
        x.voidRun(37, 38);
        return x;
    }

    // ---- Promise 15

    private static void letter() {
        Sentences.section("Promise 15");
        Sentences.bare("`int letter(int serial) throws IndexOutOfBoundsException`:");
        Sentences.holds("Returns the letter of a serial.", () -> {
            ChequeSerials x = new ChequeSerials();
            Checks.due("letter(123456)", x.letter(123456), 91 % 11);
            Checks.due("letter(654321)", x.letter(654321), 56 % 11);
            Checks.due("letter(000020), of the sum 10", x.letter(20), 10);
            Checks.due("letter(000011), of the sum 11", x.letter(11), 0);
            Checks.due("letter(000200), of the sum 8", x.letter(200), 8);
            x.book(200, 1);
            Checks.due("letter(000200) in a book", x.letter(200), 8);
        });
        Sentences.holds("`serial`: the serial", () -> {
            ChequeSerials x = new ChequeSerials();
            Checks.due("letter(0)", x.letter(0), 0);
            Checks.due("letter(1)", x.letter(1), 6);
            Checks.due("letter(999998)", x.letter(999998), 183 % 11);
            Checks.due("letter(999999)", x.letter(999999), 189 % 11);
        });
        Sentences.holds("Returns its index, 0 to 25.", () -> {
            ChequeSerials x = Checks.lettered(26, 1, 1, 1, 1, 1, 1);
            Checks.due("the lowest index", x.letter(0), 0);
            Checks.due("the highest index", x.letter(997000), 25);
            Checks.due("the lowest index again", x.letter(998000), 0);
        });
        Sentences.holds("Throws `IndexOutOfBoundsException` if there is no such serial", () -> {
            for (int serial : new int[] {-1, 1000000, LEAST, MOST}) {
                Checks.noIndex("letter(" + serial + ")", Checks::busy, x -> x.letter(serial));
            }
        });
    }

    // ---- Promise 16

    private static void cheque() {
        Sentences.section("Promise 16");
        Sentences.bare("`int cheque(int serial, int what) throws IndexOutOfBoundsException,"
                + " IllegalArgumentException`:");
        Sentences.bare("Returns a number of a cheque.");
        Sentences.holds("`serial`: its serial", () -> {
            ChequeSerials x = fullBooks();
            for (int serial = 0; serial <= 79; serial++) {
                Checks.due("the book of " + serial, x.cheque(serial, 2), serial < 40 ? 1 : 0);
                Checks.due("the place of " + serial, x.cheque(serial, 3), serial % 40);
            }
            ChequeSerials y = new ChequeSerials();
            y.book(999999, 1);
            Checks.due("cheque(999999, 2)", y.cheque(999999, 2), 0);
        });
        Sentences.holds("`what`: 0 what it is, 0 to 3,", () -> {
            ChequeSerials x = fullBooks();
            int[][] dues = {{0, 1}, {1, 0}, {36, 0}, {37, 3}, {38, 3}, {39, 2}, {40, 1}, {41, 0},
                {78, 0}, {79, 2}};
            for (int[] due : dues) {
                Checks.due("cheque(" + due[0] + ", 0)", x.cheque(due[0], 0), due[1]);
            }
        });
        Sentences.holds("1 its amount (0 if it has none),", () -> {
            ChequeSerials x = fullBooks();
            int[][] dues = {{0, 300}, {1, 0}, {37, 0}, {39, 999}, {40, 1}, {41, 0}, {79, 20}};
            for (int[] due : dues) {
                Checks.due("cheque(" + due[0] + ", 1)", x.cheque(due[0], 1), due[1]);
            }
            x.voidRun(40, 40);
            Checks.due("cheque(40, 1) when void", x.cheque(40, 1), 0);
        });
        Sentences.holds("2 its book,", () -> {
            ChequeSerials x = Checks.sixBooks();
            for (int book = 0; book <= 5; book++) {
                Checks.due("the book of a cheque", x.cheque(10 + 10 * book, 2), book);
            }
        });
        Sentences.holds("3 its place in the book, 0 for the first one,", () -> {
            ChequeSerials x = Checks.busy();
            for (int place = 0; place < 10; place++) {
                Checks.due("the place of " + (500 + place), x.cheque(500 + place, 3), place);
            }
            Checks.due("the place of 100", x.cheque(100, 3), 0);
            Checks.due("the place of 104", x.cheque(104, 3), 4);
            Checks.due("the last place of 40", fullBooks().cheque(79, 3), 39);
        });
        Sentences.holds("4 how many cheques from it on, without a gap, are in the same book and of"
                + " the same kind (blank, written, cashed or void), itself counted",
                NumberPromises::sameKindFrom);
        Sentences.bare("Returns the number.");
        chequeThrows();
    }

    private static void chequeThrows() {
        Sentences.holds("Throws `IndexOutOfBoundsException` if there is no such cheque", () -> {
            for (int serial : new int[] {99, 105, 499, 510, 0, 999999, -1, 1000000, LEAST, MOST}) {
                for (int what : new int[] {0, 4, -1, 5}) {
                    Checks.noIndex("cheque(" + serial + ", " + what + ")", Checks::busy,
                            x -> x.cheque(serial, what));
                }
            }
        });
        Sentences.holds("Throws `IllegalArgumentException` if what is not 0 to 4", () -> {
            for (int what : new int[] {-1, 5, LEAST, MOST}) {
                Checks.noArgument("cheque(501, " + what + ")", Checks::busy,
                        x -> x.cheque(501, what));
            }
        });
    }

    private static void sameKindFrom() {
        ChequeSerials x = fullBooks();
        int[][] dues = {{0, 1}, {1, 36}, {2, 35}, {36, 1}, {37, 2}, {38, 1}, {39, 1}, {40, 1},
            {41, 38}, {78, 1}, {79, 1}};
        for (int[] due : dues) {
            Checks.due("cheque(" + due[0] + ", 4)", x.cheque(due[0], 4), due[1]);
        }
        ChequeSerials y = new ChequeSerials();
        y.book(0, 40);
        y.book(40, 40);
        Checks.due("a whole book, with another one behind it", y.cheque(0, 4), 40);
        Checks.due("its last one", y.cheque(39, 4), 1);
        y.write(20, 5);
        Checks.due("up to a gap", y.cheque(0, 4), 20);
        y.write(21, 6);
        y.write(23, 7);
        Checks.due("two written ones of other amounts", y.cheque(20, 4), 2);
        y.cash(20, y.letter(20));
        Checks.due("a cashed one before a written one", y.cheque(20, 4), 1);
        y.cash(21, y.letter(21));
        Checks.due("two cashed ones", y.cheque(20, 4), 2);
        y.voidRun(30, 49);
        Checks.due("void ones up to the book's end", y.cheque(30, 4), 10);
        Checks.due("void ones in the next book", y.cheque(40, 4), 10);
        ChequeSerials z = new ChequeSerials();
        z.book(39, 1);
        z.book(0, 39);
        Checks.due("a short book, with another one behind it", z.cheque(0, 4), 39);
    }

    // ---- Promise 17

    private static void bookOf() {
        Sentences.section("Promise 17");
        Sentences.bare("`int bookOf(int book, int what) throws IndexOutOfBoundsException,"
                + " IllegalArgumentException`:");
        Sentences.bare("Returns a number of a book.");
        Sentences.holds("`book`: its number", () -> {
            ChequeSerials x = Checks.sixBooks();
            for (int book = 0; book <= 5; book++) {
                Checks.due("bookOf(" + book + ", 0)", x.bookOf(book, 0), 10 + 10 * book);
            }
        });
        Sentences.holds("`what`: 0 its first serial,", () -> bookNumbers(0, 40, 0));
        Sentences.holds("1 how many cheques it has,", () -> {
            bookNumbers(1, 40, 40);
            Checks.due("bookOf(0, 1) of one cheque", Checks.sixBooks().bookOf(0, 1), 1);
        });
        Sentences.holds("2 to 5 how many of these are blank, written, cashed and void,", () -> {
            bookNumbers(2, 38, 36);
            bookNumbers(3, 1, 1);
            bookNumbers(4, 1, 1);
            bookNumbers(5, 0, 2);
            ChequeSerials x = fullBooks();
            x.voidRun(0, 999999);
            Checks.due("blank ones when all are void", x.bookOf(0, 2), 0);
            Checks.due("written ones", x.bookOf(0, 3), 0);
            Checks.due("cashed ones", x.bookOf(0, 4), 1);
            Checks.due("void ones", x.bookOf(0, 5), 39);
        });
        bookOfAmountsAndBlank();
    }

    private static void bookOfAmountsAndBlank() {
        Sentences.holds("6 the amounts of those that are written together,", () -> {
            bookNumbers(6, 1, 300);
            ChequeSerials x = new ChequeSerials();
            x.book(0, 40);
            Checks.due("no amount", x.bookOf(0, 6), 0);
            for (int serial = 0; serial < 40; serial++) {
                x.write(serial, 999);
            }
            Checks.due("the largest amount", x.bookOf(0, 6), 40 * 999);
        });
        Sentences.holds("7 the amounts of those that are cashed together,", () -> {
            bookNumbers(7, 20, 999);
            ChequeSerials x = new ChequeSerials();
            x.book(0, 40);
            for (int serial = 0; serial < 40; serial++) {
                x.write(serial, 999);
                Checks.due("no more cashed by writing", x.bookOf(0, 7), serial * 999);
                x.cash(serial, x.letter(serial));
            }
            Checks.due("the largest amount", x.bookOf(0, 7), 40 * 999);
        });
        Sentences.holds("8 the first serial that is blank (NONE if there is none)", () -> {
            bookNumbers(8, 41, 1);
            ChequeSerials x = fullBooks();
            x.voidRun(41, 77);
            Checks.due("the last but one is blank alone", x.bookOf(0, 8), 78);
            x.write(78, 1);
            Checks.due("none is blank", x.bookOf(0, 8), -1);
            Checks.due("the first blank one of the other book", x.bookOf(1, 8), 1);
            Checks.due("a new book's first", Checks.sixBooks().bookOf(5, 8), 60);
            ChequeSerials y = new ChequeSerials();
            y.book(0, 1);
            Checks.due("the serial 0 is blank", y.bookOf(0, 8), 0);
        });
        Sentences.bare("Returns the number.");
        bookOfThrows();
    }

    private static void bookOfThrows() {
        Sentences.holds("Throws `IndexOutOfBoundsException` if there is no such book", () -> {
            for (int book : new int[] {-1, 2, 6, LEAST, MOST}) {
                for (int what : new int[] {0, 8, -1, 9}) {
                    Checks.noIndex("bookOf(" + book + ", " + what + ")", Checks::busy,
                            x -> x.bookOf(book, what));
                }
            }
            Checks.noIndex("bookOf(0, 0) without books", ChequeSerials::new, x -> x.bookOf(0, 0));
            Checks.noIndex("bookOf(6, 0) of six", Checks::sixBooks, x -> x.bookOf(6, 0));
            Checks.noIndex("bookOf(5, 0) after undo()", () -> {
                ChequeSerials x = Checks.sixBooks();
                x.undo();
                return x;
            }, x -> x.bookOf(5, 0));
        });
        Sentences.holds("Throws `IllegalArgumentException` if what is not 0 to 8", () -> {
            for (int what : new int[] {-1, 9, LEAST, MOST}) {
                Checks.noArgument("bookOf(1, " + what + ")", Checks::busy,
                        x -> x.bookOf(1, what));
            }
        });
    }

    private static void bookNumbers(int what, int dueOf0, int dueOf1) {
        ChequeSerials x = fullBooks();
        Checks.due("bookOf(0, " + what + ")", x.bookOf(0, what), dueOf0);
        Checks.due("bookOf(1, " + what + ")", x.bookOf(1, what), dueOf1);
    }

    // ---- Promise 18

    private static void count() {
        Sentences.section("Promise 18");
        Sentences.bare("`int count(int what) throws IllegalArgumentException`:");
        Sentences.bare("Returns a number.");
        Sentences.holds("`what`: 0 the books,", () -> {
            Checks.due("count(0) at first", new ChequeSerials().count(0), 0);
            Checks.due("count(0)", fullBooks().count(0), 2);
            Checks.due("count(0) of six", Checks.sixBooks().count(0), 6);
        });
        Sentences.holds("1 the cheques,", () -> {
            Checks.due("count(1) at first", new ChequeSerials().count(1), 0);
            Checks.due("count(1)", fullBooks().count(1), 80);
            Checks.due("count(1) of six full books", sixFullBooks().count(1), 240);
        });
        Sentences.holds("2 to 5 those that are blank, written, cashed and void,", () -> {
            int[] dues = {74, 2, 2, 2};
            for (int what = 2; what <= 5; what++) {
                Checks.due("count(" + what + ") at first", new ChequeSerials().count(what), 0);
                Checks.due("count(" + what + ")", fullBooks().count(what), dues[what - 2]);
                Checks.due("count(" + what + ") of blank ones", sixFullBooks().count(what),
                        what == 2 ? 240 : 0);
            }
            ChequeSerials x = sixFullBooks();
            x.voidRun(0, 999999);
            Checks.due("count(2) when all are void", x.count(2), 0);
            Checks.due("count(5) when all are void", x.count(5), 240);
        });
        Sentences.holds("6 the amounts of all that are written,", () -> {
            Checks.due("count(6) at first", new ChequeSerials().count(6), 0);
            Checks.due("count(6)", fullBooks().count(6), 301);
            ChequeSerials x = sixFullBooks();
            for (int rank = 0; rank < 240; rank++) {
                x.write(x.ranked(rank), 999);
            }
            Checks.due("count(6) at most", x.count(6), 240 * 999);
        });
        Sentences.holds("7 the amounts of all that are cashed,", () -> {
            Checks.due("count(7) at first", new ChequeSerials().count(7), 0);
            Checks.due("count(7)", fullBooks().count(7), 1019);
            ChequeSerials x = fullBooks();
            x.voidRun(0, 999999);
            Checks.due("count(7) when all others are void", x.count(7), 1019);
        });
        countOthers();
    }

    private static void countOthers() {
        Sentences.holds("8 the refusals so far,", NumberPromises::refusalsSoFar);
        Sentences.holds("9 the modulus,", () -> {
            Checks.due("count(9) at first", new ChequeSerials().count(9), 11);
            Checks.due("count(9) of 7", Checks.lettered(7).count(9), 7);
            Checks.due("count(9) of 26", Checks.lettered(26).count(9), 26);
        });
        Sentences.holds("10 the number of saved states,", () -> {
            ChequeSerials x = new ChequeSerials();
            for (int calls = 0; calls <= 8; calls++) {
                Checks.due("count(10) after " + calls, x.count(10), Math.min(6, calls));
                x.modulus(11);
            }
            x.undo();
            Checks.due("count(10) after undo()", x.count(10), 5);
        });
        Sentences.holds("11 the length of the buffer,", () -> {
            ChequeSerials x = new ChequeSerials();
            for (int length = 0; length <= 60; length++) {
                Checks.due("count(11)", x.count(11), length);
                if (length < 60) {
                    x.append('!');
                }
            }
            x.clearBuffer();
            Checks.due("count(11) when cleared", x.count(11), 0);
        });
        Sentences.holds("12 to 17 the weights of the positions 0 to 5", () -> {
            ChequeSerials x = new ChequeSerials();
            for (int position = 0; position <= 5; position++) {
                Checks.due("the weight at first", x.count(12 + position), 1 + position);
                x.weight(position, 9 - position);
            }
            for (int position = 0; position <= 5; position++) {
                Checks.due("the weight then", x.count(12 + position), 9 - position);
            }
        });
        Sentences.bare("Returns the number.");
        Sentences.holds("Throws `IllegalArgumentException` if what is not 0 to 17", () -> {
            for (int what : new int[] {-1, 18, LEAST, MOST}) {
                Checks.noArgument("count(" + what + ")", Checks::busy, x -> x.count(what));
            }
        });
    }

    private static ChequeSerials sixFullBooks() {
        ChequeSerials x = new ChequeSerials();
        for (int first = 999960; first >= 999760; first -= 40) {
            x.book(first, 40);
        }
        return x;
    }

    private static void refusalsSoFar() {
        ChequeSerials x = new ChequeSerials();
        x.book(100, 2);
        x.write(100, 7);
        Checks.due("count(8) at first", x.count(8), 0);
        x.cash(100, 5);
        Checks.due("count(8) with one that is not right", x.count(8), 1);
        x.cash(102, x.letter(102));
        Checks.due("count(8) with one in no book", x.count(8), 2);
        x.cash(101, x.letter(101));
        Checks.due("count(8) with one that is not written", x.count(8), 3);
        x.cash(100, 4);
        Checks.due("count(8) with one that is not refused", x.count(8), 3);
        Checks.type(x, "c000100E");
        x.execute();
        Checks.due("count(8) with an order", x.count(8), 4);
        x.undo();
        Checks.due("count(8) with that undone", x.count(8), 3);
        ChequeSerials y = new ChequeSerials();
        for (int refusals = 1; refusals <= 500; refusals++) {
            y.cash(0, 1);
        }
        Checks.due("count(8) of 500", y.count(8), 500);
    }

    // ---- Promise 19

    private static void ranked() {
        Sentences.section("Promise 19");
        Sentences.bare("`int ranked(int rank) throws IllegalArgumentException`:");
        Sentences.holds("Returns the cheque with a rank.", () -> {
            ChequeSerials x = fullBooks();
            for (int rank = 0; rank < 80; rank++) {
                Checks.due("ranked(" + rank + ")", x.ranked(rank), rank);
            }
        });
        Sentences.holds("`rank`: 0 for the lowest serial that is in a book, 1 for the next one, and"
                + " so on", () -> {
            ChequeSerials x = new ChequeSerials();
            int[] firsts = {500, 100, 999998, 0, 300, 200};
            for (int first : firsts) {
                x.book(first, 2);
            }
            int[] dues = {0, 1, 100, 101, 200, 201, 300, 301, 500, 501, 999998, 999999};
            for (int rank = 0; rank < dues.length; rank++) {
                Checks.due("ranked(" + rank + ")", x.ranked(rank), dues[rank]);
            }
        });
        Sentences.bare("Returns the serial;");
        Sentences.holds("NONE if there are not so many.", () -> {
            Checks.due("ranked(0) without cheques", new ChequeSerials().ranked(0), -1);
            Checks.due("ranked(most) without cheques", new ChequeSerials().ranked(MOST), -1);
            Checks.due("ranked(79) of 80", fullBooks().ranked(79), 79);
            Checks.due("ranked(80) of 80", fullBooks().ranked(80), -1);
            Checks.due("ranked(239) of 240", sixFullBooks().ranked(239), 999999);
            Checks.due("ranked(240) of 240", sixFullBooks().ranked(240), -1);
            Checks.due("ranked(most) of 240", sixFullBooks().ranked(MOST), -1);
            ChequeSerials x = Checks.sixBooks();
            x.undo();
            Checks.due("ranked(5) with a book undone", x.ranked(5), -1);
        });
        Sentences.holds("Throws `IllegalArgumentException` if rank is negative", () -> {
            Checks.noArgument("ranked(-1)", Checks::busy, x -> x.ranked(-1));
            Checks.noArgument("ranked(lowest)", Checks::busy, x -> x.ranked(LEAST));
            Checks.noArgument("ranked(-1) without cheques", ChequeSerials::new, x -> x.ranked(-1));
        });
    }

    // ---- Promise 26

    private static void cashed() {
        Sentences.section("Promise 26");
        Sentences.bare("`double cashed()`:");
        Sentences.holds("Returns the share of cheques that are cashed.", () -> {
            ChequeSerials x = new ChequeSerials();
            x.book(100, 1);
            x.book(7, 1);
            Checks.due("cashed() of blank ones", x.cashed(), 0.0);
            x.write(7, 999);
            Checks.due("cashed() of a written one", x.cashed(), 0.0);
            x.cash(7, x.letter(7));
            Checks.due("cashed() of one of two", x.cashed(), 0.5);
            x.voidRun(0, 999999);
            Checks.due("cashed() with a void one", x.cashed(), 0.5);
            x.undo();
            x.write(100, 1);
            x.cash(100, x.letter(100));
            Checks.due("cashed() of all", x.cashed(), 1.0);
        });
        Sentences.holds("Returns the cashed cheques as a double, divided by all cheques as a"
                + " double;", () -> {
            ChequeSerials x = sixFullBooks();
            for (int rank = 0; rank < 240; rank += 10) {
                int serial = x.ranked(rank);
                x.write(serial, 5);
                x.cash(serial, x.letter(serial));
                Checks.due("cashed() of " + (1 + rank / 10), x.cashed(), (1.0 + rank / 10) / 240.0);
            }
            ChequeSerials y = new ChequeSerials();
            y.book(0, 3);
            y.write(0, 1);
            y.cash(0, 0);
            Checks.due("cashed() of a third", y.cashed(), 1.0 / 3.0);
        });
        Sentences.holds("0.0 without cheques.", () -> {
            Checks.due("cashed() at first", new ChequeSerials().cashed(), 0.0);
            ChequeSerials x = new ChequeSerials();
            x.book(0, 1);
            x.write(0, 1);
            x.cash(0, 0);
            Checks.due("cashed() of the only one", x.cashed(), 1.0);
            x.undo();
            x.undo();
            x.undo();
            Checks.due("cashed() with all undone", x.cashed(), 0.0);
        });
    }
}
