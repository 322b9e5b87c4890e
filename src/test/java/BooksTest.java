/** Promises 4 to 7, 16 to 19 and 26: books, what becomes of cheques, and what is told of them. */
public final class BooksTest {
    public static void main(String[] args) {
        promise4Book();
        promise4BookOverlaps();
        promise4BookThrows();
        promise5Write();
        promise5WriteThrows();
        promise6Cash();
        promise6CashThrows();
        promise7VoidRun();
        promise7VoidRunThrows();
        promise16Cheque();
        promise16SameKind();
        promise16ChequeThrows();
        promise17BookOf();
        promise17BookOfThrows();
        promise18Count();
        promise18CountThrows();
        promise19Ranked();
        promise26Cashed();
        Checks.end();
    }

    private static ChequeSerials sixBooks() {
        ChequeSerials x = new ChequeSerials();
        int[] firsts = {300, 100, 999960, 0, 140, 200};
        for (int first : firsts) {
            x.book(first, 40);
        }
        return x;
    }

    private static void promise4Book() {
        ChequeSerials x = new ChequeSerials();
        Checks.due("book(300, 40)", x.book(300, 40), 0);
        Checks.due("book(100, 1)", x.book(100, 1), 1);
        Checks.due("book(0, 40)", x.book(0, 40), 2);
        Checks.due("book(999999, 1)", x.book(999999, 1), 3);
        Checks.due("book(999959, 40)", x.book(999959, 40), 4);
        Checks.due("book(99, 1)", x.book(99, 1), 5);
        Checks.due("books", x.count(0), 6);
        Checks.due("cheques", x.count(1), 123);
        Checks.due("blank cheques", x.count(2), 123);
        x.undo();
        Checks.due("books after undo", x.count(0), 5);
        Checks.due("book(101, 3) after undo", x.book(101, 3), 5);
        Checks.due("its first serial", x.bookOf(5, 0), 101);
        x.write(101, 5);
        x.write(102, 6);
        x.undo();
        x.undo();
        x.undo();
        Checks.due("book(101, 3) anew", x.book(101, 3), 5);
        Checks.due("its cheques are blank", x.bookOf(5, 2), 3);
        Checks.due("its amounts", x.cheque(101, 1), 0);
    }

    private static void promise4BookOverlaps() {
        int[][] refused = {{100, 10}, {99, 2}, {90, 11}, {109, 1}, {109, 40}, {70, 40}, {104, 1},
            {95, 20}};
        for (int[] book : refused) {
            Checks.noState("book(" + book[0] + ", " + book[1] + ") over 100 to 109", () -> {
                ChequeSerials x = new ChequeSerials();
                x.book(100, 10);
                x.book(200, 10);
                return x;
            }, x -> x.book(book[0], book[1]));
        }
        int[][] taken = {{99, 1}, {60, 40}, {110, 40}};
        for (int[] book : taken) {
            ChequeSerials x = new ChequeSerials();
            x.book(100, 10);
            Checks.due("book(" + book[0] + ", " + book[1] + ")", x.book(book[0], book[1]), 1);
        }
    }

    private static void promise4BookThrows() {
        int[] firsts = {-1, 1000000, Integer.MIN_VALUE, Integer.MAX_VALUE};
        for (int first : firsts) {
            Checks.noIndex("book(no serial, 1)", Checks::example, x -> x.book(first, 1));
            Checks.noIndex("book(no serial, 0)", Checks::example, x -> x.book(first, 0));
            Checks.noIndex("book(no serial, 41)", Checks::example, x -> x.book(first, 41));
            Checks.noIndex("a 7th book(no serial, 1)", BooksTest::sixBooks, x -> x.book(first, 1));
        }
        int[] counts = {0, 41, -1, Integer.MIN_VALUE, Integer.MAX_VALUE};
        for (int count : counts) {
            Checks.noArgument("book(7, no count)", Checks::example, x -> x.book(7, count));
            Checks.noArgument("book(999999, no count)", Checks::example,
                    x -> x.book(999999, count));
            Checks.noArgument("book(500, no count)", Checks::example, x -> x.book(500, count));
            Checks.noArgument("a 7th book(50, no count)", BooksTest::sixBooks,
                    x -> x.book(50, count));
        }
        Checks.noIndex("book(999999, 2)", Checks::example, x -> x.book(999999, 2));
        Checks.noIndex("book(999961, 40)", Checks::example, x -> x.book(999961, 40));
        Checks.noIndex("a 7th book(999999, 2)", BooksTest::sixBooks, x -> x.book(999999, 2));
        Checks.noState("a 7th book(50, 1)", BooksTest::sixBooks, x -> x.book(50, 1));
    }

    private static void promise5Write() {
        ChequeSerials x = new ChequeSerials();
        x.book(123450, 20);
        Checks.due("write(123456, 1)", x.write(123456, 1), 3);
        Checks.due("write(123450, 999)", x.write(123450, 999), (91 - 36) % 11);
        Checks.due("write(123469, 5)", x.write(123469, 5), (91 + 5 + 18) % 11);
        Checks.due("cheque(123456, 0)", x.cheque(123456, 0), 1);
        Checks.due("cheque(123456, 1)", x.cheque(123456, 1), 1);
        Checks.due("cheque(123450, 1)", x.cheque(123450, 1), 999);
        Checks.due("cheque(123457, 0)", x.cheque(123457, 0), 0);
        Checks.due("saved states", x.count(10), 4);
        x.undo();
        Checks.due("write undone", x.cheque(123469, 0), 0);
        Checks.due("its amount undone", x.cheque(123469, 1), 0);
        x.modulus(26);
        Checks.due("write(123469, 6) modulo 26", x.write(123469, 6), (91 + 5 + 18) % 26);
    }

    private static void promise5WriteThrows() {
        int[] serials = {-1, 1000000, 0, 99, 105, 499, 510, Integer.MIN_VALUE, Integer.MAX_VALUE};
        for (int serial : serials) {
            Checks.noIndex("write(no cheque, 1)", Checks::example, x -> x.write(serial, 1));
            Checks.noIndex("write(no cheque, 0)", Checks::example, x -> x.write(serial, 0));
        }
        int[] amounts = {0, 1000, -1, Integer.MIN_VALUE, Integer.MAX_VALUE};
        for (int amount : amounts) {
            Checks.noArgument("write(502, no amount)", Checks::example, x -> x.write(502, amount));
            Checks.noArgument("write(501, no amount)", Checks::example, x -> x.write(501, amount));
        }
        int[] used = {500, 501, 504};
        for (int serial : used) {
            Checks.noState("write(no blank cheque, 7)", Checks::example, x -> x.write(serial, 7));
        }
    }

    private static void promise6Cash() {
        ChequeSerials x = new ChequeSerials();
        x.book(10, 5);
        x.write(11, 42);
        Checks.due("cash(11, 10)", x.cash(11, 10), -1);
        Checks.due("refusals", x.count(8), 1);
        Checks.due("saved also if refused", x.count(10), 3);
        Checks.due("cash(11, 0)", x.cash(11, 0), 42);
        Checks.due("it is cashed", x.cheque(11, 0), 2);
        Checks.due("it keeps its amount", x.cheque(11, 1), 42);
        Checks.due("refusals stay", x.count(8), 1);
        Checks.due("cash(11, 0) again", x.cash(11, 0), -3);
        Checks.due("cash(11, 1) of a cashed cheque", x.cash(11, 1), -1);
        Checks.due("cash(12, 6) of a blank cheque", x.cash(12, 6), -3);
        Checks.due("cash(15, 2) of no cheque", x.cash(15, 2), -2);
        Checks.due("cash(15, 3) of no cheque", x.cash(15, 3), -1);
        Checks.due("cash(11, 25)", x.cash(11, 25), -1);
        Checks.due("cash(11, 11)", x.cash(11, 11), -1);
        Checks.due("refusals in the end", x.count(8), 8);
        x.undo();
        Checks.due("a refusal undone", x.count(8), 7);
        x.voidRun(12, 12);
        Checks.due("cash(12, 6) of a void cheque", x.cash(12, 6), -3);
        x.modulus(7);
        Checks.due("cash(14, 1) by another modulus", x.cash(14, 1), -3);
        Checks.due("cash(14, 7) by the old letter", x.cash(14, 7), -1);
    }

    private static void promise6CashThrows() {
        int[] serials = {-1, 1000000, Integer.MIN_VALUE, Integer.MAX_VALUE};
        for (int serial : serials) {
            Checks.noIndex("cash(no serial, 0)", Checks::example, x -> x.cash(serial, 0));
            Checks.noIndex("cash(no serial, 26)", Checks::example, x -> x.cash(serial, 26));
        }
        int[] letters = {-1, 26, Integer.MIN_VALUE, Integer.MAX_VALUE};
        for (int letter : letters) {
            Checks.noArgument("cash(501, no letter)", Checks::example, x -> x.cash(501, letter));
            Checks.noArgument("cash(7, no letter)", Checks::example, x -> x.cash(7, letter));
        }
    }

    private static void promise7VoidRun() {
        ChequeSerials x = Checks.example();
        Checks.due("voidRun(103, 502)", x.voidRun(103, 502), 4);
        Checks.due("cheque(102, 0)", x.cheque(102, 0), 0);
        Checks.due("cheque(103, 0)", x.cheque(103, 0), 3);
        Checks.due("cheque(104, 0)", x.cheque(104, 0), 3);
        Checks.due("cheque(500, 0), cashed", x.cheque(500, 0), 2);
        Checks.due("cheque(501, 0), written", x.cheque(501, 0), 3);
        Checks.due("cheque(501, 1)", x.cheque(501, 1), 0);
        Checks.due("cheque(502, 0)", x.cheque(502, 0), 3);
        Checks.due("cheque(503, 0)", x.cheque(503, 0), 1);
        Checks.due("voidRun(103, 502) again", x.voidRun(103, 502), 0);
        Checks.due("voidRun(503, 503)", x.voidRun(503, 503), 1);
        Checks.due("voidRun(600, 700)", x.voidRun(600, 700), 0);
        Checks.due("voidRun(0, 999999)", x.voidRun(0, 999999), 8);
        Checks.due("void cheques", x.count(5), 14);
        x.undo();
        x.undo();
        x.undo();
        x.undo();
        Checks.due("voids undone up to the first run", x.count(5), 5);
        x.undo();
        Checks.due("the first run undone", x.cheque(501, 1), 20);
    }

    private static void promise7VoidRunThrows() {
        int[] serials = {-1, 1000000, Integer.MIN_VALUE, Integer.MAX_VALUE};
        for (int serial : serials) {
            Checks.noIndex("voidRun(no serial, 600)", Checks::example, x -> x.voidRun(serial, 600));
            Checks.noIndex("voidRun(100, no serial)", Checks::example, x -> x.voidRun(100, serial));
            Checks.noIndex("voidRun(999999, no serial)", Checks::example,
                    x -> x.voidRun(999999, serial));
        }
        Checks.noArgument("voidRun(501, 500)", Checks::example, x -> x.voidRun(501, 500));
        Checks.noArgument("voidRun(999999, 0)", Checks::example, x -> x.voidRun(999999, 0));
    }

    private static void promise16Cheque() {
        ChequeSerials x = Checks.example();
        int[][] due = {
            {500, 2, 10, 0, 0, 1}, {501, 1, 20, 0, 1, 1}, {502, 0, 0, 0, 2, 1},
            {503, 1, 40, 0, 3, 1}, {504, 3, 0, 0, 4, 1}, {505, 0, 0, 0, 5, 5}, {509, 0, 0, 0, 9, 1},
            {100, 1, 999, 1, 0, 1}, {101, 0, 0, 1, 1, 4}, {104, 0, 0, 1, 4, 1}};
        for (int[] row : due) {
            for (int what = 0; what <= 4; what++) {
                Checks.due("cheque(" + row[0] + ", " + what + ")", x.cheque(row[0], what),
                        row[1 + what]);
            }
        }
        Checks.due("cheque saves nothing", x.count(10), 6);
    }

    private static void promise16SameKind() {
        ChequeSerials x = new ChequeSerials();
        x.book(10, 40);
        x.book(50, 2);
        Checks.due("cheque(10, 4), up to the book's end", x.cheque(10, 4), 40);
        Checks.due("cheque(49, 4), beside another book", x.cheque(49, 4), 1);
        x.write(20, 3);
        x.write(21, 4);
        x.cash(20, x.letter(20));
        Checks.due("cheque(10, 4), up to a written one", x.cheque(10, 4), 10);
        Checks.due("cheque(20, 4), cashed", x.cheque(20, 4), 1);
        Checks.due("cheque(21, 4), written", x.cheque(21, 4), 1);
        Checks.due("cheque(22, 4), blank", x.cheque(22, 4), 28);
        x.voidRun(45, 51);
        Checks.due("cheque(45, 4), void", x.cheque(45, 4), 5);
        Checks.due("cheque(50, 4), void", x.cheque(50, 4), 2);
    }

    private static void promise16ChequeThrows() {
        int[] serials = {-1, 1000000, 0, 99, 105, 499, 510, Integer.MIN_VALUE, Integer.MAX_VALUE};
        for (int serial : serials) {
            Checks.noIndex("cheque(no cheque, 0)", Checks::example, x -> x.cheque(serial, 0));
            Checks.noIndex("cheque(no cheque, 5)", Checks::example, x -> x.cheque(serial, 5));
        }
        int[] whats = {-1, 5, Integer.MIN_VALUE, Integer.MAX_VALUE};
        for (int what : whats) {
            Checks.noArgument("cheque(500, no what)", Checks::example, x -> x.cheque(500, what));
        }
    }

    private static void promise17BookOf() {
        ChequeSerials x = Checks.example();
        int[][] due = {{500, 10, 6, 2, 1, 1, 60, 10, 502}, {100, 5, 4, 1, 0, 0, 999, 0, 101}};
        for (int book = 0; book < 2; book++) {
            for (int what = 0; what <= 8; what++) {
                Checks.due("bookOf(" + book + ", " + what + ")", x.bookOf(book, what),
                        due[book][what]);
            }
        }
        x.voidRun(100, 104);
        int[] after = {100, 5, 0, 0, 0, 5, 0, 0, -1};
        for (int what = 0; what <= 8; what++) {
            Checks.due("bookOf(1, " + what + ") when void", x.bookOf(1, what), after[what]);
        }
        x.book(0, 1);
        Checks.due("bookOf(2, 8)", x.bookOf(2, 8), 0);
        fullBooksSideBySide();
    }

    private static void fullBooksSideBySide() {
        ChequeSerials x = new ChequeSerials();
        x.book(0, 40);
        x.book(40, 40);
        x.write(0, 1);
        x.write(39, 20);
        x.write(40, 300);
        x.write(79, 500);
        Checks.due("written amounts of the first full book", x.bookOf(0, 6), 21);
        Checks.due("written amounts of the second full book", x.bookOf(1, 6), 800);
        Checks.due("written cheques of the first full book", x.bookOf(0, 3), 2);
        for (int serial = 0; serial <= 79; serial += serial % 40 == 0 ? 39 : 1) {
            x.cash(serial, x.letter(serial));
        }
        Checks.due("cashed amounts of the first full book", x.bookOf(0, 7), 21);
        Checks.due("cashed amounts of the second full book", x.bookOf(1, 7), 800);
        x.voidRun(0, 39);
        Checks.due("first blank cheque of the first full book", x.bookOf(0, 8), -1);
        Checks.due("void cheques of the first full book", x.bookOf(0, 5), 38);
        Checks.due("first blank cheque of the second full book", x.bookOf(1, 8), 41);
    }

    private static void promise17BookOfThrows() {
        int[] books = {-1, 2, 6, Integer.MIN_VALUE, Integer.MAX_VALUE};
        for (int book : books) {
            Checks.noIndex("bookOf(no book, 0)", Checks::example, x -> x.bookOf(book, 0));
            Checks.noIndex("bookOf(no book, 9)", Checks::example, x -> x.bookOf(book, 9));
        }
        int[] whats = {-1, 9, Integer.MIN_VALUE, Integer.MAX_VALUE};
        for (int what : whats) {
            Checks.noArgument("bookOf(0, no what)", Checks::example, x -> x.bookOf(0, what));
        }
        Checks.noIndex("bookOf(6, 0) of six books", BooksTest::sixBooks, x -> x.bookOf(6, 0));
    }

    private static void promise18Count() {
        ChequeSerials x = Checks.example();
        x.cash(500, 25);
        x.weight(0, 9);
        x.weight(5, 8);
        x.modulus(13);
        Checks.type(x, "b01");
        int[] due = {2, 15, 10, 3, 1, 1, 1059, 10, 1, 13, 6, 3, 9, 2, 3, 4, 5, 8};
        for (int what = 0; what < due.length; what++) {
            Checks.due("count(" + what + ")", x.count(what), due[what]);
        }
    }

    private static void promise18CountThrows() {
        int[] whats = {-1, 18, Integer.MIN_VALUE, Integer.MAX_VALUE};
        for (int what : whats) {
            Checks.noArgument("count(no what)", Checks::example, x -> x.count(what));
        }
    }

    private static void promise19Ranked() {
        ChequeSerials x = sixBooks();
        int[][] due = {{0, 0}, {39, 39}, {40, 100}, {79, 139}, {80, 140}, {119, 179}, {120, 200},
            {160, 300}, {199, 339}, {200, 999960}, {239, 999999}, {240, -1},
            {Integer.MAX_VALUE, -1}};
        for (int[] row : due) {
            Checks.due("ranked(" + row[0] + ")", x.ranked(row[0]), row[1]);
        }
        ChequeSerials y = Checks.example();
        Checks.due("ranked(0), void or not", y.ranked(0), 100);
        Checks.due("ranked(9)", y.ranked(9), 504);
        Checks.due("ranked(14)", y.ranked(14), 509);
        Checks.due("ranked(15)", y.ranked(15), -1);
        Checks.noArgument("ranked(-1)", Checks::example, z -> z.ranked(-1));
        Checks.noArgument("ranked(lowest)", Checks::example, z -> z.ranked(Integer.MIN_VALUE));
    }

    private static void promise26Cashed() {
        ChequeSerials x = new ChequeSerials();
        Checks.due("cashed() without cheques", x.cashed(), 0.0);
        x.book(100, 2);
        x.book(10, 1);
        Checks.due("cashed() of blank cheques", x.cashed(), 0.0);
        x.write(100, 7);
        Checks.due("cashed() of written cheques", x.cashed(), 0.0);
        x.cash(100, 4);
        Checks.due("cashed()", x.cashed(), 1.0 / 3.0);
        x.write(10, 7);
        x.cash(10, 5);
        Checks.due("cashed()", x.cashed(), 2.0 / 3.0);
        x.write(101, 7);
        x.cash(101, 10);
        Checks.due("cashed() of all", x.cashed(), 1.0);
        x.book(200, 40);
        Checks.due("cashed()", x.cashed(), 3.0 / 43.0);
        x.voidRun(0, 999999);
        Checks.due("cashed() counts void cheques", x.cashed(), 3.0 / 43.0);
    }
}
