/** The document's terms, from "Serials and letters" to "Cashing": each sentence with its test. */
final class ChequeTerms {
    private static final int MOST = Integer.MAX_VALUE;
    private static final int LEAST = Integer.MIN_VALUE;

    private ChequeTerms() {
    }

    static void all() {
        serialsAndLetters();
        booksAndCheques();
        readingsAndSlips();
        cashing();
    }

    // ---- Serials and letters

    private static void serialsAndLetters() {
        Sentences.section("Terms");
        Sentences.bare("All numbers are integers, unless a double is mentioned.");
        Sentences.section("Serials and letters");
        Sentences.holds("A serial is a number from 0 to 999999,", ChequeTerms::serialsEnds);
        Sentences.holds("written with six digits (with zeros in front).",
                ChequeTerms::zerosInFront);
        Sentences.holds("Its digits have the positions 0 to 5, from the left.",
                ChequeTerms::positionsFromTheLeft);
        Sentences.holds("Each position has a weight from 1 to 9,", ChequeTerms::weightsEnds);
        Sentences.holds("at first 1 + the position.", ChequeTerms::firstWeights);
        Sentences.holds("The modulus is 7 to 26,", ChequeTerms::moduliEnds);
        Sentences.holds("at first 11.", ChequeTerms::firstModulus);
        Sentences.holds("The rest of a serial is the sum of weight times digit over all positions,"
                + " modulo the modulus.", ChequeTerms::restWrapsAround);
        Sentences.holds("Its letter is the one with the index of the rest in the alphabet: A for 0,"
                + " B for 1, and so on to Z for 25.", ChequeTerms::lettersFromAToZ);
    }

    private static void serialsEnds() {
        ChequeSerials x = new ChequeSerials();
        Checks.due("book(0, 1)", x.book(0, 1), 0);
        Checks.due("book(999999, 1)", x.book(999999, 1), 1);
        Checks.due("letter(0)", x.letter(0), 0);
        Checks.due("letter(999999)", x.letter(999999), 189 % 11);
        Checks.due("write(0, 5)", x.write(0, 5), 0);
        Checks.due("write(999999, 5)", x.write(999999, 5), 189 % 11);
        Checks.due("voidRun(0, 999999)", x.voidRun(0, 999999), 2);
        for (int serial : new int[] {-1, 1000000, LEAST, MOST}) {
            Checks.noIndex("letter(" + serial + ")", Checks::busy, y -> y.letter(serial));
            Checks.noIndex("book(" + serial + ", 1)", Checks::busy, y -> y.book(serial, 1));
        }
    }

    private static void zerosInFront() {
        ChequeSerials x = Checks.typed("b000007+1");
        Checks.due("execute() of b000007+1", x.execute(), 1);
        Checks.due("its serial", x.ranked(0), 7);
        Checks.due("letter(000007)", x.letter(7), 42 % 11);
        Checks.due("slip(7, 70), swapped with a zero", x.slip(7, 70, 9), 1);
        Checks.due("slip(7, 700007), a zero in front misread", x.slip(7, 700007, 9), 0);
        Checks.due("slip(0, 100000)", x.slip(0, 100000, 0), 0);
        Checks.due("missed(0, 0), six zeros read as sevens",
                Checks.lettered(7, 1, 1, 1, 1, 1, 1).missed(0, 0), 6);
        Checks.due("firstError() of b7+1", Checks.typed("b7+1").firstError(), 2);
    }

    private static void positionsFromTheLeft() {
        int[] ones = {100000, 10000, 1000, 100, 10, 1};
        for (int position = 0; position < 6; position++) {
            ChequeSerials x = Checks.lettered(26, 1, 1, 1, 1, 1, 1);
            x.weight(position, 9);
            for (int other = 0; other < 6; other++) {
                Checks.due("letter(" + ones[other] + ") with the weight 9 at " + position,
                        x.letter(ones[other]), other == position ? 9 : 1);
            }
        }
    }

    private static void weightsEnds() {
        for (int position = 0; position < 6; position++) {
            int at = position;
            ChequeSerials x = new ChequeSerials();
            x.weight(at, 1);
            Checks.due("the weight 1 at " + at, x.count(12 + at), 1);
            x.weight(at, 9);
            Checks.due("the weight 9 at " + at, x.count(12 + at), 9);
            Checks.noArgument("the weight 0 at " + at, Checks::busy, y -> y.weight(at, 0));
            Checks.noArgument("the weight 10 at " + at, Checks::busy, y -> y.weight(at, 10));
        }
    }

    private static void firstWeights() {
        ChequeSerials x = new ChequeSerials();
        int serial = 100000;
        for (int position = 0; position < 6; position++) {
            Checks.due("the first weight at " + position, x.count(12 + position), 1 + position);
            Checks.due("letter(" + serial + ")", x.letter(serial), 1 + position);
            serial /= 10;
        }
    }

    private static void moduliEnds() {
        ChequeSerials x = new ChequeSerials();
        x.modulus(7);
        Checks.due("letter(000021) modulo 7", x.letter(21), 16 % 7);
        x.modulus(26);
        Checks.due("letter(000025) modulo 26", x.letter(25), 40 % 26);
        Checks.due("the modulus 26", x.count(9), 26);
        Checks.noArgument("modulus(6)", Checks::busy, y -> y.modulus(6));
        Checks.noArgument("modulus(27)", Checks::busy, y -> y.modulus(27));
    }

    private static void firstModulus() {
        ChequeSerials x = new ChequeSerials();
        Checks.due("count(9)", x.count(9), 11);
        Checks.due("letter(000020), of the sum 10", x.letter(20), 10);
        Checks.due("letter(000011), of the sum 11", x.letter(11), 0);
        Checks.due("letter(000002), of the sum 12", x.letter(2), 1);
    }

    /** Sums around each multiple of the modulus, up to the largest sum that there is. */
    private static void restWrapsAround() {
        for (int modulus = 7; modulus <= 26; modulus++) {
            ChequeSerials ones = Checks.lettered(modulus, 1, 1, 1, 1, 1, 1);
            for (int sum = 0; sum <= 54; sum++) {
                Checks.due("the letter of the sum " + sum + " modulo " + modulus,
                        ones.letter(withDigitSum(sum)), sum % modulus);
            }
            ChequeSerials nines = Checks.lettered(modulus, 9, 9, 9, 9, 9, 9);
            Checks.due("letter(999999) modulo " + modulus + ", all weights 9",
                    nines.letter(999999), 486 % modulus);
            Checks.due("letter(000000) modulo " + modulus, nines.letter(0), 0);
        }
        Checks.due("letter(111111) modulo 26", Checks.lettered(26).letter(111111), 21);
    }

    private static int withDigitSum(int sum) {
        int serial = 0;
        int left = sum;
        for (int position = 0; position < 6; position++) {
            int digit = Math.min(9, left);
            serial = serial * 10 + digit;
            left -= digit;
        }
        return serial;
    }

    private static void lettersFromAToZ() {
        Checks.due("letter of the sum 26", Checks.lettered(26, 1, 1, 1, 1, 1, 1).letter(998000), 0);
        for (int rest = 0; rest <= 25; rest++) {
            int serial = withDigitSum(rest);
            ChequeSerials x = Checks.lettered(26, 1, 1, 1, 1, 1, 1);
            x.book(serial, 1);
            Checks.due("letter of the rest " + rest, x.letter(serial), rest);
            Checks.due("write() by the rest " + rest, x.write(serial, 3), rest);
            char own = (char) ('A' + rest);
            char other = own == 'Z' ? 'A' : (char) (own + 1);
            Checks.type(x, String.format("c%06d%c", serial, other));
            Checks.due("cashing the rest " + rest + " by " + other, x.execute(), 0);
            Checks.type(x, String.format("c%06d%c", serial, own));
            Checks.due("cashing the rest " + rest + " by " + own, x.execute(), 1);
        }
    }

    // ---- Books and cheques

    private static void booksAndCheques() {
        Sentences.section("Books and cheques");
        Sentences.holds("There are at most 6 books,", ChequeTerms::atMostSixBooks);
        Sentences.holds("numbered from 0 in the order in which they came.",
                ChequeTerms::booksNumbers);
        Sentences.holds("A book has the cheques with the serials from a first one on,",
                ChequeTerms::serialsOfABook);
        Sentences.holds("1 to 40 of them.", ChequeTerms::sizesOfABook);
        Sentences.holds("No serial is in two books.", ChequeTerms::noSerialInTwoBooks);
        Sentences.holds("A cheque is blank (0; at first), written (1), cashed (2) or void (3).",
                ChequeTerms::kindsOfCheques);
        Sentences.holds("A cheque that is written or cashed has an amount, 1 to 999.",
                ChequeTerms::amountsOfCheques);
        Sentences.holds("A blank cheque can become written or void, a written one cashed or void;",
                ChequeTerms::whatAChequeCanBecome);
        Sentences.holds("others do not change.", ChequeTerms::othersDoNotChange);
        Sentences.holds("A written cheque that becomes void has no amount any more.",
                ChequeTerms::noAmountOfVoidCheques);
    }

    private static void atMostSixBooks() {
        ChequeSerials x = new ChequeSerials();
        for (int number = 0; number < 6; number++) {
            Checks.due("a book", x.book(100 * number, 40), number);
        }
        Checks.due("six books", x.count(0), 6);
        Checks.type(x, "b000900+1");
        Checks.due("execute() of a 7th book", x.execute(), 0);
        Checks.due("still six books", x.count(0), 6);
        Checks.noState("a 7th book", Checks::sixBooks, y -> y.book(900, 1));
        x.undo();
        x.undo();
        Checks.due("a 6th book after undo()", x.book(900, 1), 5);
    }

    private static void booksNumbers() {
        ChequeSerials x = new ChequeSerials();
        for (int number = 0; number < 6; number++) {
            int first = number % 2 == 0 ? 600 - number : 100 + number;
            Checks.due("book(" + first + ", 1)", x.book(first, 1), number);
        }
        for (int number = 0; number < 6; number++) {
            int first = number % 2 == 0 ? 600 - number : 100 + number;
            Checks.due("the first serial of " + number, x.bookOf(number, 0), first);
            Checks.due("the book of " + first, x.cheque(first, 2), number);
        }
    }

    private static void serialsOfABook() {
        ChequeSerials x = new ChequeSerials();
        x.book(500, 3);
        x.book(499999, 2);
        for (int place = 0; place < 3; place++) {
            Checks.due("the place of " + (500 + place), x.cheque(500 + place, 3), place);
            Checks.due("rank " + place, x.ranked(place), 500 + place);
        }
        Checks.due("the place of 499999", x.cheque(499999, 3), 0);
        Checks.due("the place of 500000", x.cheque(500000, 3), 1);
        for (int serial : new int[] {499, 503, 499998, 500001}) {
            Checks.noIndex("cheque(" + serial + ", 3)", () -> {
                ChequeSerials y = new ChequeSerials();
                y.book(500, 3);
                y.book(499999, 2);
                return y;
            }, y -> y.cheque(serial, 3));
        }
    }

    private static void sizesOfABook() {
        ChequeSerials x = new ChequeSerials();
        x.book(100, 1);
        x.book(200, 40);
        Checks.due("a book of one", x.bookOf(0, 1), 1);
        Checks.due("a book of 40", x.bookOf(1, 1), 40);
        Checks.due("the last place", x.cheque(239, 3), 39);
        Checks.due("all cheques", x.count(1), 41);
        Checks.due("the last rank", x.ranked(40), 239);
        Checks.due("no rank beyond", x.ranked(41), -1);
        Checks.noArgument("a book of none", Checks::busy, y -> y.book(300, 0));
        Checks.noArgument("a book of 41", Checks::busy, y -> y.book(300, 41));
    }

    private static ChequeSerials tenFrom(int first) {
        ChequeSerials x = new ChequeSerials();
        x.book(first, 10);
        return x;
    }

    private static void noSerialInTwoBooks() {
        int[][] shared = {{100, 10}, {100, 1}, {109, 1}, {104, 2}, {109, 40}, {61, 40}, {90, 40}};
        for (int[] book : shared) {
            Checks.noState("book(" + book[0] + ", " + book[1] + ") over 100 to 109",
                    () -> tenFrom(100), x -> x.book(book[0], book[1]));
            ChequeSerials x = tenFrom(100);
            Checks.type(x, String.format("b%06d+%d", book[0], book[1]));
            Checks.due("its order", x.execute(), 0);
        }
        int[][] beside = {{99, 1}, {60, 40}, {110, 1}, {110, 40}};
        for (int[] book : beside) {
            ChequeSerials x = tenFrom(100);
            Checks.due("book(" + book[0] + ", " + book[1] + ") beside 100 to 109",
                    x.book(book[0], book[1]), 1);
        }
    }

    /** 10 is blank, 11 written with 7, 12 cashed with 8, 13 void. */
    private static ChequeSerials ofEachKind() {
        ChequeSerials x = new ChequeSerials();
        x.book(10, 4);
        x.write(11, 7);
        x.write(12, 8);
        x.cash(12, x.letter(12));
        x.voidRun(13, 13);
        return x;
    }

    private static void kindsOfCheques() {
        ChequeSerials x = new ChequeSerials();
        x.book(10, 4);
        for (int serial = 10; serial <= 13; serial++) {
            Checks.due("at first " + serial + " is blank", x.cheque(serial, 0), 0);
        }
        ChequeSerials y = ofEachKind();
        for (int kind = 0; kind <= 3; kind++) {
            Checks.due("the kind of " + (10 + kind), y.cheque(10 + kind, 0), kind);
            Checks.due("cheques of the kind " + kind, y.count(2 + kind), 1);
            Checks.due("those of the book", y.bookOf(0, 2 + kind), 1);
        }
    }

    private static void amountsOfCheques() {
        ChequeSerials x = new ChequeSerials();
        x.book(10, 5);
        Checks.due("no amount when blank", x.cheque(10, 1), 0);
        x.write(11, 1);
        x.write(12, 999);
        Checks.due("the amount 1", x.cheque(11, 1), 1);
        Checks.due("the amount 999", x.cheque(12, 1), 999);
        Checks.due("cashing the amount 1", x.cash(11, x.letter(11)), 1);
        Checks.due("cashing the amount 999", x.cash(12, x.letter(12)), 999);
        Checks.due("the amount 1, cashed", x.cheque(11, 1), 1);
        Checks.due("the amount 999, cashed", x.cheque(12, 1), 999);
        Checks.noArgument("the amount 0", ChequeTerms::ofEachKind, y -> y.write(10, 0));
        Checks.noArgument("the amount 1000", ChequeTerms::ofEachKind, y -> y.write(10, 1000));
    }

    private static void whatAChequeCanBecome() {
        ChequeSerials x = ofEachKind();
        x.write(10, 5);
        Checks.due("blank becomes written", x.cheque(10, 0), 1);
        x.undo();
        Checks.due("blank can become void", x.voidRun(10, 10), 1);
        Checks.due("blank becomes void", x.cheque(10, 0), 3);
        Checks.due("written can become cashed", x.cash(11, x.letter(11)), 7);
        Checks.due("written becomes cashed", x.cheque(11, 0), 2);
        x.undo();
        Checks.due("written can become void", x.voidRun(11, 11), 1);
        Checks.due("written becomes void", x.cheque(11, 0), 3);
    }

    private static void othersDoNotChange() {
        int[] dues = {0, 7, 8, 0};
        for (int kind = 0; kind <= 3; kind++) {
            int serial = 10 + kind;
            ChequeSerials x = ofEachKind();
            if (kind != 0) {
                Checks.noState("write(" + serial + ", 5)", ChequeTerms::ofEachKind,
                        y -> y.write(serial, 5));
                Checks.type(x, String.format("w%06d=5", serial));
                Checks.due("the order to write " + serial, x.execute(), 0);
            }
            if (kind != 1) {
                Checks.due("cash(" + serial + ")", x.cash(serial, x.letter(serial)), -3);
            }
            if (kind >= 2) {
                Checks.due("voidRun(" + serial + ")", x.voidRun(serial, serial), 0);
            }
            Checks.due("the kind of " + serial, x.cheque(serial, 0), kind);
            Checks.due("the amount of " + serial, x.cheque(serial, 1), dues[kind]);
        }
    }

    private static void noAmountOfVoidCheques() {
        ChequeSerials x = ofEachKind();
        x.voidRun(10, 13);
        Checks.due("the amount of a written one", x.cheque(11, 1), 0);
        Checks.due("the amount of a cashed one", x.cheque(12, 1), 8);
        Checks.due("amounts written", x.count(6), 0);
        Checks.due("amounts written of the book", x.bookOf(0, 6), 0);
        Checks.due("amounts cashed", x.count(7), 8);
    }

    // ---- Readings and slips

    private static void readingsAndSlips() {
        Sentences.section("Readings and slips");
        Sentences.holds("A reading is six digits and a letter.", ChequeTerms::readingsEnds);
        Sentences.holds("It is right if the letter is the letter of the serial.",
                ChequeTerms::oneRightLetter);
        Sentences.holds("A slip changes a reading in one of these ways; it changes something"
                + " always:", ChequeTerms::aSlipChangesSomething);
        Sentences.holds("kind 0: one digit is another one;", ChequeTerms::oneDigitIsAnother);
        Sentences.holds("kind 1: two digits that are neighbours are exchanged (they are"
                + " different);", ChequeTerms::neighboursExchanged);
        Sentences.holds("kind 2: the letter is another one of those that can be (A and so on, as"
                + " many as the modulus tells).", ChequeTerms::lettersThatCanBe);
        Sentences.holds("A slip of a right reading is found if the reading is not right any more.",
                ChequeTerms::foundIfNotRight);
        Sentences.holds("(The letters are told by the weights and the modulus as they are now.)",
                ChequeTerms::lettersAsTheyAreNow);
    }

    private static void readingsEnds() {
        ChequeSerials x = new ChequeSerials();
        Checks.due("slip() of the reading 000000 A", x.slip(0, 0, 0), 3);
        Checks.due("slip() of the reading 999999 C", x.slip(999999, 999999, 2), 3);
        Checks.due("slip() of the reading 999999 Z", x.slip(999999, 999999, 25), -1);
        Checks.due("cash() by the reading 000000 Z", x.cash(0, 25), -1);
        Checks.due("cash() by the reading 999999 C", x.cash(999999, 2), -2);
        Checks.noArgument("the letter behind Z", Checks::busy, y -> y.slip(0, 0, 26));
        Checks.noArgument("the letter before A", Checks::busy, y -> y.slip(0, 0, -1));
        Checks.noIndex("the reading of seven digits", Checks::busy, y -> y.slip(0, 1000000, 0));
    }

    private static void oneRightLetter() {
        for (int serial : new int[] {0, 20, 11, 123456, 999999}) {
            ChequeSerials x = new ChequeSerials();
            x.book(serial, 1);
            x.write(serial, 5);
            int right = x.letter(serial);
            for (int letter = 0; letter <= 25; letter++) {
                Checks.due("cash(" + serial + ", " + letter + ")", x.cash(serial, letter),
                        letter == right ? 5 : -1);
                Checks.due("the kind of " + serial + " by then", x.cheque(serial, 0),
                        letter < right ? 1 : 2);
            }
        }
    }

    private static void aSlipChangesSomething() {
        ChequeSerials x = new ChequeSerials();
        for (int serial : new int[] {0, 111111, 999999, 112233}) {
            Checks.due("slip() to the right reading of " + serial,
                    x.slip(serial, serial, x.letter(serial)), 3);
        }
        ChequeSerials sevens = Checks.lettered(7, 7, 7, 7, 7, 7, 7);
        Checks.due("missed(123456, 0), all others misread", sevens.missed(123456, 0), 54);
        Checks.due("missed(111111, 1), none swapped", sevens.missed(111111, 1), 0);
        Checks.due("missed(000009, 1), one swapped", sevens.missed(9, 1), 1);
    }

    private static void oneDigitIsAnother() {
        ChequeSerials x = new ChequeSerials();
        int[] ones = {100000, 10000, 1000, 100, 10, 1};
        for (int serial : new int[] {0, 123456, 999999, 908172}) {
            int letter = x.letter(serial);
            for (int one : ones) {
                int digit = serial / one % 10;
                for (int other = 0; other <= 9; other++) {
                    int read = serial + (other - digit) * one;
                    Checks.due("slip(" + serial + ", " + read + ")", x.slip(serial, read, letter),
                            other == digit ? 3 : 0);
                }
            }
        }
        Checks.due("two digits misread", x.slip(0, 11, 0), -1);
        Checks.due("the first and the last misread", x.slip(0, 100001, 0), -1);
        Checks.due("a digit and the letter misread", x.slip(0, 1, 6), -1);
    }

    private static void neighboursExchanged() {
        ChequeSerials x = new ChequeSerials();
        int letter = x.letter(123456);
        for (int read : new int[] {213456, 132456, 124356, 123546, 123465}) {
            Checks.due("slip(123456, " + read + ")", x.slip(123456, read, letter), 1);
        }
        Checks.due("the two last but one apart", x.slip(123456, 123654, letter), -1);
        Checks.due("the first and the third", x.slip(123456, 321456, letter), -1);
        Checks.due("the last and the first", x.slip(123456, 623451, letter), -1);
        Checks.due("two exchanges", x.slip(123456, 214356, letter), -1);
        Checks.due("a turn of three", x.slip(123456, 231456, letter), -1);
        Checks.due("one exchanged and misread", x.slip(123456, 223456, letter), 0);
        // Two neighbours of which one alone, or the sum alone, is as an exchange would have it.
        for (int read : new int[] {313456, 243456, 303456, 123495, 123467, 123474}) {
            Checks.due("slip(123456, " + read + ")", x.slip(123456, read, letter), -1);
        }
        Checks.due("equal digits", x.slip(112345, 112345, x.letter(112345)), 3);
        Checks.due("an exchange and the letter misread", x.slip(123456, 213456, letter + 1), -1);
    }

    private static void lettersThatCanBe() {
        for (int modulus : new int[] {7, 11, 25, 26}) {
            ChequeSerials x = Checks.lettered(modulus);
            int right = x.letter(123456);
            for (int letter = 0; letter <= 25; letter++) {
                int due = letter == right ? 3 : letter < modulus ? 2 : -1;
                Checks.due("slip(123456, 123456, " + letter + ") modulo " + modulus,
                        x.slip(123456, 123456, letter), due);
            }
        }
    }

    /** Against the letters of the readings that all slips of some serials come to. */
    private static void foundIfNotRight() {
        int[][] tables = {{7, 1, 2, 3, 4, 5, 6}, {10, 5, 5, 2, 4, 9, 1}, {12, 6, 3, 9, 9, 4, 8},
            {18, 2, 9, 6, 3, 1, 1}};
        for (int[] table : tables) {
            for (int serial : new int[] {0, 123456, 999999, 90909, 505050, 770077}) {
                ChequeSerials x = Checks.lettered(table[0], table[1], table[2], table[3],
                        table[4], table[5], table[6]);
                int[] due = missedByTrying(x, serial);
                for (int kind = 0; kind <= 2; kind++) {
                    Checks.due("missed(" + serial + ", " + kind + ") modulo " + table[0],
                            x.missed(serial, kind), due[kind]);
                }
            }
        }
    }

    private static int[] missedByTrying(ChequeSerials x, int serial) {
        int[] missed = new int[3];
        for (int one = 1; one <= 100000; one *= 10) {
            int digit = serial / one % 10;
            for (int other = 0; other <= 9; other++) {
                int read = serial + (other - digit) * one;
                missed[0] += read != serial && x.letter(read) == x.letter(serial) ? 1 : 0;
            }
            int front = serial / one / 10 % 10;
            int read = serial + (front - digit) * one + (digit - front) * one * 10;
            boolean neighbours = one < 100000 && front != digit;
            missed[1] += neighbours && x.letter(read) == x.letter(serial) ? 1 : 0;
        }
        return missed;
    }

    private static void lettersAsTheyAreNow() {
        ChequeSerials x = new ChequeSerials();
        x.book(100, 2);
        x.write(100, 7);
        x.write(101, 7);
        Checks.due("letter(100) at first", x.letter(100), 4);
        x.weight(3, 9);
        Checks.due("letter(100) by a weight", x.letter(100), 9);
        Checks.due("cash(100, 4) by the old weight", x.cash(100, 4), -1);
        Checks.due("slip(100, 100, 9)", x.slip(100, 100, 9), 3);
        x.modulus(7);
        Checks.due("letter(100) by a modulus", x.letter(100), 2);
        Checks.due("slip(100, 100, 9) beyond it", x.slip(100, 100, 9), -1);
        Checks.due("meant(100, 2, NONE)", x.meant(100, 2, -1), 1);
        Checks.due("meant(100, 4, NONE)", x.meant(100, 4, -1), 1);
        Checks.due("meant(100, 9, NONE)", x.meant(100, 9, -1), 0);
        Checks.due("missed(100, 0)", x.missed(100, 0), 6);
        Checks.due("weak(3, 0, 0)", x.weak(3, 0, 0), 3);
        Checks.due("finds(0)", x.finds(0), false);
        Checks.due("cash(100, 2)", x.cash(100, 2), 7);
        x.undo();
        x.undo();
        Checks.due("letter(100) after undo()", x.letter(100), 9);
        x.undo();
        x.undo();
        Checks.due("letter(100) as at first", x.letter(100), 4);
        Checks.due("finds(0) as at first", x.finds(0), true);
        Checks.due("cash(100, 4) as at first", x.cash(100, 4), 7);
    }

    // ---- Cashing

    private static void cashing() {
        Sentences.section("Cashing");
        Sentences.holds("To cash a cheque by a reading is refused for the first of these reasons"
                + " that applies:", ChequeTerms::theFirstReason);
        Sentences.holds("1 the reading is not right;", ChequeTerms::readingNotRight);
        Sentences.holds("2 the serial is in no book;", ChequeTerms::serialInNoBook);
        Sentences.holds("3 the cheque is not written.", ChequeTerms::chequeNotWritten);
    }

    private static void theFirstReason() {
        ChequeSerials x = ofEachKind();
        for (int serial : new int[] {9, 14, 0, 999999, 10, 12, 13}) {
            int wrong = (x.letter(serial) + 1) % 11;
            Checks.due("cash(" + serial + ", " + wrong + ")", x.cash(serial, wrong), -1);
            Checks.due("cash(" + serial + ", Z)", x.cash(serial, 25), -1);
        }
    }

    private static void readingNotRight() {
        for (int letter = 0; letter <= 25; letter++) {
            ChequeSerials x = ofEachKind();
            boolean right = letter == x.letter(11);
            Checks.due("cash(11, " + letter + ")", x.cash(11, letter), right ? 7 : -1);
            Checks.due("the kind after cash(11, " + letter + ")", x.cheque(11, 0), right ? 2 : 1);
            Checks.due("refusals after cash(11, " + letter + ")", x.count(8), right ? 0 : 1);
        }
    }

    private static void serialInNoBook() {
        ChequeSerials x = ofEachKind();
        for (int serial : new int[] {9, 14, 0, 999999}) {
            Checks.due("cash(" + serial + ")", x.cash(serial, x.letter(serial)), -2);
        }
        Checks.due("refusals", x.count(8), 4);
        x.book(30, 40);
        x.write(69, 5);
        for (int serial : new int[] {29, 70}) {
            Checks.due("cash(" + serial + ") beside a later book",
                    x.cash(serial, x.letter(serial)), -2);
        }
        ChequeSerials y = new ChequeSerials();
        Checks.due("cash(0, A) without books", y.cash(0, 0), -2);
        Checks.type(y, "c000000A");
        Checks.due("its order", y.execute(), 0);
        Checks.due("refusals without books", y.count(8), 2);
    }

    private static void chequeNotWritten() {
        ChequeSerials x = ofEachKind();
        for (int serial : new int[] {10, 12, 13}) {
            Checks.due("cash(" + serial + ")", x.cash(serial, x.letter(serial)), -3);
        }
        Checks.due("refusals", x.count(8), 3);
        Checks.due("cash(11)", x.cash(11, x.letter(11)), 7);
        Checks.due("cash(11) again", x.cash(11, x.letter(11)), -3);
    }
}
