/** Promises 20 to 25: slips that are missed or found, the best weight, and what was meant. */
public final class SlipsTest {
    public static void main(String[] args) {
        promise20Missed();
        promise20MissedThrows();
        promise21Weak();
        promise21BothWays();
        promise21WeakThrows();
        promise22Finds();
        promise23BestWeight();
        promise23BestWeightOfMany();
        promise24Meant();
        promise24MeantByAnySlip();
        promise24MeantThrows();
        promise25Slip();
        promise25SlipThrows();
        Checks.end();
    }

    private static ChequeSerials weighted(int modulus, int... weights) {
        ChequeSerials x = new ChequeSerials();
        x.modulus(modulus);
        for (int position = 0; position < weights.length; position++) {
            x.weight(position, weights[position]);
        }
        return x;
    }

    private static void promise20Missed() {
        ChequeSerials x = new ChequeSerials();
        for (int kind = 0; kind <= 2; kind++) {
            Checks.due("missed(123456, " + kind + ") modulo 11", x.missed(123456, kind), 0);
        }
        ChequeSerials seven = weighted(7, 1, 1, 1, 1, 1, 1);
        Checks.due("missed(000000, 0)", seven.missed(0, 0), 6);
        Checks.due("missed(345634, 0)", seven.missed(345634, 0), 0);
        Checks.due("missed(012789, 0)", seven.missed(12789, 0), 6);
        Checks.due("missed(000000, 1)", seven.missed(0, 1), 0);
        Checks.due("missed(010101, 1)", seven.missed(10101, 1), 5);
        Checks.due("missed(001122, 1)", seven.missed(1122, 1), 2);
        Checks.due("missed(112223, 1)", seven.missed(112223, 1), 2);
        Checks.due("missed(123456, 2)", seven.missed(123456, 2), 0);
        ChequeSerials ten = weighted(10, 5, 2, 1, 1, 1, 1);
        Checks.due("missed(000000, 0) of weights 5 and 2", ten.missed(0, 0), 4 + 1);
        Checks.due("missed(050000, 1) of weights 5 and 2", ten.missed(50000, 1), 0);
        Checks.due("missed(119900, 1) of weights 1", ten.missed(119900, 1), 1);
        Checks.due("missed(999999, 0) of weights 5 and 2", ten.missed(999999, 0), 4 + 1);
    }

    private static void promise20MissedThrows() {
        int[] serials = {-1, 1000000, Integer.MIN_VALUE, Integer.MAX_VALUE};
        for (int serial : serials) {
            Checks.noIndex("missed(no serial, 0)", Checks::example, x -> x.missed(serial, 0));
            Checks.noIndex("missed(no serial, 3)", Checks::example, x -> x.missed(serial, 3));
        }
        int[] kinds = {-1, 3, Integer.MIN_VALUE, Integer.MAX_VALUE};
        for (int kind : kinds) {
            Checks.noArgument("missed(0, no kind)", Checks::example, x -> x.missed(0, kind));
            Checks.noArgument("finds(no kind)", Checks::example, x -> x.finds(kind));
        }
    }

    private static void promise21Weak() {
        ChequeSerials x = weighted(12, 1, 1, 3, 4, 5, 6);
        int[] misread = {0, 0, 6 + 2, 7 + 4 + 1, 0, 8 + 6 + 4 + 2};
        int[] swapped = {45, 4, 0, 0, 0};
        for (int way = 0; way <= 1; way++) {
            for (int position = 0; position < 6; position++) {
                Checks.due("weak(" + position + ", 0, " + way + ")", x.weak(position, 0, way),
                        misread[position]);
            }
            for (int position = 0; position < 5; position++) {
                Checks.due("weak(" + position + ", 1, " + way + ")", x.weak(position, 1, way),
                        swapped[position]);
            }
        }
    }

    /** Against all pairs of digits in serials, for each modulus and several weights. */
    private static void promise21BothWays() {
        for (int modulus = 7; modulus <= 26; modulus++) {
            for (int own = 1; own <= 9; own++) {
                int next = 1 + own * own % 9;
                ChequeSerials x = weighted(modulus, 1, 1, own, next);
                int misread = 0;
                int swapped = 0;
                for (int a = 0; a <= 9; a++) {
                    for (int b = 0; b < a; b++) {
                        misread += own * a % modulus == own * b % modulus ? 1 : 0;
                        swapped += (own * a + next * b) % modulus
                                == (own * b + next * a) % modulus ? 1 : 0;
                    }
                }
                for (int way = 0; way <= 1; way++) {
                    Checks.due("weak(2, 0, " + way + ")", x.weak(2, 0, way), misread);
                    Checks.due("weak(2, 1, " + way + ")", x.weak(2, 1, way), swapped);
                }
            }
        }
    }

    private static void promise21WeakThrows() {
        int[][] noPosition = {{-1, 0, 0}, {6, 0, 0}, {5, 1, 0}, {6, 1, 0}, {-1, 1, 0}, {6, 2, 0},
            {6, 0, 2}, {5, 1, 2}, {5, 1, -1}, {-1, 3, 3}, {6, -1, 0}, {Integer.MAX_VALUE, 1, 1},
            {Integer.MIN_VALUE, 1, 1}};
        for (int[] row : noPosition) {
            Checks.noIndex("weak(" + row[0] + ", " + row[1] + ", " + row[2] + ")", Checks::example,
                    x -> x.weak(row[0], row[1], row[2]));
        }
        int[][] outOfRange = {{0, 2, 0}, {5, 2, 0}, {5, -1, 0}, {5, 0, 2}, {5, 0, -1}, {0, 1, 2},
            {4, 1, -1}, {5, Integer.MAX_VALUE, 1}, {5, 0, Integer.MIN_VALUE}, {5, 3, 3}};
        for (int[] row : outOfRange) {
            Checks.noArgument("weak(" + row[0] + ", " + row[1] + ", " + row[2] + ")",
                    Checks::example, x -> x.weak(row[0], row[1], row[2]));
        }
    }

    private static void promise22Finds() {
        ChequeSerials x = new ChequeSerials();
        for (int kind = 0; kind <= 2; kind++) {
            Checks.due("finds(" + kind + ") of a new object", x.finds(kind), true);
        }
        for (int position = 0; position < 6; position++) {
            ChequeSerials same = weighted(11);
            same.weight(position, position == 0 ? 2 : position);
            Checks.due("finds(1) with neighbours alike", same.finds(1), false);
            Checks.due("finds(0) with neighbours alike", same.finds(0), true);
            ChequeSerials even = weighted(22, 1, 3, 5, 7, 9, 1);
            even.weight(position, 4);
            Checks.due("finds(0) with no small difference hidden", even.finds(0), true);
            ChequeSerials six = weighted(12, 1, 5, 7, 1, 5, 7);
            Checks.due("finds(0) modulo 12", six.finds(0), true);
            six.weight(position, 6);
            Checks.due("finds(0) with a 6 modulo 12", six.finds(0), false);
            Checks.due("finds(2)", six.finds(2), true);
        }
        Checks.due("finds(0) modulo 7", weighted(7).finds(0), false);
        Checks.due("finds(1) modulo 7", weighted(7).finds(1), false);
        Checks.due("finds(1) at the last two alone", weighted(11, 1, 2, 3, 4, 5, 5).finds(1),
                false);
    }

    private static void promise23BestWeight() {
        ChequeSerials x = weighted(11, 1, 1, 3, 4, 5, 6);
        Checks.due("bestWeight(1)", x.bestWeight(1), 2);
        Checks.due("bestWeight(0)", x.bestWeight(0), 2);
        Checks.due("bestWeight(5)", x.bestWeight(5), 1);
        Checks.due("the weight stays", x.count(13), 1);
        Checks.due("nothing is saved", x.count(10), 6);
        int[] positions = {-1, 6, Integer.MIN_VALUE, Integer.MAX_VALUE};
        for (int position : positions) {
            Checks.noIndex("bestWeight(no position)", Checks::example,
                    y -> y.bestWeight(position));
        }
    }

    /** Against the weights tried one after the other, with all pairs told by weak(). */
    private static void promise23BestWeightOfMany() {
        for (int modulus = 7; modulus <= 26; modulus++) {
            int start = modulus % 9;
            int[] weights = new int[6];
            for (int position = 0; position < 6; position++) {
                weights[position] = 1 + (start + position * position * modulus) % 9;
            }
            ChequeSerials x = weighted(modulus, weights);
            for (int position = 0; position < 6; position++) {
                Checks.due("bestWeight(" + position + ") modulo " + modulus,
                        x.bestWeight(position), bestByTrying(modulus, weights, position));
            }
        }
    }

    private static int bestByTrying(int modulus, int[] weights, int position) {
        int best = 0;
        int fewest = Integer.MAX_VALUE;
        for (int weight = 1; weight <= 9; weight++) {
            ChequeSerials x = weighted(modulus, weights);
            x.weight(position, weight);
            int sum = 0;
            for (int at = 0; at < 6; at++) {
                sum += x.weak(at, 0, 0) + (at < 5 ? x.weak(at, 1, 0) : 0);
            }
            if (sum < fewest) {
                fewest = sum;
                best = weight;
            }
        }
        return best;
    }

    private static void promise24Meant() {
        ChequeSerials x = new ChequeSerials();
        x.book(140, 40);
        x.book(100, 40);
        // Letters: 100 E, 101 K, 110 J and 121 J; a misread digit leaves the letter.
        Checks.due("meant(100, 4, NONE)", x.meant(100, 4, -1), 1);
        Checks.due("meant(100, 4, 0)", x.meant(100, 4, 0), 100);
        Checks.due("meant(100, 4, 1)", x.meant(100, 4, 1), -1);
        Checks.due("meant(101, 9, NONE)", x.meant(101, 9, -1), 3);
        Checks.due("meant(101, 9, 0), by its letter", x.meant(101, 9, 0), 101);
        Checks.due("meant(101, 9, 1), swapped", x.meant(101, 9, 1), 110);
        Checks.due("meant(101, 9, 2), misread", x.meant(101, 9, 2), 121);
        Checks.due("meant(101, 9, 3)", x.meant(101, 9, 3), -1);
        Checks.due("meant(101, 9, most)", x.meant(101, 9, Integer.MAX_VALUE), -1);
        Checks.due("meant(100, 11, NONE), beyond the modulus", x.meant(100, 11, -1), 0);
        Checks.due("meant(100, 25, 0), beyond the modulus", x.meant(100, 25, 0), -1);
        Checks.due("meant(999999, 2, NONE)", x.meant(999999, 2, -1), 0);
        Checks.due("meant saves nothing", x.count(10), 2);
        x.voidRun(0, 999999);
        Checks.due("meant(101, 9, NONE) of void cheques", x.meant(101, 9, -1), 3);
    }

    /** Against every serial in a book, by slip(). */
    private static void promise24MeantByAnySlip() {
        int[] firsts = {900, 80, 760, 120, 990, 0};
        for (int modulus = 7; modulus <= 26; modulus += 6) {
            for (int read = 0; read < 1100; read += 37) {
                ChequeSerials x = weighted(modulus, 1, 2, 3, 5, 5, 7);
                for (int first : firsts) {
                    x.book(first, 40);
                }
                int letter = read % 26;
                int meant = 0;
                for (int rank = 0; rank < 240; rank++) {
                    int serial = x.ranked(rank);
                    if (x.slip(serial, read, letter) != -1) {
                        Checks.due("meant(" + read + ", " + letter + ", " + meant + ")",
                                x.meant(read, letter, meant), serial);
                        meant++;
                    }
                }
                Checks.due("meant(" + read + ", " + letter + ", NONE)", x.meant(read, letter, -1),
                        meant);
                Checks.due("meant beyond the last", x.meant(read, letter, meant), -1);
            }
        }
    }

    private static void promise24MeantThrows() {
        int[] serials = {-1, 1000000, Integer.MIN_VALUE, Integer.MAX_VALUE};
        for (int serial : serials) {
            Checks.noIndex("meant(no serial, 0, 0)", Checks::example, x -> x.meant(serial, 0, 0));
            Checks.noIndex("meant(no serial, 26, -2)", Checks::example,
                    x -> x.meant(serial, 26, -2));
        }
        int[] letters = {-1, 26, Integer.MIN_VALUE, Integer.MAX_VALUE};
        for (int letter : letters) {
            Checks.noArgument("meant(0, no letter, 0)", Checks::example,
                    x -> x.meant(0, letter, 0));
        }
        Checks.noArgument("meant(0, 0, -2)", Checks::example, x -> x.meant(0, 0, -2));
        Checks.noArgument("meant(0, 0, lowest)", Checks::example,
                x -> x.meant(0, 0, Integer.MIN_VALUE));
    }

    private static void promise25Slip() {
        ChequeSerials x = new ChequeSerials();
        int letter = x.letter(123456);
        Checks.due("the right reading", x.slip(123456, 123456, letter), 3);
        Checks.due("another letter", x.slip(123456, 123456, 0), 2);
        Checks.due("the last letter", x.slip(123456, 123456, 10), 2);
        Checks.due("a letter beyond the modulus", x.slip(123456, 123456, 11), -1);
        Checks.due("the letter Z", x.slip(123456, 123456, 25), -1);
        int[] misread = {23456, 923456, 103456, 129456, 123056, 123496, 123450, 123457};
        for (int read : misread) {
            Checks.due("slip(123456, " + read + ")", x.slip(123456, read, letter), 0);
            Checks.due("slip(123456, " + read + "), wrong letter", x.slip(123456, read, 7), -1);
        }
        int[] swapped = {213456, 132456, 124356, 123546, 123465};
        for (int read : swapped) {
            Checks.due("slip(123456, " + read + ")", x.slip(123456, read, letter), 1);
            Checks.due("slip(123456, " + read + "), wrong letter", x.slip(123456, read, 7), -1);
        }
        int[] neither = {213465, 321456, 623451, 113356, 123565, 654321, 0, 999999,
            231456, 123564, 124656};
        for (int read : neither) {
            Checks.due("slip(123456, " + read + ")", x.slip(123456, read, letter), -1);
        }
        Checks.due("slip(112233, 121233)", x.slip(112233, 121233, x.letter(112233)), 1);
        Checks.due("slip(000010, 000001)", x.slip(10, 1, 5), 1);
        Checks.due("slip(100000, 000001)", x.slip(100000, 1, 1), -1);
        Checks.due("slip(000000, 000011)", x.slip(0, 11, 0), -1);
        Checks.due("slip by the letter of what is read", x.slip(10, 1, 6), -1);
        x.modulus(26);
        Checks.due("a letter within another modulus", x.slip(123456, 123456, 25), 2);
        Checks.due("slip saves nothing", x.count(10), 1);
    }

    private static void promise25SlipThrows() {
        int[] serials = {-1, 1000000, Integer.MIN_VALUE, Integer.MAX_VALUE};
        for (int serial : serials) {
            Checks.noIndex("slip(no serial, 0, 0)", Checks::example, x -> x.slip(serial, 0, 0));
            Checks.noIndex("slip(0, no serial, 0)", Checks::example, x -> x.slip(0, serial, 0));
            Checks.noIndex("slip(0, no serial, 26)", Checks::example, x -> x.slip(0, serial, 26));
            Checks.noIndex("slip(no serial, 0, 26)", Checks::example, x -> x.slip(serial, 0, 26));
        }
        int[] letters = {-1, 26, Integer.MIN_VALUE, Integer.MAX_VALUE};
        for (int letter : letters) {
            Checks.noArgument("slip(0, 0, no letter)", Checks::example,
                    x -> x.slip(0, 0, letter));
        }
    }
}
