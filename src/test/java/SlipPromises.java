/** Promises 20 to 25, the slips: each sentence's test. */
final class SlipPromises {
    private static final int MOST = Integer.MAX_VALUE;
    private static final int LEAST = Integer.MIN_VALUE;
    private static final int NONE = ChequeSerials.NONE;

    private SlipPromises() {
    }

    static void all() {
        missed();
        weak();
        finds();
        bestWeight();
        meant();
        slip();
    }

    // ---- Promise 20

    private static void missed() {
        Sentences.section("Promise 20");
        Sentences.bare("`int missed(int serial, int kind) throws IndexOutOfBoundsException,"
                + " IllegalArgumentException`:");
        Sentences.holds("Returns how many slips of the right reading of a serial are not found.",
                SlipPromises::slipsNotFound);
        Sentences.holds("`serial`: the serial", () -> {
            ChequeSerials x = Checks.lettered(9, 1, 1, 1, 1, 1, 1);
            Checks.due("missed(0, 0)", x.missed(0, 0), 6);
            Checks.due("missed(999999, 0)", x.missed(999999, 0), 6);
            Checks.due("missed(999998, 0)", x.missed(999998, 0), 5);
            Checks.due("missed(1, 0)", x.missed(1, 0), 5);
            Checks.due("missed(1, 1)", x.missed(1, 1), 1);
        });
        Sentences.holds("`kind`: 0 to 2", () -> {
            ChequeSerials x = Checks.lettered(7, 7, 7, 7, 7, 7, 7);
            Checks.due("missed(121212, 0)", x.missed(121212, 0), 54);
            Checks.due("missed(121212, 1)", x.missed(121212, 1), 5);
            Checks.due("missed(121212, 2)", x.missed(121212, 2), 0);
        });
        Sentences.holds("Returns the number of slips of this kind.", () -> {
            ChequeSerials x = Checks.lettered(26);
            for (int kind = 0; kind <= 2; kind++) {
                Checks.due("missed(808080, " + kind + ") modulo 26", x.missed(808080, kind), 0);
            }
            ChequeSerials y = Checks.lettered(18, 1, 1, 2, 1, 3, 5);
            Checks.due("missed(000000, 0), one", y.missed(0, 0), 1 + 1);
            Checks.due("missed(109999, 0)", y.missed(109999, 0), 1 + 1);
            Checks.due("missed(898888, 0)", y.missed(898888, 0), 1);
            Checks.due("missed(001123, 1), none", y.missed(1123, 1), 0);
            Checks.due("missed(100000, 1), one", y.missed(100000, 1), 1);
            Checks.due("missed(119000, 1), none by nines", y.missed(119000, 1), 0);
            Checks.due("missed(110900, 1), one by nines", y.missed(110900, 1), 1);
            Checks.due("missed(110090, 1), two by nines", y.missed(110090, 1), 2);
        });
        Sentences.holds("Throws `IndexOutOfBoundsException` if there is no such serial", () -> {
            for (int serial : new int[] {-1, 1000000, LEAST, MOST}) {
                for (int kind : new int[] {0, 2, -1, 3}) {
                    Checks.noIndex("missed(" + serial + ", " + kind + ")", Checks::busy,
                            x -> x.missed(serial, kind));
                }
            }
        });
        Sentences.holds("Throws `IllegalArgumentException` if kind is out of range", () -> {
            for (int kind : new int[] {-1, 3, LEAST, MOST}) {
                Checks.noArgument("missed(0, " + kind + ")", Checks::busy,
                        x -> x.missed(0, kind));
                Checks.noArgument("missed(999999, " + kind + ")", Checks::busy,
                        x -> x.missed(999999, kind));
            }
        });
    }

    /** A digit's own place in the row of weights tells how many of its misreadings are hidden. */
    private static void slipsNotFound() {
        for (int digit = 0; digit <= 9; digit++) {
            for (int weight = 1; weight <= 9; weight++) {
                for (int modulus = 7; modulus <= 26; modulus += 1 + weight % 3) {
                    ChequeSerials x = Checks.lettered(modulus, 1, 1, 1, 1, 1, weight);
                    int hidden = 0;
                    for (int other = 0; other <= 9; other++) {
                        boolean alike = weight * other % modulus == weight * digit % modulus;
                        hidden += other != digit && alike ? 1 : 0;
                    }
                    int zeros = 0;
                    for (int other = 1; other <= 9; other++) {
                        zeros += other % modulus == 0 ? 5 : 0;
                    }
                    Checks.due("missed(" + digit + ", 0) modulo " + modulus + ", weight " + weight,
                            x.missed(digit, 0), zeros + hidden);
                    boolean alike = digit % modulus == weight * digit % modulus;
                    Checks.due("missed(" + digit + ", 1) modulo " + modulus + ", weight " + weight,
                            x.missed(digit, 1), digit > 0 && alike ? 1 : 0);
                }
            }
        }
    }

    // ---- Promise 21

    private static void weak() {
        Sentences.section("Promise 21");
        Sentences.bare("`int weak(int position, int kind, int way) throws"
                + " IndexOutOfBoundsException, IllegalArgumentException`:");
        Sentences.bare("Returns how many slips of a kind at a position can be missed:");
        Sentences.holds("for kind 0, the pairs of different digits (each one counted once) of which"
                + " one can be misread as the other one at this position without being found;",
                SlipPromises::misreadPairs);
        Sentences.holds("for kind 1, the pairs of different digits (likewise) whose swap at this"
                + " position and the next one is not found.", SlipPromises::swappedPairs);
        Sentences.holds("`position`: 0 to 4 for kind 1;", () -> {
            for (int way = 0; way <= 1; way++) {
                ChequeSerials x = Checks.lettered(11, 1, 1, 2, 3, 4, 4);
                Checks.due("weak(0, 1, " + way + ")", x.weak(0, 1, way), 45);
                Checks.due("weak(1, 1, " + way + ")", x.weak(1, 1, way), 0);
                Checks.due("weak(4, 1, " + way + ")", x.weak(4, 1, way), 45);
                int by = way;
                Checks.noIndex("weak(5, 1, " + way + ")", Checks::busy, y -> y.weak(5, 1, by));
                Checks.noIndex("weak(-1, 1, " + way + ")", Checks::busy, y -> y.weak(-1, 1, by));
            }
        });
        Sentences.holds("0 to 5 otherwise (for any other kind)", () -> {
            for (int way = 0; way <= 1; way++) {
                ChequeSerials x = Checks.lettered(7, 7, 1, 1, 1, 1, 7);
                Checks.due("weak(0, 0, " + way + ")", x.weak(0, 0, way), 45);
                Checks.due("weak(5, 0, " + way + ")", x.weak(5, 0, way), 45);
            }
            for (int kind : new int[] {-1, 2, 3, LEAST, MOST}) {
                Checks.noArgument("weak(0, " + kind + ", 0)", Checks::busy,
                        x -> x.weak(0, kind, 0));
                Checks.noArgument("weak(5, " + kind + ", 0)", Checks::busy,
                        x -> x.weak(5, kind, 0));
                Checks.noIndex("weak(6, " + kind + ", 0)", Checks::busy,
                        x -> x.weak(6, kind, 0));
                Checks.noIndex("weak(-1, " + kind + ", 0)", Checks::busy,
                        x -> x.weak(-1, kind, 0));
            }
        });
        weakByBothWays();
    }

    private static void weakByBothWays() {
        Sentences.holds("`kind`: 0 or 1", () -> {
            ChequeSerials x = Checks.lettered(7, 7, 6, 5, 4, 3, 2);
            Checks.due("weak(0, 0, 0)", x.weak(0, 0, 0), 45);
            Checks.due("weak(0, 1, 0)", x.weak(0, 1, 0), 3);
        });
        Sentences.holds("`way`: 0 told by trying all pairs;", () -> pairsByDifferences(0));
        Sentences.holds("1 told by the differences of digits: for each difference d from 1 to 9"
                + " there are 10 - d pairs", () -> pairsByDifferences(1));
        Sentences.holds("(the result is the same)", SlipPromises::bothWaysAlike);
        Sentences.holds("Returns the number of pairs.", () -> {
            Checks.due("all pairs", Checks.lettered(8, 8).weak(0, 0, 0), 45);
            Checks.due("one pair", Checks.lettered(9, 1).weak(0, 0, 0), 1);
            Checks.due("no pair", Checks.lettered(10, 1).weak(0, 0, 0), 0);
            Checks.due("all pairs swapped", Checks.lettered(8, 9, 1).weak(0, 1, 0), 45);
            Checks.due("one pair swapped", Checks.lettered(9, 8, 9).weak(0, 1, 0), 1);
            Checks.due("no pair swapped", Checks.lettered(10, 8, 9).weak(0, 1, 0), 0);
        });
        weakThrows();
    }

    private static void weakThrows() {
        Sentences.holds("Throws `IndexOutOfBoundsException` if there is no such position", () -> {
            int[][] rows = {{-1, 0, 0}, {6, 0, 1}, {5, 1, 0}, {6, 1, 1}, {-1, 1, 0}, {6, 2, 0},
                {6, 0, 2}, {5, 1, 2}, {5, 1, -1}, {-1, 2, 2}, {LEAST, 0, 0}, {MOST, 1, 1}};
            for (int[] row : rows) {
                Checks.noIndex("weak(" + row[0] + ", " + row[1] + ", " + row[2] + ")",
                        Checks::busy, x -> x.weak(row[0], row[1], row[2]));
            }
        });
        Sentences.holds("Throws `IllegalArgumentException` if kind or way is neither 0 nor 1",
                () -> {
            int[][] rows = {{0, 2, 0}, {0, -1, 1}, {5, 2, 1}, {5, -1, 0}, {5, 0, 2}, {0, 0, -1},
                {4, 1, 2}, {4, 1, -1}, {5, LEAST, 0}, {5, MOST, 0}, {5, 0, LEAST}, {0, 1, MOST}};
            for (int[] row : rows) {
                Checks.noArgument("weak(" + row[0] + ", " + row[1] + ", " + row[2] + ")",
                        Checks::busy, x -> x.weak(row[0], row[1], row[2]));
            }
        });
    }

    /** Each pair is tried in a serial, at each position and by both ways. */
    private static void misreadPairs() {
        int[] ones = {100000, 10000, 1000, 100, 10, 1};
        for (int position = 0; position <= 5; position++) {
            ChequeSerials x = Checks.lettered(12, 2, 3, 4, 6, 8, 9);
            int pairs = 0;
            for (int low = 0; low <= 9; low++) {
                for (int high = low + 1; high <= 9; high++) {
                    pairs += x.letter(low * ones[position]) == x.letter(high * ones[position])
                            ? 1 : 0;
                }
            }
            Checks.due("weak(" + position + ", 0, 0)", x.weak(position, 0, 0), pairs);
            Checks.due("weak(" + position + ", 0, 1)", x.weak(position, 0, 1), pairs);
        }
    }

    private static void swappedPairs() {
        int[] ones = {100000, 10000, 1000, 100, 10, 1};
        for (int position = 0; position <= 4; position++) {
            ChequeSerials x = Checks.lettered(12, 2, 5, 9, 1, 7, 7);
            int pairs = 0;
            for (int low = 0; low <= 9; low++) {
                for (int high = low + 1; high <= 9; high++) {
                    int one = low * ones[position] + high * ones[position + 1];
                    int two = high * ones[position] + low * ones[position + 1];
                    pairs += x.letter(one) == x.letter(two) ? 1 : 0;
                }
            }
            Checks.due("weak(" + position + ", 1, 0)", x.weak(position, 1, 0), pairs);
            Checks.due("weak(" + position + ", 1, 1)", x.weak(position, 1, 1), pairs);
        }
    }

    /** A modulus and a weight for each least difference that is hidden, and its pairs. */
    private static void pairsByDifferences(int way) {
        int[][] rows = {{7, 7, 45}, {14, 7, 8 + 6 + 4 + 2}, {21, 7, 7 + 4 + 1}, {8, 2, 6 + 2},
            {10, 2, 5}, {12, 2, 4}, {7, 1, 3}, {8, 1, 2}, {9, 1, 1}, {10, 1, 0}, {20, 2, 0},
            {26, 9, 0}, {18, 2, 1}, {24, 8, 7 + 4 + 1}};
        for (int[] row : rows) {
            String told = ", " + way + ") of " + row[1] + " modulo " + row[0];
            ChequeSerials x = Checks.lettered(row[0], row[1]);
            Checks.due("weak(0, 0" + told, x.weak(0, 0, way), row[2]);
            if (row[1] <= 8) {
                ChequeSerials up = Checks.lettered(row[0], 1, 1, 1, 1, 1, 1 + row[1]);
                Checks.due("weak(4, 1" + told + ", upwards", up.weak(4, 1, way), row[2]);
                ChequeSerials down = Checks.lettered(row[0], 9, 9 - row[1]);
                Checks.due("weak(0, 1" + told + ", downwards", down.weak(0, 1, way), row[2]);
            }
        }
    }

    private static void bothWaysAlike() {
        for (int modulus = 7; modulus <= 26; modulus++) {
            for (int weight = 1; weight <= 9; weight++) {
                for (int next = 1; next <= 9; next++) {
                    ChequeSerials x = Checks.lettered(modulus, 1, 1, weight, next);
                    Checks.due("weak(2, 0, 1) modulo " + modulus, x.weak(2, 0, 1),
                            x.weak(2, 0, 0));
                    Checks.due("weak(2, 1, 1) modulo " + modulus, x.weak(2, 1, 1),
                            x.weak(2, 1, 0));
                }
            }
        }
    }

    // ---- Promise 22

    private static void finds() {
        Sentences.section("Promise 22");
        Sentences.bare("`boolean finds(int kind) throws IllegalArgumentException`:");
        Sentences.holds("Tells whether the letter finds all slips of a kind, of all serials.",
                SlipPromises::findsAllSlips);
        Sentences.holds("`kind`: 0 to 2", () -> {
            ChequeSerials x = Checks.lettered(7);
            Checks.due("finds(0) modulo 7", x.finds(0), false);
            Checks.due("finds(1) modulo 7", Checks.lettered(7, 1, 1).finds(1), false);
            Checks.due("finds(1) modulo 10", Checks.lettered(10).finds(1), true);
            Checks.due("finds(2) modulo 7", x.finds(2), true);
        });
        Sentences.holds("Returns whether it does.", () -> {
            for (int kind = 0; kind <= 2; kind++) {
                Checks.due("finds(" + kind + ") at first", new ChequeSerials().finds(kind), true);
                Checks.due("finds(" + kind + ") with all weights 7",
                        Checks.lettered(7, 7, 7, 7, 7, 7, 7).finds(kind), kind == 2);
            }
        });
        Sentences.holds("Throws `IllegalArgumentException` if kind is out of range", () -> {
            for (int kind : new int[] {-1, 3, LEAST, MOST}) {
                Checks.noArgument("finds(" + kind + ")", Checks::busy, x -> x.finds(kind));
            }
        });
    }

    /** A single pair of digits, at a single position, is enough for a slip that is not found. */
    private static void findsAllSlips() {
        for (int position = 0; position <= 5; position++) {
            ChequeSerials x = Checks.lettered(18, 1, 1, 1, 1, 1, 1);
            Checks.due("finds(0) with the weights 1 modulo 18", x.finds(0), true);
            x.weight(position, 2);
            Checks.due("finds(0) with the pair 0 and 9 at " + position, x.finds(0), false);
            Checks.due("it is of other serials", x.missed(123456, 0), 0);
        }
        for (int position = 0; position <= 4; position++) {
            ChequeSerials x = new ChequeSerials();
            x.modulus(18);
            int weight = 2;
            for (int at = 0; at <= 5; at++) {
                x.weight(at, weight);
                weight += at == position ? 2 : at % 2 == 0 ? 1 : -1;
            }
            Checks.due("finds(1) with the pair 0 and 9 at " + position, x.finds(1), false);
            Checks.due("it is of other serials", x.missed(123456, 1), 0);
        }
        Checks.due("finds(1) with neighbours one apart modulo 18",
                Checks.lettered(18, 1, 2, 1, 2, 1, 2).finds(1), true);
    }

    // ---- Promise 23

    private static void bestWeight() {
        Sentences.section("Promise 23");
        Sentences.bare("`int bestWeight(int position) throws IndexOutOfBoundsException`:");
        Sentences.holds("Finds the best weight for a position, all else as it is:", () -> {
            ChequeSerials x = Checks.lettered(12, 5, 7, 5, 7, 5, 7);
            Checks.due("bestWeight(5) modulo 12", x.bestWeight(5), bestByTrying(x, 5));
            x.modulus(7);
            Checks.due("bestWeight(5) modulo 7", x.bestWeight(5), 1);
            x.weight(4, 1);
            Checks.due("bestWeight(5) beside the weight 1", x.bestWeight(5), 2);
            x.weight(0, 9);
            Checks.due("the weight at 5 stays", x.count(17), 7);
        });
        Sentences.holds("the one with which the fewest pairs can be missed",
                SlipPromises::fewestPairs);
        Sentences.holds("(as weak() of the kinds 0 and 1 tells, over all positions together);",
                SlipPromises::pairsOfBothKinds);
        Sentences.holds("of several the lowest.", () -> {
            int[] dues = {1, 2, 1, 1, 1, 1};
            for (int position = 0; position <= 5; position++) {
                Checks.due("bestWeight(" + position + ") at first",
                        new ChequeSerials().bestWeight(position), dues[position]);
            }
            Checks.due("bestWeight(0) beside the weight 1",
                    Checks.lettered(11, 9, 1).bestWeight(0), 2);
            Checks.due("bestWeight(2) between 1 and 2",
                    Checks.lettered(11, 9, 1, 7, 2).bestWeight(2), 3);
        });
        Sentences.holds("`position`: 0 to 5", () -> {
            ChequeSerials x = Checks.lettered(26, 1, 2, 2, 1, 2, 1);
            Checks.due("bestWeight(0) beside the weight 2", x.bestWeight(0), 1);
            Checks.due("bestWeight(5) beside the weight 2", x.bestWeight(5), 1);
            x.weight(1, 1);
            x.weight(4, 1);
            Checks.due("bestWeight(0) beside the weight 1", x.bestWeight(0), 2);
            Checks.due("bestWeight(5) beside the weight 1", x.bestWeight(5), 2);
        });
        Sentences.holds("Returns the weight, 1 to 9.", () -> {
            Checks.due("the weight 9", Checks.lettered(20, 7, 4, 2, 6, 9, 3).bestWeight(4), 9);
            Checks.due("the weight 9, when it is another",
                    Checks.lettered(20, 6, 8, 3, 6, 5, 8).bestWeight(1), 9);
            Checks.due("the weight 1", new ChequeSerials().bestWeight(5), 1);
        });
        Sentences.holds("Throws `IndexOutOfBoundsException` if there is no such position", () -> {
            for (int position : new int[] {-1, 6, LEAST, MOST}) {
                Checks.noIndex("bestWeight(" + position + ")", Checks::busy,
                        x -> x.bestWeight(position));
            }
        });
    }

    /** The bank's own weights and modulus, with one weight after the other at a position. */
    private static int bestByTrying(ChequeSerials bank, int position) {
        int best = 0;
        int fewest = MOST;
        for (int weight = 1; weight <= 9; weight++) {
            ChequeSerials x = Checks.lettered(bank.count(9));
            for (int at = 0; at <= 5; at++) {
                x.weight(at, at == position ? weight : bank.count(12 + at));
            }
            int pairs = 0;
            for (int at = 0; at <= 5; at++) {
                pairs += x.weak(at, 0, 0) + (at < 5 ? x.weak(at, 1, 0) : 0);
            }
            if (pairs < fewest) {
                fewest = pairs;
                best = weight;
            }
        }
        return best;
    }

    private static void fewestPairs() {
        for (int modulus = 7; modulus <= 26; modulus++) {
            ChequeSerials x = Checks.lettered(modulus, 1 + modulus % 9, 6, 1 + modulus % 5, 4, 9,
                    1 + modulus % 7);
            for (int position = 0; position <= 5; position++) {
                Checks.due("bestWeight(" + position + ") modulo " + modulus,
                        x.bestWeight(position), bestByTrying(x, position));
            }
        }
    }

    /** Rows for which one kind or the position alone would tell another weight. */
    private static void pairsOfBothKinds() {
        Checks.due("bestWeight(4) modulo 15", Checks.lettered(15, 3, 9, 9, 1, 4, 5).bestWeight(4),
                2);
        Checks.due("bestWeight(4) modulo 8", Checks.lettered(8, 7, 7, 8, 4, 7, 9).bestWeight(4),
                3);
        Checks.due("bestWeight(4) modulo 24", Checks.lettered(24, 5, 6, 7, 7, 9, 2).bestWeight(4),
                5);
        Checks.due("bestWeight(3) modulo 12", Checks.lettered(12, 5, 5, 8, 3, 7, 1).bestWeight(3),
                5);
        Checks.due("bestWeight(4) modulo 20", Checks.lettered(20, 4, 5, 5, 7, 4, 1).bestWeight(4),
                3);
        Checks.due("bestWeight(3) modulo 18", Checks.lettered(18, 2, 6, 1, 5, 5, 6).bestWeight(3),
                2);
    }

    // ---- Promise 24

    private static void meant() {
        Sentences.section("Promise 24");
        Sentences.bare("`int meant(int serial, int letter, int rank) throws"
                + " IndexOutOfBoundsException, IllegalArgumentException`:");
        Sentences.bare("Returns the cheques that a reading can have meant:");
        Sentences.holds("those in a book whose right reading is this reading,", () -> {
            ChequeSerials x = new ChequeSerials();
            x.book(123456, 1);
            Checks.due("meant(123456, 3, NONE)", x.meant(123456, 3, NONE), 1);
            Checks.due("meant(123456, 3, 0)", x.meant(123456, 3, 0), 123456);
            Checks.due("a right reading in no book", x.meant(123457, 9, NONE), 0);
            Checks.due("a right reading before it", x.meant(123455, 8, NONE), 0);
            x.voidRun(0, 999999);
            Checks.due("that of a void cheque", x.meant(123456, 3, NONE), 1);
        });
        Sentences.holds("or becomes this reading by one slip.", SlipPromises::meantByOneSlip);
        Sentences.holds("`serial`: the serial that is read", () -> {
            ChequeSerials x = new ChequeSerials();
            x.book(0, 2);
            x.book(999998, 2);
            Checks.due("meant(0, 0, 0)", x.meant(0, 0, 0), 0);
            Checks.due("meant(0, 6, NONE)", x.meant(0, 6, NONE), 2);
            Checks.due("meant(999999, 2, NONE)", x.meant(999999, 2, NONE), 1);
            Checks.due("meant(999999, 7, 0)", x.meant(999999, 7, 0), 999998);
            Checks.due("meant(999999, 7, 1)", x.meant(999999, 7, 1), 999999);
        });
        Sentences.holds("`letter`: the index of the letter that is read, 0 to 25", () -> {
            ChequeSerials x = Checks.lettered(26);
            x.book(123456, 1);
            for (int letter = 0; letter <= 25; letter++) {
                Checks.due("meant(123456, " + letter + ", NONE)", x.meant(123456, letter, NONE),
                        1);
            }
        });
        meantRanks();
    }

    private static void meantRanks() {
        Sentences.holds("`rank`: NONE for how many there are;", () -> {
            ChequeSerials x = sevenths();
            Checks.due("meant(0, 0, NONE)", x.meant(0, 0, NONE), 13);
            Checks.due("meant(999999, 0, NONE)", x.meant(999999, 0, NONE), 0);
            Checks.due("meant(111111, 0, NONE)", x.meant(111111, 0, NONE), 1);
            Checks.due("meant(0, 0, NONE) without books",
                    new ChequeSerials().meant(0, 0, NONE), 0);
        });
        Sentences.holds("0 for the lowest serial, 1 for the next one, and so on", () -> {
            ChequeSerials x = sevenths();
            int[] dues = {0, 1, 2, 3, 4, 5, 6, 7, 8, 9, 10, 20, 30};
            for (int rank = 0; rank < dues.length; rank++) {
                Checks.due("meant(0, 0, " + rank + ")", x.meant(0, 0, rank), dues[rank]);
            }
        });
        Sentences.bare("Returns the number, or the serial;");
        Sentences.holds("NONE if there are not so many", () -> {
            ChequeSerials x = sevenths();
            Checks.due("meant(0, 0, 12)", x.meant(0, 0, 12), 30);
            Checks.due("meant(0, 0, 13)", x.meant(0, 0, 13), -1);
            Checks.due("meant(0, 0, most)", x.meant(0, 0, MOST), -1);
            Checks.due("meant(999999, 0, 0)", x.meant(999999, 0, 0), -1);
            Checks.due("meant(0, 0, 0) without books", new ChequeSerials().meant(0, 0, 0), -1);
        });
        Sentences.holds("(a letter from the modulus on can have been read by no slip).", () -> {
            for (int modulus : new int[] {7, 11, 25}) {
                ChequeSerials x = Checks.lettered(modulus, 7);
                x.book(0, 40);
                Checks.due("meant(20, last letter, NONE) modulo " + modulus,
                        x.meant(20, modulus - 1, NONE) > 0, true);
                for (int letter = modulus; letter <= 25; letter++) {
                    Checks.due("meant(20, " + letter + ", NONE) modulo " + modulus,
                            x.meant(20, letter, NONE), 0);
                    Checks.due("meant(20, " + letter + ", 0) modulo " + modulus,
                            x.meant(20, letter, 0), -1);
                }
            }
        });
        meantThrows();
    }

    private static void meantThrows() {
        Sentences.holds("Throws `IndexOutOfBoundsException` if there is no such serial", () -> {
            for (int serial : new int[] {-1, 1000000, LEAST, MOST}) {
                Checks.noIndex("meant(" + serial + ", 0, NONE)", Checks::busy,
                        x -> x.meant(serial, 0, NONE));
                Checks.noIndex("meant(" + serial + ", 26, 0)", Checks::busy,
                        x -> x.meant(serial, 26, 0));
                Checks.noIndex("meant(" + serial + ", 0, -2)", Checks::busy,
                        x -> x.meant(serial, 0, -2));
            }
        });
        Sentences.holds("Throws `IllegalArgumentException` if letter is out of range,", () -> {
            for (int letter : new int[] {-1, 26, LEAST, MOST}) {
                Checks.noArgument("meant(501, " + letter + ", 0)", Checks::busy,
                        x -> x.meant(501, letter, 0));
                Checks.noArgument("meant(0, " + letter + ", NONE)", Checks::busy,
                        x -> x.meant(0, letter, NONE));
            }
        });
        Sentences.holds("or rank is less than NONE", () -> {
            for (int rank : new int[] {-2, -3, LEAST}) {
                Checks.noArgument("meant(501, 0, " + rank + ")", Checks::busy,
                        x -> x.meant(501, 0, rank));
            }
        });
    }

    /** All letters are A; the books are 10 to 19, 30 to 39, 0 to 9, 20 to 29 and 111112. */
    private static ChequeSerials sevenths() {
        ChequeSerials x = Checks.lettered(7, 7, 7, 7, 7, 7, 7);
        x.book(10, 10);
        x.book(30, 10);
        x.book(0, 10);
        x.book(20, 10);
        x.book(111112, 1);
        return x;
    }

    private static void meantByOneSlip() {
        ChequeSerials letters = new ChequeSerials();
        letters.book(123456, 1);
        for (int letter = 0; letter <= 10; letter++) {
            Checks.due("a letter misread as " + letter, letters.meant(123456, letter, 0), 123456);
        }
        int[] misread = {923456, 133456, 120456, 123956, 123466, 123450};
        for (int read : misread) {
            Checks.due("a digit misread in " + read, letters.meant(read, 3, 0), 123456);
            Checks.due("and the letter", letters.meant(read, 4, NONE), 0);
        }
        int[] swapped = {213456, 132456, 124356, 123546, 123465};
        for (int read : swapped) {
            Checks.due("two digits swapped in " + read, letters.meant(read, 3, 0), 123456);
            Checks.due("and the letter", letters.meant(read, 4, NONE), 0);
        }
        int[] twoSlips = {923450, 213465, 321456, 623451, 223457};
        for (int read : twoSlips) {
            Checks.due("two slips in " + read, letters.meant(read, 3, NONE), 0);
        }
        // By the letter, then swapped, then misread: 000101 K, 000110 J and 000121 J.
        ChequeSerials x = new ChequeSerials();
        x.book(110, 40);
        x.book(90, 20);
        Checks.due("meant(101, 9, NONE)", x.meant(101, 9, NONE), 3);
        Checks.due("meant(101, 9, 0)", x.meant(101, 9, 0), 101);
        Checks.due("meant(101, 9, 1)", x.meant(101, 9, 1), 110);
        Checks.due("meant(101, 9, 2)", x.meant(101, 9, 2), 121);
    }

    // ---- Promise 25

    private static void slip() {
        Sentences.section("Promise 25");
        Sentences.bare("`int slip(int serial, int read, int letter) throws"
                + " IndexOutOfBoundsException, IllegalArgumentException`:");
        Sentences.holds("Tells by which kind of slip the right reading of a serial becomes a"
                + " reading.", () -> {
            ChequeSerials x = new ChequeSerials();
            Checks.due("a digit, with the letter of the serial", x.slip(123456, 123457, 3), 0);
            Checks.due("a digit, with the letter of what is read", x.slip(123456, 123457, 9), -1);
            Checks.due("a swap, with the letter of the serial", x.slip(123456, 123465, 3), 1);
            Checks.due("a swap, with the letter of what is read", x.slip(123456, 123465, 2), -1);
            Checks.due("the letter", x.slip(123456, 123456, 9), 2);
        });
        Sentences.holds("`serial`: the serial", () -> {
            ChequeSerials x = new ChequeSerials();
            Checks.due("slip(0, 9, 0)", x.slip(0, 9, 0), 0);
            Checks.due("slip(999999, 999990, 2)", x.slip(999999, 999990, 2), 0);
            Checks.due("slip(999999, 999999, 2)", x.slip(999999, 999999, 2), 3);
        });
        Sentences.holds("`read`: the serial that is read", () -> {
            ChequeSerials x = new ChequeSerials();
            Checks.due("slip(100000, 0, 1)", x.slip(100000, 0, 1), 0);
            Checks.due("slip(899999, 999999, 1)", x.slip(899999, 999999, 1), 0);
            Checks.due("slip(100000, 10000, 1)", x.slip(100000, 10000, 1), 1);
        });
        Sentences.holds("`letter`: the index of the letter that is read, 0 to 25", () -> {
            ChequeSerials x = Checks.lettered(26);
            for (int letter = 0; letter <= 25; letter++) {
                Checks.due("slip(20, 20, " + letter + ")", x.slip(20, 20, letter),
                        letter == 10 ? 3 : 2);
            }
        });
        slipReturns();
    }

    private static void slipReturns() {
        Sentences.holds("Returns the kind;", SlipPromises::kindOfEachSlip);
        Sentences.holds("3 if it is the right reading itself;", () -> {
            ChequeSerials x = new ChequeSerials();
            for (int serial : new int[] {0, 11, 20, 123456, 112233, 999999}) {
                Checks.due("slip() to " + serial, x.slip(serial, serial, x.letter(serial)), 3);
            }
        });
        Sentences.holds("NONE if it does not become it by one slip.", () -> {
            ChequeSerials x = new ChequeSerials();
            int[] twoSlips = {923450, 213465, 321456, 623451, 223457, 654321, 0, 999999, 231456,
                113457, 123564, 213455, 313456, 243456, 303456, 123495, 123467, 123474};
            for (int read : twoSlips) {
                Checks.due("slip(123456, " + read + ", 3)", x.slip(123456, read, 3), -1);
            }
            Checks.due("a digit and the letter", x.slip(123456, 123457, 4), -1);
            Checks.due("a swap and the letter", x.slip(123456, 123465, 4), -1);
            Checks.due("a letter that cannot be", x.slip(123456, 123456, 11), -1);
            Checks.due("the letter Z", x.slip(123456, 123456, 25), -1);
        });
        slipThrows();
    }

    private static void slipThrows() {
        Sentences.holds("Throws `IndexOutOfBoundsException` if there is no such serial", () -> {
            for (int serial : new int[] {-1, 1000000, LEAST, MOST}) {
                for (int letter : new int[] {0, 26}) {
                    Checks.noIndex("slip(" + serial + ", 0, " + letter + ")", Checks::busy,
                            x -> x.slip(serial, 0, letter));
                    Checks.noIndex("slip(0, " + serial + ", " + letter + ")", Checks::busy,
                            x -> x.slip(0, serial, letter));
                    Checks.noIndex("slip(" + serial + ", the same, " + letter + ")", Checks::busy,
                            x -> x.slip(serial, serial, letter));
                }
            }
        });
        Sentences.holds("Throws `IllegalArgumentException` if letter is out of range", () -> {
            for (int letter : new int[] {-1, 26, LEAST, MOST}) {
                Checks.noArgument("slip(0, 0, " + letter + ")", Checks::busy,
                        x -> x.slip(0, 0, letter));
                Checks.noArgument("slip(123456, 654321, " + letter + ")", Checks::busy,
                        x -> x.slip(123456, 654321, letter));
            }
        });
    }

    private static void kindOfEachSlip() {
        for (int serial : new int[] {0, 123456, 998877, 100001}) {
            for (int one = 1; one <= 100000; one *= 10) {
                ChequeSerials x = new ChequeSerials();
                int letter = x.letter(serial);
                int digit = serial / one % 10;
                for (int other = 0; other <= 9; other++) {
                    int read = serial + (other - digit) * one;
                    Checks.due("slip(" + serial + ", " + read + ")", x.slip(serial, read, letter),
                            other == digit ? 3 : 0);
                }
                int front = serial / one / 10 % 10;
                if (one < 100000 && front != digit) {
                    int read = serial + (front - digit) * one + (digit - front) * one * 10;
                    Checks.due("slip(" + serial + ", " + read + ")", x.slip(serial, read, letter),
                            1);
                }
                for (int other = 0; other <= 25; other++) {
                    Checks.due("slip(" + serial + ", letter " + other + ")",
                            x.slip(serial, serial, other),
                            other == letter ? 3 : other < 11 ? 2 : -1);
                }
            }
        }
    }
}
