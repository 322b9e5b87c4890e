/**
 * A bank whose cheques carry a check letter behind their serial: books of cheques, what becomes of
 * them, and what misread serials and letters can have meant.
 */
public final class ChequeSerials {
    /** There is no such number. */
    public static final int NONE = -1;

    private static final int SERIALS = 1000000;
    private static final int DIGITS = 6;
    private static final int LETTERS = 26;
    private static final int LOWEST_WEIGHT = 1;
    private static final int HIGHEST_WEIGHT = 9;
    private static final int LOWEST_MODULUS = 7;
    private static final int HIGHEST_MODULUS = 26;
    private static final int HIGHEST_AMOUNT = 999;

    private static final int BOOKS = 6;
    private static final int BOOK_SIZE = 40;
    private static final int SAVED_STATES = 6;
    private static final int SLOTS = 2;
    private static final int BUFFER_SIZE = 60;

    private static final int BLANK = 0;
    private static final int WRITTEN = 1;
    private static final int CASHED = 2;
    private static final int VOID = 3;

    private static final int DIGIT_MISREAD = 0;
    private static final int DIGITS_SWAPPED = 1;
    private static final int LETTER_MISREAD = 2;
    private static final int NO_SLIP = 3;

    // What keeps an order from being carried out: the same tests serve a call, which then throws,
    // and an order of the buffer, which then only ends the execution.
    private static final int FINE = 0;
    private static final int NO_SUCH_NUMBER = 1;
    private static final int OUT_OF_RANGE = 2;
    private static final int NOT_NOW = 3;

    private static final int NOT_RIGHT = 1;
    private static final int IN_NO_BOOK = 2;
    private static final int NOT_WRITTEN = 3;

    private final State now;
    private final History history;
    private final OrderText orders;

    /** Creates a bank without books. */
    public ChequeSerials() {
        now = new State();
        history = new History();
        orders = new OrderText();
    }

    // ---- letters

    /** Changes the weight of a position; returns the previous one. */
    public int weight(int position, int weight)
            throws IndexOutOfBoundsException, IllegalArgumentException {
        throwIfNoPosition(position);
        if (weight < LOWEST_WEIGHT || weight > HIGHEST_WEIGHT) {
            throw new IllegalArgumentException("a weight is 1 to 9");
        }
        history.save(now);
        int previous = now.letters.weightAt(position);
        now.letters.setWeight(position, weight);
        return previous;
    }

    /** Changes the modulus; returns the previous one. */
    public int modulus(int modulus) throws IllegalArgumentException {
        if (modulus < LOWEST_MODULUS || modulus > HIGHEST_MODULUS) {
            throw new IllegalArgumentException("a modulus is 7 to 26");
        }
        history.save(now);
        int previous = now.letters.modulus;
        now.letters.modulus = modulus;
        return previous;
    }

    // ---- books and cheques

    /** Adds a book of blank cheques; returns its number. */
    public int book(int first, int count)
            throws IndexOutOfBoundsException, IllegalArgumentException, IllegalStateException {
        throwIfFaulty(faultOfBook(first, count));
        history.save(now);
        return now.books.add(first, count);
    }

    /** Writes a cheque; returns the index of its letter. */
    public int write(int serial, int amount)
            throws IndexOutOfBoundsException, IllegalArgumentException, IllegalStateException {
        throwIfFaulty(faultOfWriting(serial, amount));
        history.save(now);
        now.books.makeWritten(now.books.cellOf(serial), amount);
        return now.letters.letterOf(serial);
    }

    /** Cashes a cheque by a reading; returns its amount, or minus the reason of a refusal. */
    public int cash(int serial, int letter)
            throws IndexOutOfBoundsException, IllegalArgumentException {
        throwIfNoSerial(serial);
        throwIfNoLetter(letter);
        history.save(now);
        return now.cashByReading(serial, letter);
    }

    /** Makes void what can become void in a run of serials; returns how many cheques do. */
    public int voidRun(int from, int to)
            throws IndexOutOfBoundsException, IllegalArgumentException {
        throwIfFaulty(faultOfRun(from, to));
        history.save(now);
        return now.books.makeRunVoid(from, to);
    }

    // ---- order text

    /** Appends a character to the buffer; returns the new length. */
    public int append(int code) throws IllegalArgumentException, IllegalStateException {
        if (code < 33 || code > 126) {
            throw new IllegalArgumentException("a character code is 33 to 126");
        }
        if (orders.isFull()) {
            throw new IllegalStateException("the buffer is full");
        }
        return orders.add(code);
    }

    /** Clears the buffer; returns the length that it had. */
    public int clearBuffer() {
        return orders.clear();
    }

    /** Returns the index of the first error of the buffer, its length without one. */
    public int firstError() {
        return orders.errorIndex();
    }

    /** Executes the orders in the buffer; returns how many were executed. */
    public int execute() throws IllegalArgumentException {
        if (!orders.isComplete()) {
            throw new IllegalArgumentException("the buffer is not a complete order text");
        }
        history.save(now);
        int done = runOrders();
        orders.clear();
        return done;
    }

    // ---- undo and snapshots

    /** Restores the state that was saved last; returns how many are left. */
    public int undo() throws IllegalStateException {
        if (history.depth < 1) {
            throw new IllegalStateException("no state is saved");
        }
        history.restoreLast(now);
        return history.depth;
    }

    /** Takes a snapshot of the state; returns the number of books. */
    public int keep(int slot) throws IllegalArgumentException {
        throwIfNoSlot(slot);
        history.putIntoSlot(slot, now);
        return now.books.held;
    }

    /** Restores a snapshot; returns the number of books after that. */
    public int goBack(int slot) throws IllegalArgumentException, IllegalStateException {
        throwIfNoSlot(slot);
        if (!history.isSlotFilled(slot)) {
            throw new IllegalStateException("the slot is empty");
        }
        history.save(now);
        history.restoreSlot(slot, now);
        return now.books.held;
    }

    // ---- queries; nothing changes

    /** Returns the index of the letter of a serial. */
    public int letter(int serial) throws IndexOutOfBoundsException {
        throwIfNoSerial(serial);
        return now.letters.letterOf(serial);
    }

    /** Returns a number of a cheque. */
    public int cheque(int serial, int what)
            throws IndexOutOfBoundsException, IllegalArgumentException {
        int cell = now.books.cellOf(serial);
        if (cell == NONE) {
            throw new IndexOutOfBoundsException("there is no such cheque");
        }
        switch (what) {
            case 0:
                return now.books.kindAt(cell);
            case 1:
                return now.books.amountAt(cell);
            case 2:
                return cell / BOOK_SIZE;
            case 3:
                return cell % BOOK_SIZE;
            case 4:
                return now.books.sameKindFrom(cell);
            default:
                throw new IllegalArgumentException("a cheque has the numbers 0 to 4");
        }
    }

    /** Returns a number of a book. */
    public int bookOf(int book, int what)
            throws IndexOutOfBoundsException, IllegalArgumentException {
        if (book < 0 || book >= now.books.held) {
            throw new IndexOutOfBoundsException("there is no such book");
        }
        if (what < 0 || what > 8) {
            throw new IllegalArgumentException("a book has the numbers 0 to 8");
        }
        return now.books.numberOf(book, what);
    }

    /** Returns a number of the bank. */
    public int count(int what) throws IllegalArgumentException {
        if (what < 0 || what > 17) {
            throw new IllegalArgumentException("a bank has the numbers 0 to 17");
        }
        if (what >= 12) {
            return now.letters.weightAt(what - 12);
        }
        switch (what) {
            case 0:
                return now.books.held;
            case 8:
                return now.refusals;
            case 9:
                return now.letters.modulus;
            case 10:
                return history.depth;
            case 11:
                return orders.length;
            default:
                return now.books.numberOfAll(what);
        }
    }

    /** Returns the serial with a rank among all that are in a book. */
    public int ranked(int rank) throws IllegalArgumentException {
        if (rank < 0) {
            throw new IllegalArgumentException("a rank is not negative");
        }
        return now.books.serialOfRank(rank);
    }

    // ---- slips; nothing changes

    /** Returns how many slips of the right reading of a serial are not found. */
    public int missed(int serial, int kind)
            throws IndexOutOfBoundsException, IllegalArgumentException {
        throwIfNoSerial(serial);
        throwIfNoSlipKind(kind);
        switch (kind) {
            case DIGIT_MISREAD:
                return now.letters.hiddenMisreadings(serial);
            case DIGITS_SWAPPED:
                return now.letters.hiddenSwaps(serial);
            default:
                // The digits stay, so another letter than theirs is never right.
                return 0;
        }
    }

    /** Returns how many pairs of digits can be missed at a position. */
    public int weak(int position, int kind, int way)
            throws IndexOutOfBoundsException, IllegalArgumentException {
        if (position < 0 || position >= positionsOf(kind)) {
            throw new IndexOutOfBoundsException("there is no such position");
        }
        if (kind < 0 || kind > 1 || way < 0 || way > 1) {
            throw new IllegalArgumentException("kind and way are 0 or 1");
        }
        int factor = now.letters.factorAt(position, kind);
        return way == 0 ? now.letters.hiddenPairsTried(factor) : now.letters.hiddenPairs(factor);
    }

    /** Tells whether the letter finds all slips of a kind, of all serials. */
    public boolean finds(int kind) throws IllegalArgumentException {
        throwIfNoSlipKind(kind);
        return kind == LETTER_MISREAD || now.letters.hidesNothing(kind);
    }

    /** Returns the lowest weight for a position with which the fewest pairs can be missed. */
    public int bestWeight(int position) throws IndexOutOfBoundsException {
        throwIfNoPosition(position);
        int best = LOWEST_WEIGHT;
        int fewest = now.letters.hiddenPairsWith(position, best);
        for (int weight = LOWEST_WEIGHT + 1; weight <= HIGHEST_WEIGHT; weight++) {
            int hidden = now.letters.hiddenPairsWith(position, weight);
            if (hidden < fewest) {
                best = weight;
                fewest = hidden;
            }
        }
        return best;
    }

    /** Returns the cheques that a reading can have meant: how many, or the one with a rank. */
    public int meant(int serial, int letter, int rank)
            throws IndexOutOfBoundsException, IllegalArgumentException {
        throwIfNoSerial(serial);
        throwIfNoLetter(letter);
        if (rank < NONE) {
            throw new IllegalArgumentException("a rank is NONE or not negative");
        }
        return now.meantCheques(serial, letter, rank);
    }

    /** Tells by which kind of slip the right reading of a serial becomes a reading. */
    public int slip(int serial, int read, int letter)
            throws IndexOutOfBoundsException, IllegalArgumentException {
        throwIfNoSerial(serial);
        throwIfNoSerial(read);
        throwIfNoLetter(letter);
        return now.letters.slipKind(serial, read, letter);
    }

    /** Returns the share of cheques that are cashed. */
    public double cashed() {
        int all = now.books.numberOfAll(1);
        if (all < 1) {
            return 0.0;
        }
        return (double) now.books.numberOfAll(2 + CASHED) / (double) all;
    }

    // ---- what is looked at before a call changes anything

    private static void throwIfNoPosition(int position) {
        if (position < 0 || position >= DIGITS) {
            throw new IndexOutOfBoundsException("there is no such position");
        }
    }

    private static void throwIfNoSerial(int serial) {
        if (!isSerial(serial)) {
            throw new IndexOutOfBoundsException("there is no such serial");
        }
    }

    private static void throwIfNoLetter(int letter) {
        if (letter < 0 || letter >= LETTERS) {
            throw new IllegalArgumentException("a letter is 0 to 25");
        }
    }

    private static void throwIfNoSlipKind(int kind) {
        if (kind < DIGIT_MISREAD || kind > LETTER_MISREAD) {
            throw new IllegalArgumentException("a kind of slips is 0 to 2");
        }
    }

    private static void throwIfNoSlot(int slot) {
        if (slot < 0 || slot >= SLOTS) {
            throw new IllegalArgumentException("a slot is 0 or 1");
        }
    }

    private static void throwIfFaulty(int fault) {
        if (fault == NO_SUCH_NUMBER) {
            throw new IndexOutOfBoundsException("there is no such serial or cheque");
        }
        if (fault == OUT_OF_RANGE) {
            throw new IllegalArgumentException("a number is out of range");
        }
        if (fault == NOT_NOW) {
            throw new IllegalStateException("the books do not allow it");
        }
    }

    private static boolean isSerial(int number) {
        return number >= 0 && number < SERIALS;
    }

    private static int positionsOf(int kind) {
        return kind == DIGITS_SWAPPED ? DIGITS - 1 : DIGITS;
    }

    private int faultOfBook(int first, int size) {
        if (!isSerial(first)) {
            return NO_SUCH_NUMBER;
        }
        if (size < 1 || size > BOOK_SIZE) {
            return OUT_OF_RANGE;
        }
        if (!isSerial(first + size - 1)) {
            return NO_SUCH_NUMBER;
        }
        return now.books.canTake(first, size) ? FINE : NOT_NOW;
    }

    private int faultOfWriting(int serial, int amount) {
        int cell = now.books.cellOf(serial);
        if (cell == NONE) {
            return NO_SUCH_NUMBER;
        }
        if (amount < 1 || amount > HIGHEST_AMOUNT) {
            return OUT_OF_RANGE;
        }
        return now.books.kindAt(cell) == BLANK ? FINE : NOT_NOW;
    }

    private static int faultOfRun(int from, int to) {
        if (!isSerial(from) || !isSerial(to)) {
            return NO_SUCH_NUMBER;
        }
        return to < from ? OUT_OF_RANGE : FINE;
    }

    // ---- the orders of the buffer, which is a complete order text here

    private int runOrders() {
        int done = 0;
        int start = 0;
        int length = orders.length;
        for (int at = 0; at <= length; at++) {
            if (at == length || orders.signAt(at) == ';') {
                if (!runOrder(start, at)) {
                    return done;
                }
                done++;
                start = at + 1;
            }
        }
        return done;
    }

    private boolean runOrder(int start, int end) {
        int serial = orders.numberIn(start + 1, start + 1 + DIGITS);
        int number = orders.numberIn(start + OrderText.HEAD, end);
        switch (orders.signAt(start)) {
            case 'b':
                return runBook(serial, number);
            case 'w':
                return runWriting(serial, number);
            case 'c':
                return now.cashByReading(serial, orders.signAt(end - 1) - 'A') > 0;
            case 'v':
                return runVoiding(serial, number);
            default:
                return false;
        }
    }

    private boolean runBook(int first, int size) {
        if (faultOfBook(first, size) != FINE) {
            return false;
        }
        now.books.add(first, size);
        return true;
    }

    private boolean runWriting(int serial, int amount) {
        if (faultOfWriting(serial, amount) != FINE) {
            return false;
        }
        now.books.makeWritten(now.books.cellOf(serial), amount);
        return true;
    }

    private boolean runVoiding(int from, int to) {
        if (faultOfRun(from, to) != FINE) {
            return false;
        }
        now.books.makeRunVoid(from, to);
        return true;
    }

    /** Copies one row of numbers over another one of the same length. */
    private static void copyRow(int[] from, int[] to) {
        for (int i = 0; i < to.length && i < from.length; i++) {
            to[i] = from[i];
        }
    }

    /** All that undo and snapshots bring back. */
    private static final class State {
        final Letters letters = new Letters();
        final Books books = new Books();
        int refusals;

        void copyFrom(State other) {
            letters.copyFrom(other.letters);
            books.copyFrom(other.books);
            refusals = other.refusals;
        }

        int cashByReading(int serial, int letter) {
            int reason = reasonAgainstCashing(serial, letter);
            if (reason != FINE) {
                refusals++;
                return -reason;
            }
            int cell = books.cellOf(serial);
            books.makeCashed(cell);
            return books.amountAt(cell);
        }

        private int reasonAgainstCashing(int serial, int letter) {
            if (letters.letterOf(serial) != letter) {
                return NOT_RIGHT;
            }
            int cell = books.cellOf(serial);
            if (cell == NONE) {
                return IN_NO_BOOK;
            }
            return books.kindAt(cell) == WRITTEN ? FINE : NOT_WRITTEN;
        }

        /** The cheque with a rank among those that a reading can have meant; for NONE how many. */
        int meantCheques(int read, int letter, int rank) {
            int meant = 0;
            for (int order = 0; order < books.held; order++) {
                int book = books.bookOfRank(order);
                int end = books.firstOf(book) + books.sizeOf(book);
                for (int serial = books.firstOf(book); serial < end; serial++) {
                    if (letters.slipKind(serial, read, letter) != NONE) {
                        if (meant == rank) {
                            return serial;
                        }
                        meant++;
                    }
                }
            }
            return rank == NONE ? meant : NONE;
        }
    }

    /** The weights and the modulus, and what they find and hide. */
    private static final class Letters {
        private final int[] weights = new int[DIGITS];
        int modulus = 11;

        Letters() {
            for (int position = 0; position < weights.length; position++) {
                weights[position] = 1 + position;
            }
        }

        void copyFrom(Letters other) {
            copyRow(other.weights, weights);
            modulus = other.modulus;
        }

        int weightAt(int position) {
            return position >= 0 && position < weights.length ? weights[position] : 0;
        }

        void setWeight(int position, int weight) {
            if (position >= 0 && position < weights.length) {
                weights[position] = weight;
            }
        }

        int letterOf(int serial) {
            int sum = 0;
            int front = serial;
            for (int position = DIGITS - 1; position >= 0; position--) {
                sum += weightAt(position) * (front % 10);
                front /= 10;
            }
            return restOf(sum);
        }

        private int restOf(int sum) {
            if (modulus < 1) {
                return 0;
            }
            int rest = sum % modulus;
            return rest < 0 ? rest + modulus : rest;
        }

        private static int digitAt(int serial, int position) {
            int front = serial;
            for (int behind = DIGITS - 1; behind > position; behind--) {
                front /= 10;
            }
            return front % 10;
        }

        /** By how much the sum grows with a digit, or with the difference of two that are swapped. */
        int factorAt(int position, int kind) {
            int own = weightAt(position);
            return kind == DIGITS_SWAPPED ? own - weightAt(position + 1) : own;
        }

        private boolean isHidden(int factor, int difference) {
            return restOf(factor * difference) == 0;
        }

        int hiddenPairsTried(int factor) {
            int pairs = 0;
            for (int low = 0; low <= 9; low++) {
                for (int high = low + 1; high <= 9; high++) {
                    if (restOf(factor * low) == restOf(factor * high)) {
                        pairs++;
                    }
                }
            }
            return pairs;
        }

        int hiddenPairs(int factor) {
            int pairs = 0;
            for (int difference = 1; difference <= 9; difference++) {
                if (isHidden(factor, difference)) {
                    pairs += 10 - difference;
                }
            }
            return pairs;
        }

        /** The pairs of both kinds over all positions, if one position had another weight. */
        int hiddenPairsWith(int changed, int weight) {
            int pairs = 0;
            for (int position = 0; position < DIGITS; position++) {
                int own = position == changed ? weight : weightAt(position);
                pairs += hiddenPairs(own);
                if (position + 1 < DIGITS) {
                    int next = position + 1 == changed ? weight : weightAt(position + 1);
                    pairs += hiddenPairs(own - next);
                }
            }
            return pairs;
        }

        boolean hidesNothing(int kind) {
            for (int position = 0; position < positionsOf(kind); position++) {
                if (hiddenPairs(factorAt(position, kind)) > 0) {
                    return false;
                }
            }
            return true;
        }

        int hiddenMisreadings(int serial) {
            int hidden = 0;
            for (int position = 0; position < DIGITS; position++) {
                int digit = digitAt(serial, position);
                int factor = factorAt(position, DIGIT_MISREAD);
                for (int other = 0; other <= 9; other++) {
                    if (other != digit && isHidden(factor, other - digit)) {
                        hidden++;
                    }
                }
            }
            return hidden;
        }

        int hiddenSwaps(int serial) {
            int hidden = 0;
            for (int position = 0; position + 1 < DIGITS; position++) {
                int difference = digitAt(serial, position + 1) - digitAt(serial, position);
                int factor = factorAt(position, DIGITS_SWAPPED);
                if (difference != 0 && isHidden(factor, difference)) {
                    hidden++;
                }
            }
            return hidden;
        }

        /** The slip from the right reading of a serial to a reading, NO_SLIP, or NONE. */
        int slipKind(int serial, int read, int letter) {
            if (letter >= modulus) {
                return NONE;
            }
            boolean sameLetter = letterOf(serial) == letter;
            if (serial == read) {
                return sameLetter ? NO_SLIP : LETTER_MISREAD;
            }
            return sameLetter ? digitSlip(serial, read) : NONE;
        }

        private static int digitSlip(int serial, int read) {
            int different = 0;
            int firstDifferent = 0;
            for (int position = 0; position < DIGITS; position++) {
                if (digitAt(serial, position) != digitAt(read, position)) {
                    if (different == 0) {
                        firstDifferent = position;
                    }
                    different++;
                }
            }
            if (different == 1) {
                return DIGIT_MISREAD;
            }
            boolean swapped = different == 2 && isSwapped(serial, read, firstDifferent);
            return swapped ? DIGITS_SWAPPED : NONE;
        }

        private static boolean isSwapped(int serial, int read, int position) {
            return digitAt(serial, position) == digitAt(read, position + 1)
                    && digitAt(serial, position + 1) == digitAt(read, position);
        }
    }

    /** The books, and a cell for each cheque: its book's number times BOOK_SIZE, plus its place. */
    private static final class Books {
        private final int[] firsts = new int[BOOKS];
        private final int[] sizes = new int[BOOKS];
        private final int[] kinds = new int[BOOKS * BOOK_SIZE];
        private final int[] amounts = new int[BOOKS * BOOK_SIZE];
        int held;

        void copyFrom(Books other) {
            copyRow(other.firsts, firsts);
            copyRow(other.sizes, sizes);
            copyRow(other.kinds, kinds);
            copyRow(other.amounts, amounts);
            held = other.held;
        }

        int firstOf(int book) {
            return book >= 0 && book < firsts.length ? firsts[book] : NONE;
        }

        int sizeOf(int book) {
            return book >= 0 && book < sizes.length ? sizes[book] : 0;
        }

        boolean canTake(int first, int size) {
            if (held >= BOOKS) {
                return false;
            }
            for (int book = 0; book < held; book++) {
                int other = firstOf(book);
                if (first < other + sizeOf(book) && other < first + size) {
                    return false;
                }
            }
            return true;
        }

        int add(int first, int size) {
            int book = held;
            if (book < 0 || book >= firsts.length || book >= sizes.length) {
                return NONE;
            }
            firsts[book] = first;
            sizes[book] = size;
            for (int place = 0; place < size; place++) {
                setCell(book * BOOK_SIZE + place, BLANK, 0);
            }
            held = book + 1;
            return book;
        }

        int cellOf(int serial) {
            for (int book = 0; book < held; book++) {
                int first = firstOf(book);
                if (serial >= first && serial < first + sizeOf(book)) {
                    return book * BOOK_SIZE + serial - first;
                }
            }
            return NONE;
        }

        int kindAt(int cell) {
            return cell >= 0 && cell < kinds.length ? kinds[cell] : NONE;
        }

        int amountAt(int cell) {
            return cell >= 0 && cell < amounts.length ? amounts[cell] : 0;
        }

        private void setCell(int cell, int kind, int amount) {
            if (cell >= 0 && cell < kinds.length && cell < amounts.length) {
                kinds[cell] = kind;
                amounts[cell] = amount;
            }
        }

        void makeWritten(int cell, int amount) {
            setCell(cell, WRITTEN, amount);
        }

        void makeCashed(int cell) {
            setCell(cell, CASHED, amountAt(cell));
        }

        int makeRunVoid(int from, int to) {
            int made = 0;
            for (int book = 0; book < held; book++) {
                int first = firstOf(book);
                int last = Math.min(to, first + sizeOf(book) - 1);
                for (int serial = Math.max(from, first); serial <= last; serial++) {
                    made += makeVoid(book * BOOK_SIZE + serial - first);
                }
            }
            return made;
        }

        private int makeVoid(int cell) {
            int kind = kindAt(cell);
            if (kind != BLANK && kind != WRITTEN) {
                return 0;
            }
            setCell(cell, VOID, 0);
            return 1;
        }

        int sameKindFrom(int cell) {
            int book = cell / BOOK_SIZE;
            int end = book * BOOK_SIZE + sizeOf(book);
            int kind = kindAt(cell);
            int same = 0;
            for (int next = cell; next < end && kindAt(next) == kind; next++) {
                same++;
            }
            return same;
        }

        /** A number of a book, told as the document's bookOf tells it. */
        int numberOf(int book, int what) {
            switch (what) {
                case 0:
                    return firstOf(book);
                case 1:
                    return sizeOf(book);
                case 6:
                    return amountsOf(book, WRITTEN);
                case 7:
                    return amountsOf(book, CASHED);
                case 8:
                    return firstBlankOf(book);
                default:
                    return chequesOf(book, what - 2);
            }
        }

        /** The sum of a number of the books; from 1 to 7 these mean the same for all cheques. */
        int numberOfAll(int what) {
            int sum = 0;
            for (int book = 0; book < held; book++) {
                sum += numberOf(book, what);
            }
            return sum;
        }

        private int chequesOf(int book, int kind) {
            int cheques = 0;
            int size = sizeOf(book);
            for (int place = 0; place < size; place++) {
                if (kindAt(book * BOOK_SIZE + place) == kind) {
                    cheques++;
                }
            }
            return cheques;
        }

        private int amountsOf(int book, int kind) {
            int sum = 0;
            int size = sizeOf(book);
            for (int place = 0; place < size; place++) {
                int cell = book * BOOK_SIZE + place;
                if (kindAt(cell) == kind) {
                    sum += amountAt(cell);
                }
            }
            return sum;
        }

        private int firstBlankOf(int book) {
            int size = sizeOf(book);
            for (int place = 0; place < size; place++) {
                if (kindAt(book * BOOK_SIZE + place) == BLANK) {
                    return firstOf(book) + place;
                }
            }
            return NONE;
        }

        /** The book with a rank among the books by their first serials. */
        int bookOfRank(int rank) {
            for (int book = 0; book < held; book++) {
                if (booksBefore(firstOf(book)) == rank) {
                    return book;
                }
            }
            return NONE;
        }

        private int booksBefore(int serial) {
            int before = 0;
            for (int book = 0; book < held; book++) {
                if (firstOf(book) < serial) {
                    before++;
                }
            }
            return before;
        }

        int serialOfRank(int rank) {
            int left = rank;
            for (int order = 0; order < held; order++) {
                int book = bookOfRank(order);
                int size = sizeOf(book);
                if (left < size) {
                    return firstOf(book) + left;
                }
                left -= size;
            }
            return NONE;
        }
    }

    /** The saved states, the oldest one first, and the snapshots; their rows are made once. */
    private static final class History {
        private final State[] saved = new State[SAVED_STATES];
        private final State[] slots = new State[SLOTS];
        private final boolean[] filled = new boolean[SLOTS];
        int depth;

        History() {
            for (int i = 0; i < saved.length; i++) {
                saved[i] = new State();
            }
            for (int slot = 0; slot < slots.length; slot++) {
                slots[slot] = new State();
            }
        }

        void save(State now) {
            if (depth >= saved.length) {
                dropOldest();
            }
            if (depth >= 0 && depth < saved.length) {
                copyState(now, saved[depth]);
                depth++;
            }
        }

        private void dropOldest() {
            if (saved.length < 1) {
                return;
            }
            State oldest = saved[0];
            for (int i = 1; i < saved.length; i++) {
                saved[i - 1] = saved[i];
            }
            saved[saved.length - 1] = oldest;
            depth = saved.length - 1;
        }

        void restoreLast(State now) {
            int last = depth - 1;
            if (last >= 0 && last < saved.length) {
                copyState(saved[last], now);
                depth = last;
            }
        }

        boolean isSlotFilled(int slot) {
            return slot >= 0 && slot < filled.length && filled[slot];
        }

        void putIntoSlot(int slot, State now) {
            if (slot >= 0 && slot < slots.length && slot < filled.length) {
                copyState(now, slots[slot]);
                filled[slot] = true;
            }
        }

        void restoreSlot(int slot, State now) {
            if (slot >= 0 && slot < slots.length) {
                copyState(slots[slot], now);
            }
        }

        private static void copyState(State from, State to) {
            if (from != null && to != null) {
                to.copyFrom(from);
            }
        }
    }

    /** The buffer, and what an order text is. */
    private static final class OrderText {
        /** The length of an order's letter, six digits, and the sign behind them. */
        static final int HEAD = 2 + DIGITS;

        private final int[] signs = new int[BUFFER_SIZE];
        int length;

        boolean isFull() {
            return length >= signs.length;
        }

        int add(int sign) {
            if (length >= 0 && length < signs.length) {
                signs[length] = sign;
                length++;
            }
            return length;
        }

        int clear() {
            int previous = length;
            length = 0;
            return previous;
        }

        int signAt(int index) {
            return index >= 0 && index < length && index < signs.length ? signs[index] : 0;
        }

        /** The number that the digits from one index up to another one tell. */
        int numberIn(int from, int end) {
            int number = 0;
            for (int at = from; at < end; at++) {
                number = number * 10 + signAt(at) - '0';
            }
            return number;
        }

        int errorIndex() {
            int start = 0;
            for (int at = 0; at < length; at++) {
                if (!fits(start, at)) {
                    return at;
                }
                if (signAt(at) == ';') {
                    start = at + 1;
                }
            }
            return length;
        }

        boolean isComplete() {
            if (errorIndex() < length) {
                return false;
            }
            int start = 0;
            for (int at = 0; at < length; at++) {
                if (signAt(at) == ';') {
                    start = at + 1;
                }
            }
            return isWhole(start, length);
        }

        /** Whether a sign can stand behind the fitting signs of an order from its start on. */
        private boolean fits(int start, int at) {
            int sign = signAt(at);
            int place = at - start;
            if (sign == ';') {
                return isWhole(start, at);
            }
            if (place == 0) {
                return sign == 'b' || sign == 'w' || sign == 'c' || sign == 'v';
            }
            if (place <= DIGITS) {
                return isDigit(sign);
            }
            if (place < HEAD) {
                return endsHead(signAt(start), sign);
            }
            return isDigit(sign) && fitsBehindHead(start, at);
        }

        /** Whether the fitting signs from a start up to an end are an order without a lack. */
        private boolean isWhole(int start, int end) {
            int signsHeld = end - start;
            switch (signAt(start)) {
                case 'b':
                case 'w':
                    return signsHeld > HEAD;
                case 'c':
                    return signsHeld == HEAD;
                case 'v':
                    return signsHeld == HEAD + DIGITS;
                default:
                    return false;
            }
        }

        private static boolean isDigit(int sign) {
            return sign >= '0' && sign <= '9';
        }

        private static boolean endsHead(int order, int sign) {
            switch (order) {
                case 'b':
                    return sign == '+';
                case 'w':
                    return sign == '=';
                case 'c':
                    return sign >= 'A' && sign <= 'Z';
                case 'v':
                    return sign == '-';
                default:
                    return false;
            }
        }

        /** Whether a digit can stand behind an order's head; no number begins with a zero. */
        private boolean fitsBehindHead(int start, int at) {
            int number = numberIn(start + HEAD, at + 1);
            switch (signAt(start)) {
                case 'b':
                    return number >= 1 && number <= BOOK_SIZE;
                case 'w':
                    return number >= 1 && number <= HIGHEST_AMOUNT;
                case 'v':
                    return at - start < HEAD + DIGITS;
                default:
                    return false;
            }
        }
    }
}
