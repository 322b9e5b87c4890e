import java.util.ArrayList;
import java.util.List;
import java.util.TreeMap;
import java.util.regex.Matcher;
import java.util.regex.Pattern;

/**
 * The document told a second time, by other means: serials are texts, slips are tried out one by
 * one, the order text is a regular expression, and a state is copied whole.
 */
final class Model {
    private static final String ORDER = "(b[0-9]{6}\\+([1-9]|[123][0-9]|40)"
            + "|w[0-9]{6}=[1-9][0-9]?[0-9]?|c[0-9]{6}[A-Z]|v[0-9]{6}-[0-9]{6})";
    private static final Pattern TEXT = Pattern.compile(ORDER + "(;" + ORDER + ")*");

    /** A cheque: its book, place, kind and amount. */
    private record Cheque(int book, int place, int kind, int amount) {
        Cheque as(int newKind, int newAmount) {
            return new Cheque(book, place, newKind, newAmount);
        }
    }

    private static final class Bank {
        int[] weights = {1, 2, 3, 4, 5, 6};
        int modulus = 11;
        int refusals = 0;
        List<int[]> books = new ArrayList<>();
        TreeMap<Integer, Cheque> cheques = new TreeMap<>();

        Bank copy() {
            Bank other = new Bank();
            other.weights = weights.clone();
            other.modulus = modulus;
            other.refusals = refusals;
            other.books = new ArrayList<>(books);
            other.cheques = new TreeMap<>(cheques);
            return other;
        }
    }

    private Bank now = new Bank();
    private final List<Bank> saved = new ArrayList<>();
    private final Bank[] slots = new Bank[2];
    private String buffer = "";

    private static IndexOutOfBoundsException index() {
        return new IndexOutOfBoundsException();
    }

    private static IllegalArgumentException argument() {
        return new IllegalArgumentException();
    }

    private static IllegalStateException state() {
        return new IllegalStateException();
    }

    private static boolean within(int number, int low, int high) {
        return number >= low && number <= high;
    }

    private static void serial(int number) {
        if (!within(number, 0, 999999)) {
            throw index();
        }
    }

    private static void range(int number, int low, int high) {
        if (!within(number, low, high)) {
            throw argument();
        }
    }

    private void save() {
        saved.add(now.copy());
        if (saved.size() > 6) {
            saved.remove(0);
        }
    }

    int weight(int position, int weight) {
        if (!within(position, 0, 5)) {
            throw index();
        }
        range(weight, 1, 9);
        save();
        int old = now.weights[position];
        now.weights[position] = weight;
        return old;
    }

    int modulus(int modulus) {
        range(modulus, 7, 26);
        save();
        int old = now.modulus;
        now.modulus = modulus;
        return old;
    }

    int book(int first, int count) {
        Bank before = now.copy();
        int number = doBook(first, count);
        keepSaved(before);
        return number;
    }

    int write(int serial, int amount) {
        Bank before = now.copy();
        int letter = doWrite(serial, amount);
        keepSaved(before);
        return letter;
    }

    int cash(int serial, int letter) {
        Bank before = now.copy();
        int amount = doCash(serial, letter);
        keepSaved(before);
        return amount;
    }

    int voidRun(int from, int to) {
        Bank before = now.copy();
        int made = doVoidRun(from, to);
        keepSaved(before);
        return made;
    }

    private void keepSaved(Bank before) {
        Bank after = now;
        now = before;
        save();
        now = after;
    }

    private int doBook(int first, int count) {
        serial(first);
        range(count, 1, 40);
        serial(first + count - 1);
        if (now.books.size() == 6) {
            throw state();
        }
        for (int place = 0; place < count; place++) {
            if (now.cheques.containsKey(first + place)) {
                throw state();
            }
        }
        for (int place = 0; place < count; place++) {
            now.cheques.put(first + place, new Cheque(now.books.size(), place, 0, 0));
        }
        now.books.add(new int[] {first, count});
        return now.books.size() - 1;
    }

    private Cheque chequeOf(int serial) {
        Cheque cheque = now.cheques.get(serial);
        if (cheque == null) {
            throw index();
        }
        return cheque;
    }

    private int doWrite(int serial, int amount) {
        Cheque cheque = chequeOf(serial);
        range(amount, 1, 999);
        if (cheque.kind() != 0) {
            throw state();
        }
        now.cheques.put(serial, cheque.as(1, amount));
        return letter(serial);
    }

    private int doCash(int serial, int letter) {
        serial(serial);
        range(letter, 0, 25);
        Cheque cheque = now.cheques.get(serial);
        int reason = letter(serial) != letter ? 1 : cheque == null ? 2
                : cheque.kind() != 1 ? 3 : 0;
        if (reason > 0) {
            now.refusals++;
            return -reason;
        }
        now.cheques.put(serial, cheque.as(2, cheque.amount()));
        return cheque.amount();
    }

    private int doVoidRun(int from, int to) {
        serial(from);
        serial(to);
        if (to < from) {
            throw argument();
        }
        int made = 0;
        for (int serial : new ArrayList<>(now.cheques.keySet())) {
            Cheque cheque = now.cheques.get(serial);
            if (within(serial, from, to) && cheque.kind() <= 1) {
                now.cheques.put(serial, cheque.as(3, 0));
                made++;
            }
        }
        return made;
    }

    int append(int code) {
        range(code, 33, 126);
        if (buffer.length() == 60) {
            throw state();
        }
        buffer += (char) code;
        return buffer.length();
    }

    int clearBuffer() {
        int length = buffer.length();
        buffer = "";
        return length;
    }

    int firstError() {
        for (int length = 1; length <= buffer.length(); length++) {
            Matcher matcher = TEXT.matcher(buffer.substring(0, length));
            if (!matcher.matches() && !matcher.hitEnd()) {
                return length - 1;
            }
        }
        return buffer.length();
    }

    int execute() {
        if (!TEXT.matcher(buffer).matches()) {
            throw argument();
        }
        save();
        int done = 0;
        for (String order : buffer.split(";")) {
            try {
                int serial = Integer.parseInt(order.substring(1, 7));
                String rest = order.substring(8);
                if (order.charAt(0) == 'b') {
                    doBook(serial, Integer.parseInt(rest));
                } else if (order.charAt(0) == 'w') {
                    doWrite(serial, Integer.parseInt(rest));
                } else if (order.charAt(0) == 'v') {
                    doVoidRun(serial, Integer.parseInt(rest));
                } else if (doCash(serial, order.charAt(7) - 'A') < 0) {
                    break;
                }
            } catch (RuntimeException e) {
                break;
            }
            done++;
        }
        buffer = "";
        return done;
    }

    int undo() {
        if (saved.isEmpty()) {
            throw state();
        }
        now = saved.remove(saved.size() - 1);
        return saved.size();
    }

    int keep(int slot) {
        range(slot, 0, 1);
        slots[slot] = now.copy();
        return now.books.size();
    }

    int goBack(int slot) {
        range(slot, 0, 1);
        if (slots[slot] == null) {
            throw state();
        }
        save();
        now = slots[slot].copy();
        return now.books.size();
    }

    int letter(int serial) {
        serial(serial);
        return letterOf(String.format("%06d", serial));
    }

    private int letterOf(String digits) {
        int sum = 0;
        for (int i = 0; i < 6; i++) {
            sum += now.weights[i] * Character.digit(digits.charAt(i), 10);
        }
        return sum % now.modulus;
    }

    int cheque(int serial, int what) {
        Cheque cheque = chequeOf(serial);
        range(what, 0, 4);
        int same = 0;
        for (int next = serial; now.cheques.containsKey(next); next++) {
            Cheque other = now.cheques.get(next);
            if (other.book() != cheque.book() || other.kind() != cheque.kind()) {
                break;
            }
            same++;
        }
        return new int[] {cheque.kind(), cheque.amount(), cheque.book(), cheque.place(), same}[what];
    }

    /** The numbers 1 to 8 of a book, or of all books for -1. */
    private int[] tally(int book) {
        int[] tally = new int[9];
        tally[8] = -1;
        for (int serial : now.cheques.descendingKeySet()) {
            Cheque cheque = now.cheques.get(serial);
            if (book == -1 || cheque.book() == book) {
                tally[1]++;
                tally[2 + cheque.kind()]++;
                if (within(cheque.kind(), 1, 2)) {
                    tally[5 + cheque.kind()] += cheque.amount();
                }
                if (cheque.kind() == 0) {
                    tally[8] = serial;
                }
            }
        }
        return tally;
    }

    int bookOf(int book, int what) {
        if (!within(book, 0, now.books.size() - 1)) {
            throw index();
        }
        range(what, 0, 8);
        return what == 0 ? now.books.get(book)[0] : tally(book)[what];
    }

    int count(int what) {
        range(what, 0, 17);
        if (what >= 12) {
            return now.weights[what - 12];
        }
        int[] others = {now.refusals, now.modulus, saved.size(), buffer.length()};
        return what == 0 ? now.books.size() : what >= 8 ? others[what - 8] : tally(-1)[what];
    }

    int ranked(int rank) {
        range(rank, 0, Integer.MAX_VALUE);
        List<Integer> serials = new ArrayList<>(now.cheques.keySet());
        return rank < serials.size() ? serials.get(rank) : -1;
    }

    /** The readings "digits letter" that the right reading of a serial becomes by slips of a kind. */
    private List<String> slips(int serial, int kind) {
        String digits = String.format("%06d", serial);
        int letter = letterOf(digits);
        List<String> readings = new ArrayList<>();
        for (int i = 0; i < 6 && kind == 0; i++) {
            for (char digit = '0'; digit <= '9'; digit++) {
                if (digit != digits.charAt(i)) {
                    String front = digits.substring(0, i);
                    readings.add(front + digit + digits.substring(i + 1) + " " + letter);
                }
            }
        }
        for (int i = 0; i < 5 && kind == 1; i++) {
            char one = digits.charAt(i);
            char two = digits.charAt(i + 1);
            if (one != two) {
                String front = digits.substring(0, i);
                readings.add(front + two + one + digits.substring(i + 2) + " " + letter);
            }
        }
        for (int other = 0; other < now.modulus && kind == 2; other++) {
            if (other != letter) {
                readings.add(digits + " " + other);
            }
        }
        return readings;
    }

    int missed(int serial, int kind) {
        serial(serial);
        range(kind, 0, 2);
        int missed = 0;
        for (String reading : slips(serial, kind)) {
            if (letterOf(reading) == Integer.parseInt(reading.substring(7))) {
                missed++;
            }
        }
        return missed;
    }

    int weak(int position, int kind, int way) {
        if (!within(position, 0, kind == 1 ? 4 : 5)) {
            throw index();
        }
        range(kind, 0, 1);
        range(way, 0, 1);
        int pairs = 0;
        for (int a = 0; a <= 9; a++) {
            for (int b = a + 1; b <= 9; b++) {
                char[] one = "000000".toCharArray();
                char[] two = "000000".toCharArray();
                one[position] = Character.forDigit(a, 10);
                two[position] = Character.forDigit(b, 10);
                if (kind == 1) {
                    one[position + 1] = two[position];
                    two[position + 1] = one[position];
                }
                if (letterOf(new String(one)) == letterOf(new String(two))) {
                    pairs++;
                }
            }
        }
        return pairs;
    }

    boolean finds(int kind) {
        range(kind, 0, 2);
        for (int position = 0; position < 6; position++) {
            if (kind < 2 && position + kind < 6 && weak(position, kind, 0) > 0) {
                return false;
            }
        }
        return true;
    }

    int bestWeight(int position) {
        if (!within(position, 0, 5)) {
            throw index();
        }
        int own = now.weights[position];
        int best = 0;
        int fewest = Integer.MAX_VALUE;
        for (int weight = 9; weight >= 1; weight--) {
            now.weights[position] = weight;
            int sum = weak(5, 0, 0);
            for (int at = 0; at < 5; at++) {
                sum += weak(at, 0, 0) + weak(at, 1, 0);
            }
            if (sum <= fewest) {
                fewest = sum;
                best = weight;
            }
        }
        now.weights[position] = own;
        return best;
    }

    int slip(int serial, int read, int letter) {
        serial(serial);
        serial(read);
        range(letter, 0, 25);
        String reading = String.format("%06d %d", read, letter);
        for (int kind = 0; kind <= 2; kind++) {
            if (slips(serial, kind).contains(reading)) {
                return kind;
            }
        }
        return serial == read && letter == letter(serial) ? 3 : -1;
    }

    int meant(int serial, int letter, int rank) {
        serial(serial);
        range(letter, 0, 25);
        range(rank, -1, Integer.MAX_VALUE);
        List<Integer> serials = new ArrayList<>();
        for (int other : now.cheques.keySet()) {
            // A slip changes two neighbouring digits at most, or it is too slow to try them all.
            if (near(other, serial) && slip(other, serial, letter) != -1) {
                serials.add(other);
            }
        }
        return rank == -1 ? serials.size() : rank < serials.size() ? serials.get(rank) : -1;
    }

    private static boolean near(int serial, int read) {
        int different = 0;
        for (int ten = 1; ten <= 100000; ten *= 10) {
            different += serial / ten % 10 == read / ten % 10 ? 0 : 1;
        }
        return different <= 2;
    }

    double cashed() {
        int[] tally = tally(-1);
        return tally[1] == 0 ? 0.0 : (double) tally[4] / (double) tally[1];
    }
}
