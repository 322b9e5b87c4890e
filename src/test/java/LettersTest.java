/** Promises 1, 2, 3 and 15: a new object, the weights, the modulus, the letters. */
public final class LettersTest {
    public static void main(String[] args) {
        promise1NewObject();
        promise2Weight();
        promise2WeightThrows();
        promise3Modulus();
        promise3ModulusThrows();
        promise15Letter();
        promise15LetterOfEverySerial();
        Checks.end();
    }

    private static void promise1NewObject() {
        ChequeSerials x = new ChequeSerials();
        for (int what = 0; what <= 11; what++) {
            Checks.due("count(" + what + ") of a new object", x.count(what), what == 9 ? 11 : 0);
        }
        for (int position = 0; position < 6; position++) {
            Checks.due("a new object's weight", x.count(12 + position), 1 + position);
        }
        Checks.due("ranked(0) of a new object", x.ranked(0), ChequeSerials.NONE);
        Checks.due("firstError() of a new object", x.firstError(), 0);
        Checks.due("NONE", ChequeSerials.NONE, -1);
        Checks.noState("undo() of a new object", ChequeSerials::new, y -> y.undo());
        Checks.noState("goBack(0) of a new object", ChequeSerials::new, y -> y.goBack(0));
        Checks.noState("goBack(1) of a new object", ChequeSerials::new, y -> y.goBack(1));
        ChequeSerials other = new ChequeSerials();
        other.weight(0, 9);
        other.book(0, 1);
        Checks.due("a second object's weight", x.count(12), 1);
        Checks.due("a second object's books", x.count(0), 0);
    }

    private static void promise2Weight() {
        ChequeSerials x = new ChequeSerials();
        for (int position = 0; position < 6; position++) {
            Checks.due("weight(position, 9)", x.weight(position, 9), 1 + position);
            Checks.due("weight(position, 1)", x.weight(position, 1), 9);
            Checks.due("weight(position, 1) again", x.weight(position, 1), 1);
            Checks.due("count(12 + position)", x.count(12 + position), 1);
            Checks.due("weight(position, 7)", x.weight(position, 7), 1);
            Checks.due("the position before", x.count(11 + position), position == 0 ? 0 : 7);
        }
        Checks.due("letter(111111) with weights 7", x.letter(111111), 42 % 11);
        Checks.due("saved states", x.count(10), 6);
        x.undo();
        Checks.due("the last weight undone", x.count(17), 1);
        Checks.due("letter(111111) undone", x.letter(111111), 36 % 11);
    }

    private static void promise2WeightThrows() {
        int[] positions = {-1, 6, Integer.MIN_VALUE, Integer.MAX_VALUE};
        for (int position : positions) {
            Checks.noIndex("weight(no position, 5)", Checks::example, x -> x.weight(position, 5));
            Checks.noIndex("weight(no position, 0)", Checks::example, x -> x.weight(position, 0));
        }
        int[] weights = {0, 10, -1, Integer.MIN_VALUE, Integer.MAX_VALUE};
        for (int weight : weights) {
            Checks.noArgument("weight(0, no weight)", Checks::example, x -> x.weight(0, weight));
            Checks.noArgument("weight(5, no weight)", Checks::example, x -> x.weight(5, weight));
        }
    }

    private static void promise3Modulus() {
        ChequeSerials x = new ChequeSerials();
        Checks.due("modulus(7)", x.modulus(7), 11);
        Checks.due("letter(000005) modulo 7", x.letter(5), 30 % 7);
        Checks.due("modulus(26)", x.modulus(26), 7);
        Checks.due("letter(000005) modulo 26", x.letter(5), 30 % 26);
        Checks.due("modulus(26) again", x.modulus(26), 26);
        Checks.due("count(9)", x.count(9), 26);
        Checks.due("saved states", x.count(10), 3);
        x.undo();
        x.undo();
        Checks.due("count(9) undone", x.count(9), 7);
        x.undo();
        Checks.due("count(9) all undone", x.count(9), 11);
    }

    private static void promise3ModulusThrows() {
        int[] moduli = {6, 27, 0, -11, Integer.MIN_VALUE, Integer.MAX_VALUE};
        for (int modulus : moduli) {
            Checks.noArgument("modulus(out of range)", Checks::example, x -> x.modulus(modulus));
        }
    }

    private static void promise15Letter() {
        ChequeSerials x = new ChequeSerials();
        Checks.due("letter(0)", x.letter(0), 0);
        Checks.due("letter(100000)", x.letter(100000), 1);
        Checks.due("letter(010000)", x.letter(10000), 2);
        Checks.due("letter(001000)", x.letter(1000), 3);
        Checks.due("letter(000100)", x.letter(100), 4);
        Checks.due("letter(000010)", x.letter(10), 5);
        Checks.due("letter(000001)", x.letter(1), 6);
        Checks.due("letter(123456)", x.letter(123456), 91 % 11);
        Checks.due("letter(999999)", x.letter(999999), 189 % 11);
        Checks.due("letter saves nothing", x.count(10), 0);
        int[] serials = {-1, 1000000, Integer.MIN_VALUE, Integer.MAX_VALUE};
        for (int serial : serials) {
            Checks.noIndex("letter(no serial)", Checks::example, y -> y.letter(serial));
        }
    }

    private static void promise15LetterOfEverySerial() {
        int[] weights = {9, 1, 8, 2, 7, 3};
        ChequeSerials x = new ChequeSerials();
        for (int position = 0; position < 6; position++) {
            x.weight(position, weights[position]);
        }
        x.modulus(26);
        for (int serial = 0; serial < 1000000; serial += 1999) {
            String digits = String.format("%06d", serial);
            int sum = 0;
            for (int position = 0; position < 6; position++) {
                sum += weights[position] * (digits.charAt(position) - '0');
            }
            Checks.due("letter(" + digits + ")", x.letter(serial), sum % 26);
        }
    }
}
