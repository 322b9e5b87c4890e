import java.util.Random;

/** All promises at once: long runs of calls, the same ones every time, against the model. */
public final class ModelTest {
    private static final int RUNS = 400;
    private static final int CALLS = 512;

    private final Random dice;
    private final ChequeSerials x = new ChequeSerials();
    private final Model model = new Model();
    private final StringBuilder calls = new StringBuilder();
    private String typing = "";

    private ModelTest(int run) {
        dice = new Random(run);
    }

    public static void main(String[] args) {
        for (int run = 0; run < RUNS; run++) {
            if (!new ModelTest(run).goesWell(run)) {
                break;
            }
        }
        Checks.end();
    }

    private boolean goesWell(int run) {
        for (int call = 0; call < CALLS; call++) {
            int[] a = {pickCall(), 0, 0, 0};
            arguments(a);
            String told = a[0] + "(" + a[1] + ", " + a[2] + ", " + a[3] + ")";
            calls.append(told).append(' ');
            String got = answer(true, a);
            String want = answer(false, a);
            if (!got.equals(want)) {
                Checks.wrong("run " + run + ", call " + call + ": " + told + " answered " + got
                        + ", the model says " + want + ", after " + calls);
                return false;
            }
        }
        return true;
    }

    /** Typing goes on until an order text is typed, most often a good one. */
    private int pickCall() {
        if (!typing.isEmpty()) {
            return 6;
        }
        int call = dice.nextInt(27);
        if (call == 6) {
            typing = orders();
        }
        return call == 7 && dice.nextInt(3) > 0 ? 9 : call;
    }

    private String orders() {
        StringBuilder text = new StringBuilder();
        int many = 1 + dice.nextInt(3);
        for (int i = 0; i < many; i++) {
            int serial = serial() & 0xfffff;
            int other = dice.nextInt(4) == 0 ? serial() & 0xfffff : serial + dice.nextInt(9);
            String digits = String.format("%06d", Math.min(999999, serial));
            switch (dice.nextInt(4)) {
                case 0:
                    text.append('b').append(digits).append('+').append(1 + dice.nextInt(41));
                    break;
                case 1:
                    text.append('w').append(digits).append('=').append(dice.nextInt(1001));
                    break;
                case 2:
                    int letter = model.letter(Math.min(999999, serial));
                    letter = dice.nextInt(4) == 0 ? dice.nextInt(26) : letter;
                    text.append('c').append(digits).append((char) ('A' + letter));
                    break;
                default:
                    String last = String.format("%06d", Math.min(999999, other));
                    text.append('v').append(digits).append('-').append(last);
                    break;
            }
            text.append(i + 1 < many ? ";" : "");
        }
        if (dice.nextInt(6) == 0) {
            text.setCharAt(dice.nextInt(text.length()), "bwcv+=-;0149AZ".charAt(dice.nextInt(14)));
        }
        return text.toString();
    }

    private int serial() {
        int way = dice.nextInt(20);
        int held = model.count(1);
        if (way < 12 && held > 0) {
            return model.ranked(dice.nextInt(held)) + (way == 0 ? dice.nextInt(3) - 1 : 0);
        }
        return way < 18 ? 1234 * dice.nextInt(3) + dice.nextInt(130) : way == 18
                ? 999999 - dice.nextInt(45) : odd(dice.nextInt(1000000), 999999);
    }

    /** Now and then a number that is out of range or at its edge. */
    private int odd(int number, int last) {
        int[] numbers = {-1, -2, last, last + 1, Integer.MAX_VALUE, Integer.MIN_VALUE, 0};
        return dice.nextInt(12) == 0 ? numbers[dice.nextInt(numbers.length)] : number;
    }

    private void arguments(int[] a) {
        switch (a[0]) {
            case 0: set(a, odd(dice.nextInt(6), 5), odd(1 + dice.nextInt(9), 9), 0); break;
            case 1: set(a, odd(7 + dice.nextInt(20), 26), 0, 0); break;
            case 2: set(a, serial(), odd(1 + dice.nextInt(40), 40), 0); break;
            case 3: set(a, serial(), odd(1 + dice.nextInt(999), 999), 0); break;
            case 4: reading(a); break;
            case 5: run(a); break;
            case 6: type(a); break;
            case 11: case 12: set(a, odd(dice.nextInt(2), 1), 0, 0); break;
            case 13: set(a, serial(), 0, 0); break;
            case 14: set(a, serial(), odd(dice.nextInt(5), 4), 0); break;
            case 15: set(a, odd(dice.nextInt(6), 5), odd(dice.nextInt(9), 8), 0); break;
            case 16: set(a, odd(dice.nextInt(18), 17), 0, 0); break;
            case 17: set(a, odd(dice.nextInt(260), 239), 0, 0); break;
            case 18: set(a, serial(), odd(dice.nextInt(3), 2), 0); break;
            case 19:
                set(a, odd(dice.nextInt(6), 5), odd(dice.nextInt(2), 1), odd(dice.nextInt(2), 1));
                break;
            case 20: set(a, odd(dice.nextInt(3), 2), 0, 0); break;
            case 21: set(a, odd(dice.nextInt(6), 5), 0, 0); break;
            case 22: case 23: reading(a); a[3] = odd(dice.nextInt(5) - 1, 9); break;
            case 24: slip(a); break;
            default: break;
        }
    }

    private static void set(int[] a, int one, int two, int three) {
        a[1] = one;
        a[2] = two;
        a[3] = three;
    }

    private void reading(int[] a) {
        int serial = serial();
        int letter = odd(dice.nextInt(26), 25);
        if (serial >= 0 && serial <= 999999 && dice.nextInt(3) > 0) {
            letter = model.letter(serial);
        }
        set(a, serial, letter, 0);
    }

    private void run(int[] a) {
        int from = serial();
        set(a, from, dice.nextInt(3) == 0 ? serial() : from + dice.nextInt(6), 0);
    }

    private void type(int[] a) {
        if (typing.isEmpty()) {
            set(a, odd(33 + dice.nextInt(94), 126), 0, 0);
        } else {
            set(a, typing.charAt(0), 0, 0);
            typing = typing.substring(1);
        }
    }

    private void slip(int[] a) {
        int serial = serial();
        int read = serial;
        int letter = odd(dice.nextInt(26), 25);
        if (serial >= 0 && serial <= 999999) {
            char[] digits = String.format("%06d", serial).toCharArray();
            int at = dice.nextInt(6);
            int other = dice.nextBoolean() ? Math.max(0, at - 1) : dice.nextInt(6);
            char digit = digits[at];
            digits[at] = dice.nextBoolean() ? digits[other] : (char) ('0' + dice.nextInt(10));
            digits[other] = dice.nextInt(3) == 0 ? digits[other] : digit;
            read = Integer.parseInt(new String(digits));
            letter = dice.nextInt(4) > 0 ? model.letter(serial) : letter;
        }
        set(a, serial, dice.nextInt(9) == 0 ? serial() : read, letter);
    }

    private String answer(boolean real, int[] a) {
        try {
            return real ? ofClass(a) : ofModel(a);
        } catch (RuntimeException e) {
            return e.getClass().getName();
        }
    }

    private String ofClass(int[] a) {
        switch (a[0]) {
            case 0: return "" + x.weight(a[1], a[2]);
            case 1: return "" + x.modulus(a[1]);
            case 2: return "" + x.book(a[1], a[2]);
            case 3: return "" + x.write(a[1], a[2]);
            case 4: return "" + x.cash(a[1], a[2]);
            case 5: return "" + x.voidRun(a[1], a[2]);
            case 6: return "" + x.append(a[1]);
            case 7: return "" + x.clearBuffer();
            case 8: return "" + x.firstError();
            case 9: return "" + x.execute();
            case 10: return "" + x.undo();
            case 11: return "" + x.keep(a[1]);
            case 12: return "" + x.goBack(a[1]);
            case 13: return "" + x.letter(a[1]);
            case 14: return "" + x.cheque(a[1], a[2]);
            case 15: return "" + x.bookOf(a[1], a[2]);
            case 16: return "" + x.count(a[1]);
            case 17: return "" + x.ranked(a[1]);
            case 18: return "" + x.missed(a[1], a[2]);
            case 19: return "" + x.weak(a[1], a[2], a[3]);
            case 20: return "" + x.finds(a[1]);
            case 21: return "" + x.bestWeight(a[1]);
            case 22: case 23: return "" + x.meant(a[1], a[2], a[3]);
            case 24: return "" + x.slip(a[1], a[2], a[3]);
            case 25: return "" + x.cashed();
            default: return "" + x.count(8);
        }
    }

    private String ofModel(int[] a) {
        switch (a[0]) {
            case 0: return "" + model.weight(a[1], a[2]);
            case 1: return "" + model.modulus(a[1]);
            case 2: return "" + model.book(a[1], a[2]);
            case 3: return "" + model.write(a[1], a[2]);
            case 4: return "" + model.cash(a[1], a[2]);
            case 5: return "" + model.voidRun(a[1], a[2]);
            case 6: return "" + model.append(a[1]);
            case 7: return "" + model.clearBuffer();
            case 8: return "" + model.firstError();
            case 9: return "" + model.execute();
            case 10: return "" + model.undo();
            case 11: return "" + model.keep(a[1]);
            case 12: return "" + model.goBack(a[1]);
            case 13: return "" + model.letter(a[1]);
            case 14: return "" + model.cheque(a[1], a[2]);
            case 15: return "" + model.bookOf(a[1], a[2]);
            case 16: return "" + model.count(a[1]);
            case 17: return "" + model.ranked(a[1]);
            case 18: return "" + model.missed(a[1], a[2]);
            case 19: return "" + model.weak(a[1], a[2], a[3]);
            case 20: return "" + model.finds(a[1]);
            case 21: return "" + model.bestWeight(a[1]);
            case 22: case 23: return "" + model.meant(a[1], a[2], a[3]);
            case 24: return "" + model.slip(a[1], a[2], a[3]);
            case 25: return "" + model.cashed();
            default: return "" + model.count(8);
        }
    }
}
