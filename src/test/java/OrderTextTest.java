/** Promises 8 to 11: the buffer, its first error, and the orders in it. */
public final class OrderTextTest {
    public static void main(String[] args) {
        promise8Append();
        promise8AppendThrows();
        promise9ClearBuffer();
        promise10FirstError();
        promise10EverySign();
        promise10Full();
        promise11Execute();
        promise11StopsAtRefusal();
        promise11StopsAtException();
        promise11UndoneAsOne();
        promise11Throws();
        Checks.end();
    }

    private static ChequeSerials typed(String text) {
        ChequeSerials x = Checks.example();
        Checks.type(x, text);
        return x;
    }

    private static ChequeSerials full() {
        return typed("b000000+1;".repeat(6));
    }

    private static void promise8Append() {
        ChequeSerials x = new ChequeSerials();
        for (int length = 1; length <= 60; length++) {
            int code = length == 1 ? 33 : length == 2 ? 126 : 'b';
            Checks.due("append(" + code + ")", x.append(code), length);
        }
        Checks.due("count(11)", x.count(11), 60);
        Checks.due("append saves nothing", x.count(10), 0);
        x.weight(0, 2);
        x.clearBuffer();
        x.append('b');
        x.undo();
        Checks.due("undo leaves the buffer", x.count(11), 1);
    }

    private static void promise8AppendThrows() {
        int[] codes = {32, 127, 0, -1, 65634, Integer.MIN_VALUE, Integer.MAX_VALUE};
        for (int code : codes) {
            Checks.noArgument("append(no code)", Checks::example, x -> x.append(code));
            Checks.noArgument("append(no code), full", OrderTextTest::full, x -> x.append(code));
        }
        Checks.noState("append(98), full", OrderTextTest::full, x -> x.append(98));
    }

    private static void promise9ClearBuffer() {
        ChequeSerials x = full();
        Checks.due("clearBuffer(), full", x.clearBuffer(), 60);
        Checks.due("clearBuffer(), empty", x.clearBuffer(), 0);
        Checks.due("count(11)", x.count(11), 0);
        Checks.due("append after it", x.append('q'), 1);
        Checks.due("clearBuffer(), of errors", x.clearBuffer(), 1);
        Checks.due("clearBuffer saves nothing", x.count(10), 6);
    }

    private static void promise10FirstError() {
        String[] right = {"", "b", "b123456", "b123456+", "b123456+1", "b123456+9", "b123456+10",
            "b123456+39", "b123456+40", "b999999+40;", "w", "w000000=", "w000000=1", "w000000=10",
            "w000000=999", "c000000", "c000000A", "c000000Z", "c000000M;", "v", "v999999-",
            "v999999-00000", "v999999-000000", "v999999-000000;", "b123456+1;w123456=1;c123456A;v",
            "v000000-000000;v000000-000000;c000000Z;b0"};
        for (String text : right) {
            Checks.due("firstError() of " + text, typed(text).firstError(), text.length());
        }
        // Each with its error at the last sign, and again with more behind that.
        String[] wrong = {"B", ";", "1", "b+", "b12345+", "b1234567", "b123456=", "b123456-",
            "b123456A", "b123456;", "b123456+0", "b123456+;", "b123456+41", "b123456+49",
            "b123456+50", "b123456+99", "b123456+100", "b123456+401", "b123456+1w", "w123456+",
            "w123456=0", "w123456=;", "w123456=1000", "w123456=9990", "w123456=1-", "c123456a",
            "c123456[", "c123456@", "c1234560", "c123456;", "c123456AA", "c123456A0", "c123456A+",
            "v123456+", "v123456-;", "v123456-12345;", "v123456-1234567", "v123456-12345A",
            "v123456;", "b123456+1;;", "b123456+1;b;", "x", "b123456+1;B", "c000000A;w00000A"};
        for (String text : wrong) {
            Checks.due("firstError() of " + text, typed(text).firstError(), text.length() - 1);
            Checks.due("firstError() of " + text + "w1!", typed(text + "w1!").firstError(),
                    text.length() - 1);
        }
    }

    /** For each beginning of an order, just the signs that can follow do. */
    private static void promise10EverySign() {
        String digits = "0123456789";
        String letters = "ABCDEFGHIJKLMNOPQRSTUVWXYZ";
        String[][] rows = {{"", "bwcv"}, {"b", digits}, {"w00000", digits}, {"c12345", digits},
            {"v9", digits}, {"b123456", "+"}, {"w123456", "="}, {"c123456", letters},
            {"v123456", "-"}, {"b123456+", "123456789"}, {"b123456+1", digits + ";"},
            {"b123456+3", digits + ";"}, {"b123456+4", "0;"}, {"b123456+5", ";"},
            {"b123456+40", ";"}, {"b123456+10", ";"}, {"w123456=", "123456789"},
            {"w123456=9", digits + ";"}, {"w123456=99", digits + ";"}, {"w123456=100", ";"},
            {"c123456Q", ";"}, {"v123456-", digits}, {"v123456-12345", digits},
            {"v123456-123456", ";"}, {"c123456Q;", "bwcv"}, {"w123456=1;", "bwcv"}};
        for (String[] row : rows) {
            for (int code = 33; code <= 126; code++) {
                int due = row[0].length() + (row[1].indexOf(code) >= 0 ? 1 : 0);
                Checks.due("firstError() of " + row[0] + (char) code,
                        Checks.typed(row[0] + (char) code).firstError(), due);
            }
        }
    }

    private static void promise10Full() {
        Checks.due("firstError(), full", full().firstError(), 60);
        ChequeSerials x = new ChequeSerials();
        Checks.type(x, "b000000+40;".repeat(5) + "w0000");
        Checks.due("firstError(), full and not complete", x.firstError(), 60);
        x.clearBuffer();
        Checks.type(x, "b000000+40;".repeat(5) + "w000=");
        Checks.due("firstError(), at the last sign", x.firstError(), 59);
    }

    private static void promise11Execute() {
        ChequeSerials x = new ChequeSerials();
        Checks.type(x, "b000010+40;w000011=999;c000011A;v000010-000012");
        Checks.due("execute()", x.execute(), 4);
        Checks.due("the buffer is cleared", x.count(11), 0);
        Checks.due("books", x.count(0), 1);
        Checks.due("cheques", x.count(1), 40);
        Checks.due("cashed amounts", x.count(7), 999);
        Checks.due("void cheques", x.count(5), 2);
        Checks.due("refusals", x.count(8), 0);
        Checks.due("saved states", x.count(10), 1);
        Checks.type(x, "v000020-000020");
        Checks.due("execute() of one order", x.execute(), 1);
        Checks.due("the order of serials", x.cheque(20, 0), 3);
        Checks.type(x, "v500000-600000");
        Checks.due("execute() of an empty run", x.execute(), 1);
        Checks.type(x, "w000030=1;w000031=12;b900000+1;b900001+9;w900009=7");
        Checks.due("execute() of five orders", x.execute(), 5);
        Checks.due("amounts", x.count(6), 20);
        x.weight(5, 1);
        x.modulus(26);
        x.write(13, 5);
        x.write(32, 6);
        x.write(34, 8);
        Checks.type(x, "c000032R;c000034T");
        Checks.due("execute() of cashing by letters", x.execute(), 2);
        Checks.due("amounts cashed", x.count(7), 999 + 6 + 8);
        ChequeSerials y = new ChequeSerials();
        Checks.type(y, "b000000+2;w000000=1;c000000A;w000001=2");
        Checks.due("execute() of cashing the least amount", y.execute(), 4);
    }

    private static void promise11StopsAtRefusal() {
        ChequeSerials x = new ChequeSerials();
        Checks.type(x, "b000010+5;w000011=42;c000011L;w000012=1");
        Checks.due("execute() up to a wrong letter", x.execute(), 2);
        Checks.due("a refusal", x.count(8), 1);
        Checks.due("nothing behind it", x.cheque(12, 0), 0);
        Checks.due("the buffer is cleared", x.count(11), 0);
        Checks.type(x, "c000015C;w000012=1");
        Checks.due("execute() up to no book", x.execute(), 0);
        Checks.type(x, "c000012G;w000012=1");
        Checks.due("execute() up to a blank cheque", x.execute(), 0);
        Checks.due("refusals", x.count(8), 3);
        Checks.due("nothing is written", x.cheque(12, 0), 0);
        Checks.due("saved states", x.count(10), 3);
        Checks.type(x, "c000011Z;w000012=1");
        Checks.due("execute() up to a letter beyond the modulus", x.execute(), 0);
        Checks.due("refusals", x.count(8), 4);
    }

    private static void promise11StopsAtException() {
        String[] stopping = {"b999999+2", "b000012+1", "b000000+11", "w000009=1", "w000015=1",
            "w000011=5", "v000011-000010", "w999999=1"};
        for (String order : stopping) {
            ChequeSerials x = new ChequeSerials();
            x.book(10, 5);
            x.write(11, 42);
            Checks.type(x, "w000013=2;" + order + ";w000014=3");
            Checks.due("execute() up to " + order, x.execute(), 1);
            Checks.due("the order before " + order, x.cheque(13, 1), 2);
            Checks.due("the order behind " + order, x.cheque(14, 1), 0);
            Checks.due("the order itself, " + order, x.count(1) * 100 + x.cheque(11, 1), 542);
            Checks.due("no refusal by " + order, x.count(8), 0);
            Checks.due("saved states after " + order, x.count(10), 3);
            Checks.due("the buffer after " + order, x.count(11), 0);
        }
        ChequeSerials x = new ChequeSerials();
        Checks.type(x, "b000000+1;b000001+1;b000002+1;b000003+1;b000004+1;b000005+1");
        Checks.due("execute() of six books", x.execute(), 6);
        Checks.type(x, "b000006+1");
        Checks.due("execute() of a 7th book", x.execute(), 0);
        Checks.due("books", x.count(0), 6);
    }

    private static void promise11UndoneAsOne() {
        ChequeSerials x = new ChequeSerials();
        Checks.type(x, "b000010+5;w000011=42;c000011A;c000011A");
        Checks.due("execute()", x.execute(), 3);
        Checks.due("refusals", x.count(8), 1);
        Checks.due("undo()", x.undo(), 0);
        Checks.due("books", x.count(0), 0);
        Checks.due("refusals undone", x.count(8), 0);
        Checks.due("the buffer stays cleared", x.count(11), 0);
        Checks.type(x, "w000001=1");
        Checks.due("execute() of nothing", x.execute(), 0);
        Checks.due("saved even so", x.count(10), 1);
    }

    private static void promise11Throws() {
        String[] texts = {"", "b", "b123456", "b123456+", "b123456+1;", "b123456+41", "w123456=",
            "w12345", "c123456", "c123456A;", "v123456-", "v123456-12345", "b123456+1;;", ";",
            "b123456+1;x", "w000502=5;w000505=", "w000502=5;w000505=0", "b200000+1;v000000-00000"};
        for (String text : texts) {
            Checks.noArgument("execute() of " + text, () -> typed(text), x -> x.execute());
        }
        Checks.noArgument("execute(), full", OrderTextTest::full, x -> x.execute());
    }
}
