/** Promises 12 to 14: undo, snapshots, and going back to them. */
public final class UndoTest {
    public static void main(String[] args) {
        promise12Undo();
        promise12AtMostSix();
        promise12EveryUndoableCall();
        promise12WhatIsNotUndone();
        promise12Throws();
        promise13Keep();
        promise13KeepThrows();
        promise14GoBack();
        promise14GoBackThrows();
        Checks.end();
    }

    private static void promise12Undo() {
        ChequeSerials x = new ChequeSerials();
        x.book(100, 3);
        x.write(100, 5);
        x.cash(100, 0);
        x.cash(100, 4);
        Checks.due("undo() of cashing", x.undo(), 3);
        Checks.due("the cheque is written again", x.cheque(100, 0), 1);
        Checks.due("the refusal stays", x.count(8), 1);
        Checks.due("undo() of a refusal", x.undo(), 2);
        Checks.due("no refusal", x.count(8), 0);
        Checks.due("undo() of writing", x.undo(), 1);
        Checks.due("the cheque is blank again", x.cheque(100, 0), 0);
        Checks.due("undo() of the book", x.undo(), 0);
        Checks.due("no books", x.count(0), 0);
        Checks.due("no cheques", x.count(1), 0);
        Checks.due("ranked(0)", x.ranked(0), -1);
    }

    private static void promise12AtMostSix() {
        ChequeSerials x = new ChequeSerials();
        for (int modulus = 12; modulus <= 20; modulus++) {
            x.modulus(modulus);
            Checks.due("saved states", x.count(10), Math.min(6, modulus - 11));
        }
        for (int left = 5; left >= 0; left--) {
            Checks.due("undo()", x.undo(), left);
            Checks.due("the modulus", x.count(9), 14 + left);
        }
        try {
            x.undo();
            Checks.wrong("a 7th undo() throws nothing");
        } catch (IllegalStateException e) {
            Checks.due("the modulus at the end", x.count(9), 14);
        }
        x.modulus(26);
        Checks.due("undo() after all were undone", x.undo(), 0);
        Checks.due("the modulus", x.count(9), 14);
    }

    private static void promise12EveryUndoableCall() {
        ChequeSerials x = new ChequeSerials();
        x.weight(0, 1);
        Checks.due("weight saves", x.count(10), 1);
        x.modulus(11);
        Checks.due("modulus saves", x.count(10), 2);
        x.voidRun(0, 0);
        Checks.due("voidRun saves", x.count(10), 3);
        x.cash(0, 1);
        Checks.due("cash saves", x.count(10), 4);
        Checks.type(x, "w000000=1");
        x.execute();
        Checks.due("execute saves", x.count(10), 5);
        x.keep(0);
        x.append('b');
        x.clearBuffer();
        x.firstError();
        Checks.due("keep and the buffer save nothing", x.count(10), 5);
        x.goBack(0);
        Checks.due("goBack saves", x.count(10), 6);
        Checks.undoAll(x);
        x.book(7, 1);
        x.write(7, 1);
        Checks.due("book and write save", x.count(10), 2);
        x.letter(0);
        x.cheque(7, 0);
        x.bookOf(0, 0);
        x.ranked(0);
        x.missed(0, 0);
        x.weak(0, 0, 0);
        x.finds(0);
        x.bestWeight(0);
        x.meant(7, 0, -1);
        x.slip(0, 0, 0);
        x.cashed();
        Checks.due("queries save nothing", x.count(10), 2);
    }

    private static void promise12WhatIsNotUndone() {
        ChequeSerials x = new ChequeSerials();
        x.weight(0, 2);
        x.keep(1);
        Checks.type(x, "w00");
        x.undo();
        Checks.due("the buffer stays", x.count(11), 3);
        Checks.due("the snapshot stays", x.goBack(1), 0);
        Checks.due("its weight", x.count(12), 2);
        x.undo();
        Checks.due("goBack undone", x.count(12), 1);
    }

    private static void promise12Throws() {
        Checks.noState("undo() without saved states", () -> {
            ChequeSerials x = Checks.example();
            Checks.undoAll(x);
            Checks.type(x, "b1");
            return x;
        }, x -> x.undo());
    }

    private static void promise13Keep() {
        ChequeSerials x = new ChequeSerials();
        Checks.due("keep(0) without books", x.keep(0), 0);
        x.book(5, 2);
        x.book(50, 2);
        Checks.due("keep(1)", x.keep(1), 2);
        x.book(70, 2);
        Checks.due("goBack(1)", x.goBack(1), 2);
        Checks.due("goBack(0)", x.goBack(0), 0);
        x.book(80, 1);
        Checks.due("keep(0) again", x.keep(0), 1);
        x.undo();
        Checks.due("the slot is replaced", x.goBack(0), 1);
        Checks.due("by the later book", x.bookOf(0, 0), 80);
        Checks.due("the other slot is as it was", x.goBack(1), 2);
    }

    private static void promise13KeepThrows() {
        int[] slots = {-1, 2, Integer.MIN_VALUE, Integer.MAX_VALUE};
        for (int slot : slots) {
            Checks.noArgument("keep(no slot)", Checks::example, x -> x.keep(slot));
            Checks.noArgument("goBack(no slot)", Checks::example, x -> x.goBack(slot));
        }
    }

    private static void promise14GoBack() {
        ChequeSerials x = Checks.example();
        x.cash(0, 1);
        x.weight(3, 9);
        x.modulus(19);
        x.keep(0);
        x.weight(3, 1);
        x.modulus(7);
        x.cash(0, 1);
        x.voidRun(0, 999999);
        x.book(0, 1);
        Checks.type(x, "b00");
        Checks.due("goBack(0)", x.goBack(0), 2);
        Checks.due("the weight", x.count(15), 9);
        Checks.due("the modulus", x.count(9), 19);
        Checks.due("the refusals", x.count(8), 1);
        Checks.due("a cheque", x.cheque(501, 0), 1);
        Checks.due("its amount", x.cheque(501, 1), 20);
        Checks.due("the saved states are not of the state", x.count(10), 6);
        Checks.due("the buffer is not of the state", x.count(11), 3);
        x.voidRun(0, 999999);
        Checks.due("goBack(0) again", x.goBack(0), 2);
        Checks.due("the snapshot stays as it was", x.cheque(501, 0), 1);
        Checks.due("undo() of goBack", x.undo(), 5);
        Checks.due("the cheque is void", x.cheque(501, 0), 3);
        x.undo();
        Checks.due("undo() up to the first goBack", x.cheque(501, 0), 1);
        x.undo();
        Checks.due("undo() of the first goBack", x.count(0), 3);
        Checks.due("the modulus before it", x.count(9), 7);
    }

    private static void promise14GoBackThrows() {
        Checks.noState("goBack(0), empty", Checks::example, x -> x.goBack(0));
        ChequeSerials x = Checks.example();
        x.keep(0);
        try {
            x.goBack(1);
            Checks.wrong("goBack(1), empty, throws nothing");
        } catch (IllegalStateException e) {
            Checks.due("saved states", x.count(10), 6);
        }
        try {
            x.goBack(2);
            Checks.wrong("goBack(2) throws nothing");
        } catch (IllegalArgumentException e) {
            Checks.due("saved states", x.count(10), 6);
        }
    }
}
