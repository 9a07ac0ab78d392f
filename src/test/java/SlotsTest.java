/** Promises 21 to 25: slot, word, best, chosen, count. */
public final class SlotsTest {
    public static void main(String[] args) {
        Check check = new Check();
        slots(check);
        words(check);
        order(check);
        best(check);
        firstOfBest(check);
        allSlots(check);
        count(check);
        check.end();
    }

    private static void slots(Check check) {
        SpokenDesk desk = Check.lettered();
        for (int k = 0; k < 8; k++) {
            check.same("slot", desk.slot(), k);
        }
        check.state("a 9th slot", desk::slot);
        check.same("count 4", desk.count(4), 8);
    }

    private static void words(Check check) {
        SpokenDesk desk = Check.lettered();
        desk.slot();
        desk.slot();
        desk.push(9);
        check.same("word 0", Check.word(desk, 1, "ab"), 0);
        check.same("the tape is empty then", desk.count(6), 0);
        check.row("the hand is left alone", Check.handOf(desk), 9);
        check.same("no spelling", Check.word(desk, 1, "a b"), -1);
        check.same("no letters", Check.word(desk, 1, ""), -1);
        check.same("11 letters", Check.word(desk, 1, "aaaaaaaaaaa"), -1);
        check.same("it can't be", Check.word(desk, 1, "abz"), -4);
        check.same("the tape is empty then", desk.count(6), 0);
        check.same("word 1", Check.word(desk, 1, "ab"), 1);
        check.same("word 2", Check.word(desk, 1, "c"), 2);
        check.same("word 3", Check.word(desk, 1, "d"), 3);
        check.same("another slot's word", Check.word(desk, 0, "d"), 0);
        Check.tape(desk, "a");
        check.state("a 5th word", () -> desk.word(1, 1));
        check.same("a wrong call leaves the tape", desk.count(6), 20);
        check.state("a 5th word that is none", () -> desk.word(1, 2));
    }

    private static void order(Check check) {
        SpokenDesk desk = Check.lettered();
        check.outside("no slot", () -> desk.word(0, 0));
        desk.slot();
        check.outside("slot 1", () -> desk.word(1, 0));
        check.outside("slot -1", () -> desk.word(-1, 0));
        check.outside("slot far, and n far", () -> desk.word(Integer.MAX_VALUE, -1));
        check.illegal("n above", () -> desk.word(0, 1));
        check.illegal("n below", () -> desk.word(0, -1));
        for (int k = 0; k < 4; k++) {
            Check.word(desk, 0, "a");
        }
        check.illegal("n above, of a full slot", () -> desk.word(0, 1));
        check.state("a full slot", () -> desk.word(0, 0));
        check.outside("chosen 1", () -> desk.chosen(1));
        check.outside("chosen -1", () -> desk.chosen(-1));
        check.same("chosen of one slot", desk.chosen(0), -1);
    }

    private static void best(Check check) {
        SpokenDesk desk = Check.lettered();
        desk.slot();
        Check.word(desk, 0, "abc");
        Check.word(desk, 0, "def");
        check.same("best of one slot", desk.best(), -1);
        desk.slot();
        check.same("best with a slot without words", desk.best(), -1);
        check.same("chosen with a slot without words", desk.chosen(0), -1);
        Check.word(desk, 1, "dek");
        check.same("best", desk.best(), 300);
        check.same("chosen 0", desk.chosen(0), 0);
        check.same("chosen 1", desk.chosen(1), 0);
        Check.word(desk, 1, "abcdef");
        check.same("best with one more", desk.best(), 300);
        check.same("chosen 1 stays the first", desk.chosen(1), 0);
        desk.cost(0, 3, 1);
        check.same("best by costs of now", desk.best(), 300);
        check.same("chosen 0 by costs of now", desk.chosen(0), 0);
        check.same("chosen 1 by costs of now", desk.chosen(1), 1);
        desk.slot();
        Check.word(desk, 2, "abc");
        check.same("best of three", desk.best(), 201);
        check.same("chosen 0 of three", desk.chosen(0), 1);
        check.same("chosen 1 of three", desk.chosen(1), 1);
        check.same("chosen 2 of three", desk.chosen(2), 0);
        Check.rule(desk, "a", 12, 12, 12);
        check.same("words stay as they came", desk.best(), 201);
    }

    private static void firstOfBest(Check check) {
        SpokenDesk desk = Check.lettered();
        desk.slot();
        desk.slot();
        Check.word(desk, 0, "a");
        Check.word(desk, 1, "a");
        check.same("a worth of 0", desk.best(), 0);
        check.same("a worth of 0: chosen 0", desk.chosen(0), 0);
        check.same("a worth of 0: chosen 1", desk.chosen(1), 0);
        Check.word(desk, 0, "b");
        Check.word(desk, 1, "b");
        Check.word(desk, 1, "c");
        check.same("equals", desk.best(), 100);
        check.same("equals: by slot 0", desk.chosen(0), 0);
        check.same("equals: then by slot 1", desk.chosen(1), 1);
    }

    private static void allSlots(Check check) {
        SpokenDesk desk = Check.lettered();
        String[] stems = {"a", "b", "c", "d", "e", "f", "g", "h"};
        for (int slot = 0; slot < 8; slot++) {
            desk.slot();
            Check.word(desk, slot, "p");
            Check.word(desk, slot, "o" + stems[slot]);
            Check.word(desk, slot, stems[slot]);
            Check.word(desk, slot, stems[slot] + stems[slot] + stems[slot]);
        }
        check.same("best of eight", desk.best(), 300);
        for (int slot = 0; slot < 8; slot++) {
            check.same("chosen of eight", desk.chosen(slot), slot == 0 ? 0 : 3);
        }
    }

    private static void count(Check check) {
        SpokenDesk desk = Check.lettered();
        Check.book(desk, "zz", 1);
        Check.book(desk, "zy", 1);
        Check.grammar(desk, "[a](b|c)d");
        desk.slot();
        Check.pushAll(desk, 1, 2, 3, 4, 5);
        desk.feed(0, 0, 0, 0, 0);
        desk.feed(0, 0, 0, 0, 0);
        int[] due = {16, 2, 4, 2, 1, 5, 40, -1, -1};
        for (int what = 0; what < due.length; what++) {
            check.same("count " + what, desk.count(what), due[what]);
        }
        check.same("count -1", desk.count(-1), -1);
        check.same("count far", desk.count(Integer.MIN_VALUE), -1);
        check.same("count far", desk.count(Integer.MAX_VALUE), -1);
    }
}
