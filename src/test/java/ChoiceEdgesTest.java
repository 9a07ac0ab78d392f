/** Parts 4 and 5 of the document's Terms, sentence by sentence: ties, what has no second, and slots' limits. */
public final class ChoiceEdgesTest {
    public static void main(String[] args) {
        Check check = new Check();
        leastOfTwo(check);
        leastBehindOne(check);
        pairByTheLower(check);
        pairByTheOther(check);
        firstOfTheNearest(check);
        secondOfTheOthers(check);
        gap(check);
        pointsUnlike(check);
        noPointUnlike(check);
        slotsOf8(check);
        wordsOf4(check);
        readAsTheyCome(check);
        worthOfTwo(check);
        bestBySlot0(check);
        bestThenBySlot1(check);
        bestOfAll(check);
        check.end();
    }

    private static void leastOfTwo(Check check) {
        check.sentence("APART: of two COMMANDS the least DISTANCE");
        SpokenDesk desk = Check.lettered();
        Check.grammar(desk, "(a|a)");
        check.same("of two alike", desk.apart(), 0);
        Check.grammar(desk, "(aaa|bbb|cc)");
        check.same("of the last two or the first and the last", desk.apart(), 300);
        Check.grammar(desk, "[aaaaaaaaaa aaaaaaaaaa aaaaaaaaaa aaaaaaaaaa]");
        check.same("at its greatest", desk.apart(), 4000);
        Check.grammar(desk, "(a|b|c|d|e)(f|g|h|i)(j|k|l)(m|n)");
        check.same("of 120 unlike ones", desk.apart(), 100);
        desk.cost(12, 13, 99);
        check.same("of 120 unlike ones, some nearer", desk.apart(), 99);
    }

    private static void leastBehindOne(Check check) {
        check.sentence("APART: of two COMMANDS the least DISTANCE (0 behind a DISTANCE of 1)");
        SpokenDesk desk = Check.lettered();
        desk.cost(0, 1, 1);
        Check.grammar(desk, "(a|b|a)");
        check.same("of the same lower one", desk.apart(), 0);
        check.same("of the same lower one", desk.pair(1), 2);
        Check.grammar(desk, "(a|b|c|c)");
        check.same("of another lower one", desk.apart(), 0);
        check.same("of another lower one", desk.pair(0), 2);
        Check.grammar(desk, "(b|a|c)");
        check.same("1 is the least", desk.apart(), 1);
    }

    private static void pairByTheLower(Check check) {
        check.sentence("the PAIR: the first two of these (by the lower number ..)");
        SpokenDesk desk = Check.lettered();
        Check.grammar(desk, "(aaa|bbb|ccc|bbd|aae)");
        check.same("the lower number decides", desk.pair(0), 0);
        check.same("its other one, though there is a lower other", desk.pair(1), 4);
        Check.grammar(desk, "(aaaa|bbbb|cccc|dddd|cccd)");
        check.same("the last pair, if it alone is nearest", desk.pair(0), 2);
        check.same("the last pair, if it alone is nearest", desk.pair(1), 4);
        Check.grammar(desk, "(aaaa|bbbb|cccc|dddd|dddc)");
        check.same("the last two", desk.pair(0), 3);
        check.same("the last two", desk.pair(1), 4);
    }

    private static void pairByTheOther(Check check) {
        check.sentence("the PAIR: .. (.. then by the other).");
        SpokenDesk desk = Check.lettered();
        Check.grammar(desk, "(a|bbb|b|c|d)");
        check.same("the lower one of equals", desk.pair(0), 0);
        check.same("the first other one of equals", desk.pair(1), 2);
        Check.grammar(desk, "(a|b|c)");
        check.same("of all equal", desk.pair(0), 0);
        check.same("of all equal", desk.pair(1), 1);
    }

    private static void firstOfTheNearest(Check check) {
        check.sentence("HEARD: the COMMAND with the least DISTANCE to the HAND (the first of these) is FIRST");
        SpokenDesk desk = Check.lettered();
        Check.grammar(desk, "(bb|a|b|a|b)");
        desk.push(0);
        check.same("the first of two", desk.hear(), 1);
        check.same("its distance", desk.heard(1), 0);
        desk.push(1);
        check.same("the first of two others", desk.hear(), 2);
        desk.push(9);
        check.same("the first of four", desk.hear(), 1);
        check.same("an empty hand, the first of four", desk.hear(), 1);
        Check.pushAll(desk, 1, 1);
        check.same("the very first", desk.hear(), 0);
        Check.grammar(desk, "(a|b|c|d|e)(f|g|h|i)(j|k|l)(m|n)");
        Check.pushAll(desk, 4, 8, 11, 13);
        check.same("the last of 120", desk.hear(), 119);
    }

    private static void secondOfTheOthers(Check check) {
        check.sentence("of the others the one with the least (the first of these) SECOND");
        SpokenDesk desk = Check.lettered();
        Check.grammar(desk, "(a|b|a|c|a)");
        desk.push(0);
        check.same("first", desk.hear(), 0);
        check.same("second of the same distance", desk.heard(2), 2);
        check.same("second's distance", desk.heard(3), 0);
        desk.push(2);
        check.same("first stands behind second", desk.hear(), 3);
        check.same("second: the first of the others", desk.heard(2), 0);
        Check.grammar(desk, "(ccc|bb|a)");
        desk.push(0);
        check.same("first comes last", desk.hear(), 2);
        check.same("second was first until then", desk.heard(2), 1);
        Check.grammar(desk, "(a|ccc|bb|bc|ab)");
        desk.push(0);
        check.same("first comes at once", desk.hear(), 0);
        check.same("second comes last", desk.heard(2), 4);
        check.same("second's distance", desk.heard(3), 100);
    }

    private static void gap(Check check) {
        check.sentence("GAP: SECOND's less FIRST's.");
        SpokenDesk desk = Check.lettered();
        Check.grammar(desk, "(a|b)");
        desk.push(9);
        desk.hear();
        check.same("no gap", desk.heard(4), 0);
        check.same("though both are away", desk.heard(1), 100);
        desk.push(0);
        desk.hear();
        check.same("a gap", desk.heard(4), 100);
        desk.cost(0, 9, 30);
        desk.push(9);
        desk.hear();
        check.same("a gap of both distances", desk.heard(4), 70);
        Check.grammar(desk, "[aaaaaaaaaa aaaaaaaaaa aaaaaaaaaa aaaaaaaaaa]");
        desk.hear();
        check.same("the greatest gap", desk.heard(4), 4000);
    }

    private static void pointsUnlike(Check check) {
        check.sentence("To be asked again: the POINTS at which their PICKS are unlike.");
        SpokenDesk desk = Check.lettered();
        Check.grammar(desk, "[[[[[[[[a]]]]]]]]");
        check.same("an empty hand", desk.hear(), 1);
        check.same("second", desk.heard(2), 2);
        check.row("none of one, not come by at another", Check.againOf(desk), 6, 7);
        desk.push(0);
        check.same("first of all", desk.hear(), 0);
        check.row("none beside one", Check.againOf(desk), 7);
        Check.grammar(desk, "(ab(c|d)(e)[f]|gh(i|j)[k]p)");
        desk.cost(6, 0, 1);
        desk.cost(7, 1, 1);
        desk.cost(8, 2, 1);
        desk.cost(10, 4, 1);
        desk.cost(15, 5, 1);
        desk.cost(5, -1, 50);
        Check.pushAll(desk, 0, 1, 2, 4, 5);
        check.same("first", desk.hear(), 0);
        check.same("second", desk.heard(2), 4);
        check.row("all of them, for one is come by but once", Check.againOf(desk), 0, 1, 2, 3, 4, 5);
    }

    private static void noPointUnlike(Check check) {
        check.sentence("To be asked again: the POINTS .. (none that are alike)");
        SpokenDesk desk = Check.lettered();
        Check.grammar(desk, "(a)(b|c)(d)");
        Check.pushAll(desk, 0, 1, 3);
        desk.hear();
        check.row("only the one that is unlike", Check.againOf(desk), 1);
        Check.grammar(desk, "(a|b(c|d))(e|f)");
        Check.pushAll(desk, 0, 4);
        desk.hear();
        check.same("second", desk.heard(2), 1);
        check.row("not come by in both is alike", Check.againOf(desk), 2);
        Check.grammar(desk, "(a)");
        desk.hear();
        check.row("no second, nothing to ask", Check.againOf(desk));
    }

    private static void slotsOf8(Check check) {
        check.sentence("SLOTS, 8 at most");
        SpokenDesk desk = Check.lettered();
        for (int k = 0; k < 8; k++) {
            check.same("slot " + k, desk.slot(), k);
        }
        check.state("a 9th", desk::slot);
        check.same("there are 8", desk.count(4), 8);
        for (int k = 0; k < 8; k++) {
            Check.word(desk, k, "" + (char) ('a' + k));
        }
        check.same("the 8th is one of them", desk.best(), 100);
        check.same("the 8th is one of them", desk.chosen(7), 0);
        desk.cost(0, 7, 3);
        check.same("the 8th counts", desk.best(), 3);
    }

    private static void wordsOf4(Check check) {
        check.sentence("SLOTS .. each of 1 to 4 WORDS");
        SpokenDesk desk = Check.lettered();
        desk.slot();
        desk.slot();
        check.same("no words", desk.best(), -1);
        Check.word(desk, 0, "a");
        check.same("one slot of no words", desk.best(), -1);
        Check.word(desk, 1, "a");
        check.same("1 word each", desk.best(), 0);
        check.same("word 1", Check.word(desk, 1, "ab"), 1);
        check.same("word 2", Check.word(desk, 1, "abc"), 2);
        check.same("word 3", Check.word(desk, 1, "abcdefghij"), 3);
        check.same("4 words", desk.best(), 900);
        check.same("the 4th is chosen", desk.chosen(1), 3);
        check.state("a 5th", () -> desk.word(1, 0));
        check.same("the other slot has room", Check.word(desk, 0, "p"), 1);
    }

    private static void readAsTheyCome(Check check) {
        check.sentence("WORDS (READ of SPELLINGS as they come).");
        SpokenDesk desk = Check.lettered();
        desk.slot();
        desk.slot();
        Check.word(desk, 0, "a");
        Check.word(desk, 1, "aa");
        Check.rule(desk, "a", 7, 7, 7);
        Check.book(desk, "aa", 8);
        check.same("as they were read", desk.best(), 100);
        Check.word(desk, 1, "aa");
        Check.word(desk, 1, "a");
        check.same("by what is now", desk.best(), 300);
        check.same("by what is now", desk.chosen(1), 2);
    }

    private static void worthOfTwo(Check check) {
        check.sentence("A CHOICE takes a WORD of each SLOT; its WORTH is the least DISTANCE of two of them.");
        SpokenDesk desk = Check.lettered();
        for (int k = 0; k < 3; k++) {
            desk.slot();
        }
        Check.word(desk, 0, "aaaaaa");
        Check.word(desk, 1, "bbb");
        Check.word(desk, 2, "bbc");
        check.same("the least of three", desk.best(), 100);
        Check.word(desk, 2, "bbb");
        check.same("words of the same sounds", desk.best(), 100);
        Check.word(desk, 2, "cccc");
        check.same("a better one", desk.best(), 400);
        check.same("a better one", desk.chosen(2), 2);
        Check.word(desk, 1, "a");
        check.same("worse ones do not matter", desk.chosen(1), 0);
    }

    private static void bestBySlot0(Check check) {
        check.sentence("BEST: of CHOICES of the greatest WORTH the first one (by the WORD of SLOT 0 ..)");
        SpokenDesk desk = Check.lettered();
        desk.slot();
        desk.slot();
        Check.word(desk, 0, "a");
        Check.word(desk, 0, "b");
        Check.word(desk, 1, "a");
        Check.word(desk, 1, "b");
        check.same("one of two equals", desk.best(), 100);
        check.same("by slot 0", desk.chosen(0), 0);
        check.same("by slot 0, not by slot 1", desk.chosen(1), 1);
        Check.word(desk, 0, "cc");
        check.same("a greater worth goes ahead", desk.best(), 200);
        check.same("a greater worth goes ahead", desk.chosen(0), 2);
    }

    private static void bestThenBySlot1(Check check) {
        check.sentence("BEST: .. (.. then of 1, and so on).");
        SpokenDesk desk = Check.lettered();
        for (int slot = 0; slot < 3; slot++) {
            desk.slot();
            for (int k = 0; k < 4; k++) {
                Check.word(desk, slot, "" + (char) ('a' + k));
            }
        }
        check.same("many equals", desk.best(), 100);
        check.same("the first of slot 0", desk.chosen(0), 0);
        check.same("the first of slot 1 that is of this worth", desk.chosen(1), 1);
        check.same("the first of slot 2 that is of this worth", desk.chosen(2), 2);
        SpokenDesk alike = Check.lettered();
        for (int slot = 0; slot < 3; slot++) {
            alike.slot();
            Check.word(alike, slot, "a");
            Check.word(alike, slot, "a");
        }
        check.same("all alike", alike.best(), 0);
        for (int slot = 0; slot < 3; slot++) {
            check.same("all alike: the first", alike.chosen(slot), 0);
        }
    }

    private static void bestOfAll(Check check) {
        check.sentence("BEST of 8 SLOTS of 4 WORDS each");
        SpokenDesk desk = Check.lettered();
        for (int slot = 0; slot < 8; slot++) {
            desk.slot();
            String one = "" + (char) ('a' + slot);
            Check.word(desk, slot, "p");
            Check.word(desk, slot, one);
            Check.word(desk, slot, "p" + one);
            Check.word(desk, slot, one.repeat(10));
        }
        check.same("the last of each but one", desk.best(), 1000);
        for (int slot = 0; slot < 8; slot++) {
            check.same("chosen of " + slot, desk.chosen(slot), slot == 0 ? 0 : 3);
        }
    }
}
