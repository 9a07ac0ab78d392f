/** Part 3 of the document's Terms, sentence by sentence: a grammar's limits, its faults and their places. */
public final class CommandsEdgesTest {
    public static void main(String[] args) {
        Check check = new Check();
        textToTheEnd(check);
        brackets(check);
        blanks(check);
        spellingAsFarAsLetters(check);
        pointsAsTheyStand(check);
        pointsOf8(check);
        spellingsOf20(check);
        pickOfNone(check);
        pickNotComeBy(check);
        soundsInARow(check);
        oneForEachRowOfPicks(check);
        inOrderOfPicks(check);
        commandsOf120(check);
        soundsOf40(check);
        noSounds(check);
        firstFromTheLeft(check);
        whatCannotStandThere(check);
        textEndsTooEarly(check);
        moreThan10Letters(check);
        cannotBeRead(check);
        a21stSpelling(check);
        a9thPoint(check);
        ofOneTheLeast(check);
        behindAllCommands(check);
        behindAllSounds(check);
        inThePlaceOfTheOneAhead(check);
        withAFaultNothingChanges(check);
        readStays(check);
        costsAsNow(check);
        check.end();
    }

    private static void good(Check check, SpokenDesk desk, String text, int commands) {
        check.same("grammar '" + text + "'", Check.grammar(desk, text), commands);
        check.same("place in '" + text + "'", desk.place(), -1);
    }

    private static void faulty(Check check, SpokenDesk desk, String text, int fault, int place) {
        check.same("grammar '" + text + "'", Check.grammar(desk, text), fault - 10);
        check.same("place in '" + text + "'", desk.place(), place);
    }

    private static void textToTheEnd(Check check) {
        check.sentence("A GRAMMAR: S, to the end: S = A { A }");
        SpokenDesk desk = Check.lettered();
        faulty(check, desk, "", 1, 0);
        good(check, desk, "a", 1);
        good(check, desk, "a a", 1);
        good(check, desk, "(a)a[a]", 2);
        faulty(check, desk, "a|a", 1, 1);
        faulty(check, desk, "a)a", 1, 1);
        faulty(check, desk, "(a))", 1, 3);
        desk.feed(0x617c617c, 0, 0, 0, 0);
        check.same("the text ends with its n bytes", desk.grammar(1), 1);
        check.same("the text ends with its n bytes", desk.place(), -1);
    }

    private static void brackets(Check check) {
        check.sentence("A = SPELLING | \"[\" S { \"|\" S } \"]\" | \"(\" S { \"|\" S } \")\"");
        SpokenDesk desk = Check.lettered();
        good(check, desk, "(a)", 1);
        good(check, desk, "[a]", 2);
        good(check, desk, "(a|b)", 2);
        good(check, desk, "[a|b]", 3);
        good(check, desk, "(a[b]|(c)d)", 3);
        faulty(check, desk, "()", 1, 1);
        faulty(check, desk, "[]", 1, 1);
        faulty(check, desk, "(|a)", 1, 1);
        faulty(check, desk, "[a|]", 1, 3);
        faulty(check, desk, "(a||b)", 1, 3);
        faulty(check, desk, "(a]", 1, 2);
        faulty(check, desk, "[a)", 1, 2);
        faulty(check, desk, "([a)]", 1, 3);
        faulty(check, desk, "[(a])", 1, 3);
        faulty(check, desk, "(a()b)", 1, 3);
    }

    private static void blanks(Check check) {
        check.sentence("between them blanks (32).");
        SpokenDesk desk = Check.lettered();
        good(check, desk, "a b", 1);
        good(check, desk, "a(b|c)[d]", 4);
        good(check, desk, "a ( b | c ) [ d ]", 4);
        good(check, desk, "   a   (   b   |   c   )   ", 2);
        good(check, desk, " ".repeat(399) + "a", 1);
        faulty(check, desk, "a\u001fb", 1, 1);
        faulty(check, desk, "a!b", 1, 1);
        faulty(check, desk, "a\tb", 1, 1);
        faulty(check, desk, "a\nb", 1, 1);
        faulty(check, desk, "a\u0000b", 1, 1);
        faulty(check, desk, "a\u00a0b", 1, 1);
    }

    private static void spellingAsFarAsLetters(Check check) {
        check.sentence("A SPELLING goes as far as letters stand.");
        SpokenDesk desk = Check.lettered();
        Check.rule(desk, "ab", 9);
        Check.book(desk, "abab", 8);
        good(check, desk, "ab", 1);
        check.row("one spelling of two letters", Check.soundsOf(desk, 0), 9);
        good(check, desk, "a b", 1);
        check.row("two spellings of one letter", Check.soundsOf(desk, 0), 0, 1);
        good(check, desk, "a(b)", 1);
        check.row("a point ends it", Check.soundsOf(desk, 0), 0, 1);
        good(check, desk, "abab", 1);
        check.row("one of the book", Check.soundsOf(desk, 0), 8);
        good(check, desk, "ab ab", 1);
        check.row("two that are not of the book", Check.soundsOf(desk, 0), 9, 9);
    }

    private static void pointsAsTheyStand(Check check) {
        check.sentence("Each ( and [ is a POINT, numbered from 0 on as they stand");
        SpokenDesk desk = Check.lettered();
        good(check, desk, "a", 1);
        check.same("no point", desk.count(3), 0);
        check.illegal("no point 0", () -> desk.pick(0, 0));
        good(check, desk, "(a[b])(c)", 2);
        check.same("three points", desk.count(3), 3);
        check.row("the outer one ahead of the inner one", Check.picksOf(desk, 1), 0, 1, 0);
        check.illegal("no point 3", () -> desk.pick(0, 3));
    }

    private static void pointsOf8(Check check) {
        check.sentence("POINT .. 8 at most");
        SpokenDesk desk = Check.lettered();
        good(check, desk, "(a)".repeat(8), 1);
        check.same("8 points", desk.count(3), 8);
        check.same("the 8th one's pick", desk.pick(0, 7), 0);
        faulty(check, desk, "(a)".repeat(9), 4, 24);
        good(check, desk, "[".repeat(8) + "a" + "]".repeat(8), 9);
        faulty(check, desk, "[".repeat(9) + "a" + "]".repeat(9), 4, 8);
        good(check, desk, "(a)".repeat(4) + "((((a))))", 1);
        faulty(check, desk, "(a)".repeat(4) + "((((a[b]))))", 4, 17);
    }

    private static void spellingsOf20(Check check) {
        check.sentence("SPELLINGS 20 at most.");
        SpokenDesk desk = Check.lettered();
        good(check, desk, "a ".repeat(19) + "b", 1);
        check.same("the 20th is there", desk.sound(0, 19), 1);
        faulty(check, desk, "a ".repeat(20) + "b", 4, 40);
        good(check, desk, "(" + "a|".repeat(19) + "b)", 20);
        check.row("the 20th alone", Check.soundsOf(desk, 19), 1);
        faulty(check, desk, "(" + "a|".repeat(20) + "b)", 4, 41);
    }

    private static void pickOfNone(Check check) {
        check.sentence("A COMMAND picks .. one of its S (its number, from 0 on), or of a [ none (its PICK is "
                + "how many S there are)");
        SpokenDesk desk = Check.lettered();
        good(check, desk, "[a]", 2);
        check.same("the only one", desk.pick(0, 0), 0);
        check.same("none of one", desk.pick(1, 0), 1);
        good(check, desk, "[a|b|c]", 4);
        for (int k = 0; k < 4; k++) {
            check.same("one of three, then none", desk.pick(k, 0), k);
        }
        check.row("the last of three", Check.soundsOf(desk, 2), 2);
        check.row("none of three", Check.soundsOf(desk, 3));
        good(check, desk, "(a|b|c)", 3);
        check.same("a ( never picks none", desk.pick(2, 0), 2);
    }

    private static void pickNotComeBy(Check check) {
        check.sentence("at one that it doesn't come by (within an S that is not picked) its PICK is -1.");
        SpokenDesk desk = Check.lettered();
        good(check, desk, "[a(b|c)|d[e]]", 5);
        check.row("come by the first", Check.picksOf(desk, 0), 0, 0, -1);
        check.row("come by the first, other pick", Check.picksOf(desk, 1), 0, 1, -1);
        check.row("come by the second", Check.picksOf(desk, 2), 1, -1, 0);
        check.row("come by the second, none there", Check.picksOf(desk, 3), 1, -1, 1);
        check.row("come by neither", Check.picksOf(desk, 4), 2, -1, -1);
        good(check, desk, "[a[b[c]]]d", 4);
        check.row("within one that is not come by", Check.picksOf(desk, 3), 1, -1, -1);
        check.row("none of the inner one", Check.picksOf(desk, 2), 0, 1, -1);
        check.row("sounds behind one not come by", Check.soundsOf(desk, 3), 3);
    }

    private static void soundsInARow(Check check) {
        check.sentence("Its SOUNDS are those READ of its SPELLINGS, one behind another.");
        SpokenDesk desk = Check.lettered();
        good(check, desk, "a(b[c]d|e)f", 3);
        check.row("all", Check.soundsOf(desk, 0), 0, 1, 2, 3, 5);
        check.row("one left out", Check.soundsOf(desk, 1), 0, 1, 3, 5);
        check.row("the other part", Check.soundsOf(desk, 2), 0, 4, 5);
    }

    private static void oneForEachRowOfPicks(Check check) {
        check.sentence("COMMANDS are all, one for each row of PICKS");
        SpokenDesk desk = Check.lettered();
        good(check, desk, "(a|a|a)", 3);
        check.row("the same sounds three times", Check.soundsOf(desk, 2), 0);
        good(check, desk, "[a][a]", 4);
        check.row("the same sounds by the other point", Check.soundsOf(desk, 1), 0);
        check.row("the same sounds by the other point", Check.soundsOf(desk, 2), 0);
        good(check, desk, "[[a]]", 3);
        check.row("none of the inner one", Check.soundsOf(desk, 1));
        check.row("none of the outer one", Check.soundsOf(desk, 2));
    }

    private static void inOrderOfPicks(Check check) {
        check.sentence("in order of POINT 0's PICK, then POINT 1's, and so on");
        SpokenDesk desk = Check.lettered();
        good(check, desk, "(a|b(c|d))[e|f]", 9);
        int[][] due = {{0, -1, 0}, {0, -1, 1}, {0, -1, 2}, {1, 0, 0}, {1, 0, 1}, {1, 0, 2}, {1, 1, 0}, {1, 1, 1},
            {1, 1, 2}};
        for (int k = 0; k < due.length; k++) {
            check.row("picks of " + k, Check.picksOf(desk, k), due[k]);
        }
    }

    private static void commandsOf120(Check check) {
        check.sentence("COMMANDS .. 120 at most");
        SpokenDesk desk = Check.lettered();
        good(check, desk, "(a|b|c|d|e)(a|b|c|d)(a|b|c)(a|b)", 120);
        check.row("the 120th", Check.picksOf(desk, 119), 4, 3, 2, 1);
        check.outside("no 121st", () -> desk.sound(120, 0));
        faulty(check, desk, "[(a|b|c|d|e)(a|b|c|d)(a|b|c)(a|b)]", 5, 34);
        faulty(check, desk, "(a|b|c|d|e)(a|b|c|d)(a|b|c)[a|b]", 5, 32);
    }

    private static void soundsOf40(Check check) {
        check.sentence("COMMANDS .. each with 40 SOUNDS at most");
        SpokenDesk desk = Check.lettered();
        good(check, desk, "aaaaaaaaaa bbbbbbbbbb cccccccccc dddddddddd", 1);
        check.same("the 40th", desk.sound(0, 39), 3);
        check.same("no 41st", desk.sound(0, 40), -1);
        faulty(check, desk, "aaaaaaaaaa bbbbbbbbbb cccccccccc dddddddddd e", 6, 45);
        faulty(check, desk, "aaaaaaaaaa bbbbbbbbbb cccccccccc dddddddddd [e]", 6, 47);
        good(check, desk, "(aaaaaaaaaa aaaaaaaaaa aaaaaaaaaa|bbbbbbbbbb) cccccccccc", 2);
        check.same("each for itself", desk.sound(0, 39), 2);
        faulty(check, desk, "(a|aaaaaaaaaa aaaaaaaaaa aaaaaaaaaa b) cccccccccc", 6, 49);
    }

    private static void noSounds(Check check) {
        check.sentence("COMMANDS .. (there may be none)");
        SpokenDesk desk = Check.lettered();
        good(check, desk, "[a]", 2);
        check.same("a command of no sounds", desk.sound(1, 0), -1);
        good(check, desk, "[a][b][c]", 8);
        check.row("a command of no sounds is the last one", Check.soundsOf(desk, 7));
        check.row("its picks", Check.picksOf(desk, 7), 1, 1, 1);
    }

    private static void firstFromTheLeft(Check check) {
        check.sentence("FAULTS, the first from the left, at its first byte");
        SpokenDesk desk = Check.lettered();
        faulty(check, desk, "a abcdefghijk", 2, 2);
        faulty(check, desk, "a abcz", 3, 2);
        faulty(check, desk, "a ! abcdefghijk", 1, 2);
        faulty(check, desk, "a abcdefghijk !", 2, 2);
        faulty(check, desk, "a z abcdefghijk", 3, 2);
        faulty(check, desk, "a (z", 3, 3);
        faulty(check, desk, "[a]".repeat(8) + "(z", 4, 24);
        faulty(check, desk, "z" + "[a]".repeat(9), 3, 0);
        faulty(check, desk, "[a]".repeat(7) + " z", 3, 22);
        faulty(check, desk, "aaaaaaaaaa ".repeat(5) + "(", 1, 56);
    }

    private static void whatCannotStandThere(Check check) {
        check.sentence("1 what can't stand there");
        SpokenDesk desk = Check.lettered();
        char[] none = {0, 9, 10, 31, '!', '0', '9', 'A', 'Z', '\\', '`', '{', '}', 127, 128, 'a' + 128, 255};
        for (char sign : none) {
            faulty(check, desk, "" + sign, 1, 0);
            faulty(check, desk, "a" + sign, 1, 1);
        }
        faulty(check, desk, "|", 1, 0);
        faulty(check, desk, ")", 1, 0);
        faulty(check, desk, "]", 1, 0);
        faulty(check, desk, "( |a)", 1, 2);
        faulty(check, desk, "(a| )", 1, 4);
    }

    private static void textEndsTooEarly(Check check) {
        check.sentence("(at the length, if the text ends too early)");
        SpokenDesk desk = Check.lettered();
        String[] texts = {"", " ", "     ", "(", "[", "( ", "(a", "[a", "(a|", "(a| ", "(a|b  ", "a(b[c]",
            "((a)", "a ("};
        for (String text : texts) {
            faulty(check, desk, text, 1, text.length());
        }
        faulty(check, desk, " ".repeat(400), 1, 400);
        desk.feed(0x28612900, 0, 0, 0, 0);
        check.same("the length is n, not the tape's", desk.grammar(2), -9);
        check.same("the length is n, not the tape's", desk.place(), 2);
    }

    private static void moreThan10Letters(Check check) {
        check.sentence("2 a SPELLING of more than 10 letters");
        SpokenDesk desk = Check.lettered();
        good(check, desk, "abcdefghij", 1);
        faulty(check, desk, "abcdefghijk", 2, 0);
        faulty(check, desk, "(abcdefghij abcdefghijk", 2, 12);
        faulty(check, desk, "a".repeat(400), 2, 0);
        good(check, desk, "abcdefghij abcdefghij", 1);
    }

    private static void cannotBeRead(Check check) {
        check.sentence("3 one that can't be READ");
        SpokenDesk desk = Check.lettered();
        Check.rule(desk, "s");
        Check.rule(desk, "t", 1, 2, 3);
        faulty(check, desk, "z", 3, 0);
        faulty(check, desk, "a aaz", 3, 2);
        faulty(check, desk, "a ssss", 3, 2);
        faulty(check, desk, "a ttttttt", 3, 2);
        good(check, desk, "a ssa", 1);
        good(check, desk, "ttttttaa", 1);
        Check.book(desk, "ssss", 1);
        good(check, desk, "a ssss", 1);
    }

    private static void a21stSpelling(Check check) {
        check.sentence("4 a 21st SPELLING");
        SpokenDesk desk = Check.lettered();
        String twenty = "a ".repeat(20);
        good(check, desk, twenty, 1);
        faulty(check, desk, twenty + "abc", 4, 40);
        faulty(check, desk, twenty + "(((abc", 4, 43);
        faulty(check, desk, "(" + twenty + "|" + "a" + ")", 4, 42);
        faulty(check, desk, twenty + "a a a !", 4, 40);
        faulty(check, desk, twenty + "!", 1, 40);
    }

    private static void a9thPoint(Check check) {
        check.sentence("4 .. a 9th POINT");
        SpokenDesk desk = Check.lettered();
        String eight = "(a)".repeat(8);
        good(check, desk, eight, 1);
        faulty(check, desk, eight + "(a)", 4, 24);
        faulty(check, desk, eight + "[a]", 4, 24);
        faulty(check, desk, eight + " [", 4, 25);
        faulty(check, desk, eight + ")", 1, 24);
        faulty(check, desk, "a ".repeat(12) + eight + "(", 4, 48);
        faulty(check, desk, "a ".repeat(12) + eight + "a(", 4, 48);
    }

    private static void ofOneTheLeast(Check check) {
        check.sentence("(of one the least;)");
        SpokenDesk desk = Check.lettered();
        String twenty = "a ".repeat(20);
        faulty(check, desk, "zzzzzzzzzzz", 2, 0);
        faulty(check, desk, twenty + "zzzzzzzzzzz", 2, 40);
        faulty(check, desk, twenty + "aaaaaaaaaaa", 2, 40);
        faulty(check, desk, twenty + "z", 3, 40);
        faulty(check, desk, twenty + "a", 4, 40);
    }

    private static void behindAllCommands(Check check) {
        check.sentence("behind all, at the length: 5 more than 120 COMMANDS");
        SpokenDesk desk = Check.lettered();
        String many = "[a]".repeat(7);
        faulty(check, desk, many, 5, 21);
        faulty(check, desk, many + "   ", 5, 24);
        faulty(check, desk, many + "a a", 5, 24);
        faulty(check, desk, many + "!", 1, 21);
        faulty(check, desk, many + "(", 1, 22);
        faulty(check, desk, many + "z", 3, 21);
        faulty(check, desk, many + "[a]", 5, 24);
        faulty(check, desk, many + "[a][a]", 4, 24);
        faulty(check, desk, "[a|a|a]".repeat(6), 5, 42);
        faulty(check, desk, "[aaaaaaaaaa]".repeat(7), 5, 84);
    }

    private static void behindAllSounds(Check check) {
        check.sentence("behind all, at the length: .. 6 one with more than 40 SOUNDS.");
        SpokenDesk desk = Check.lettered();
        String forty = "aaaaaaaaaa aaaaaaaaaa aaaaaaaaaa aaaaaaaaaa";
        good(check, desk, forty, 1);
        faulty(check, desk, forty + " a", 6, 45);
        faulty(check, desk, forty + " a  ", 6, 47);
        faulty(check, desk, forty + " a !", 1, 46);
        faulty(check, desk, forty + " a z", 3, 46);
        faulty(check, desk, forty + " a (", 1, 47);
        faulty(check, desk, "(b|" + forty + " a)", 6, 49);
        faulty(check, desk, "(" + forty + " a|b)", 6, 49);
        good(check, desk, "(" + forty + "|" + forty + ")", 2);
    }

    private static void inThePlaceOfTheOneAhead(Check check) {
        check.sentence("A GRAMMAR without FAULT is in the place of the one ahead");
        SpokenDesk desk = Check.lettered();
        good(check, desk, "(a|b|c)(d|e)", 6);
        good(check, desk, "[fg]", 2);
        check.same("its commands", desk.count(2), 2);
        check.same("its points", desk.count(3), 1);
        check.row("its sounds", Check.soundsOf(desk, 0), 5, 6);
        check.row("its picks", Check.picksOf(desk, 1), 1);
        check.outside("the others are gone", () -> desk.sound(2, 0));
        check.illegal("the other point is gone", () -> desk.pick(0, 1));
        check.same("its distance", desk.apart(), 200);
        good(check, desk, "(a|b|c)(d|e)", 6);
        check.row("and the other way about", Check.soundsOf(desk, 5), 2, 4);
        check.row("picks the other way about", Check.picksOf(desk, 5), 2, 1);
    }

    private static void withAFaultNothingChanges(Check check) {
        check.sentence("with one nothing changes.");
        SpokenDesk desk = Check.lettered();
        good(check, desk, "(a|b)[c]", 4);
        String[] texts = {"(d|e|f)|", "d abcdefghijk", "d e z", "d ".repeat(21), "[d]".repeat(7),
            "dddddddddd dddddddddd dddddddddd dddddddddd d"};
        for (String text : texts) {
            check.yes("a fault in " + text, Check.grammar(desk, text) < -3);
            check.same("commands", desk.count(2), 4);
            check.same("points", desk.count(3), 2);
            check.row("sounds of 0", Check.soundsOf(desk, 0), 0, 2);
            check.row("sounds of 3", Check.soundsOf(desk, 3), 1);
            check.row("picks of 1", Check.picksOf(desk, 1), 0, 1);
            check.same("apart", desk.apart(), 100);
            check.same("pair", desk.pair(1), 1);
        }
    }

    private static void readStays(Check check) {
        check.sentence("What was READ stays as it was, whatever becomes of RULES and the BOOK");
        SpokenDesk desk = Check.lettered();
        Check.book(desk, "ab", 9);
        good(check, desk, "(ab|ba)", 2);
        Check.book(desk, "ab", 10, 10);
        Check.book(desk, "ba", 11);
        Check.rule(desk, "b");
        Check.rule(desk, "a", 12, 12, 12);
        check.row("by the book of then", Check.soundsOf(desk, 0), 9);
        check.row("by the rules of then", Check.soundsOf(desk, 1), 1, 0);
        check.same("the distance stays, too", desk.distance(0, 1), 200);
        good(check, desk, "(ab|ba)", 2);
        check.row("by the book of now", Check.soundsOf(desk, 0), 10, 10);
        check.row("by the book of now", Check.soundsOf(desk, 1), 11);
    }

    private static void costsAsNow(Check check) {
        check.sentence("COSTS are asked as they are now.");
        SpokenDesk desk = Check.lettered();
        good(check, desk, "(a|b|cc)", 3);
        check.same("apart at first", desk.apart(), 100);
        desk.cost(0, 1, 1);
        check.same("distance", desk.distance(0, 1), 1);
        check.same("apart", desk.apart(), 1);
        desk.cost(2, -1, 1);
        desk.cost(2, 1, 1);
        desk.cost(0, 1, 100);
        check.same("distance through another", desk.distance(0, 1), 100);
        check.same("apart of others", desk.apart(), 2);
        check.same("the lower of the others", desk.pair(0), 1);
        check.same("the other one of the others", desk.pair(1), 2);
        desk.push(0);
        check.same("hear", desk.hear(), 0);
        check.same("the second one's distance", desk.heard(3), 100);
    }
}
