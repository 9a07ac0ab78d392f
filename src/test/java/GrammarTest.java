/** Promises 11 to 14: grammar, place, sound, pick. */
public final class GrammarTest {
    public static void main(String[] args) {
        Check check = new Check();
        commands(check);
        nested(check);
        blanks(check);
        signFaults(check);
        otherFaults(check);
        faultOrder(check);
        limits(check);
        staysAsRead(check);
        wrongCalls(check);
        check.end();
    }

    private static void faulty(Check check, SpokenDesk desk, String text, int fault, int place) {
        check.same("grammar '" + text + "'", Check.grammar(desk, text), fault - 10);
        check.same("place in '" + text + "'", desk.place(), place);
        check.same("the tape is empty behind '" + text + "'", desk.count(6), 0);
    }

    private static void sound(Check check, SpokenDesk desk, String text, int commands, int points) {
        check.same("grammar '" + text + "'", Check.grammar(desk, text), commands);
        check.same("place in '" + text + "'", desk.place(), -1);
        check.same("commands of '" + text + "'", desk.count(2), commands);
        check.same("points of '" + text + "'", desk.count(3), points);
    }

    private static void commands(Check check) {
        SpokenDesk desk = Check.lettered();
        sound(check, desk, "a[b|cd](e|f|g)h", 9, 2);
        check.row("picks 0", Check.picksOf(desk, 0), 0, 0);
        check.row("picks 5", Check.picksOf(desk, 5), 1, 2);
        check.row("picks 6: none is last", Check.picksOf(desk, 6), 2, 0);
        check.row("picks 8", Check.picksOf(desk, 8), 2, 2);
        check.row("sounds 0", Check.soundsOf(desk, 0), 0, 1, 4, 7);
        check.row("sounds 4", Check.soundsOf(desk, 4), 0, 2, 3, 5, 7);
        check.row("sounds 8", Check.soundsOf(desk, 8), 0, 6, 7);
        sound(check, desk, "[a]", 2, 1);
        check.row("a command of no sounds", Check.soundsOf(desk, 1));
        check.same("its pick", desk.pick(1, 0), 1);
        sound(check, desk, "(a|a)", 2, 1);
        sound(check, desk, "abcdefghij", 1, 0);
        check.same("sound 9", desk.sound(0, 9), 9);
        check.same("sound 10", desk.sound(0, 10), -1);
        check.same("sound -1", desk.sound(0, -1), -1);
        check.same("sound far", desk.sound(0, Integer.MAX_VALUE), -1);
        check.same("sound far below", desk.sound(0, Integer.MIN_VALUE), -1);
    }

    private static void nested(Check check) {
        SpokenDesk desk = Check.lettered();
        sound(check, desk, "(a [b] | c (d|e)) [f]", 8, 4);
        int[][] picks = {{0, 0, -1, 0}, {0, 0, -1, 1}, {0, 1, -1, 0}, {0, 1, -1, 1},
            {1, -1, 0, 0}, {1, -1, 0, 1}, {1, -1, 1, 0}, {1, -1, 1, 1}};
        int[][] sounds = {{0, 1, 5}, {0, 1}, {0, 5}, {0}, {2, 3, 5}, {2, 3}, {2, 4, 5}, {2, 4}};
        for (int k = 0; k < picks.length; k++) {
            check.row("nested picks " + k, Check.picksOf(desk, k), picks[k]);
            check.row("nested sounds " + k, Check.soundsOf(desk, k), sounds[k]);
        }
        sound(check, desk, "[[[[[[[[a]]]]]]]]", 9, 8);
        check.row("deepest first", Check.picksOf(desk, 0), 0, 0, 0, 0, 0, 0, 0, 0);
        check.row("deepest second", Check.picksOf(desk, 1), 0, 0, 0, 0, 0, 0, 0, 1);
        check.row("not come by", Check.picksOf(desk, 8), 1, -1, -1, -1, -1, -1, -1, -1);
        sound(check, desk, "((a|b)(c|d)|e)", 5, 3);
        check.row("two within one", Check.picksOf(desk, 3), 0, 1, 1);
        check.row("two within one, not come by", Check.picksOf(desk, 4), 1, -1, -1);
        check.row("two within one, sounds", Check.soundsOf(desk, 2), 1, 2);
    }

    private static void blanks(Check check) {
        SpokenDesk desk = Check.lettered();
        sound(check, desk, "  a  ( b |c )  ", 2, 1);
        check.row("blanks part spellings", Check.soundsOf(desk, 1), 0, 2);
        sound(check, desk, "a(b)c", 1, 1);
        check.row("no blanks", Check.soundsOf(desk, 0), 0, 1, 2);
        Check.rule(desk, "ab", 9);
        sound(check, desk, "ab", 1, 0);
        check.row("one spelling", Check.soundsOf(desk, 0), 9);
        sound(check, desk, "a b", 1, 0);
        check.row("two spellings", Check.soundsOf(desk, 0), 0, 1);
    }

    private static void signFaults(Check check) {
        SpokenDesk desk = Check.lettered();
        sound(check, desk, "(a|b)", 2, 1);
        faulty(check, desk, "", 1, 0);
        faulty(check, desk, "   ", 1, 3);
        faulty(check, desk, "(", 1, 1);
        faulty(check, desk, "(a", 1, 2);
        faulty(check, desk, "(a|", 1, 3);
        faulty(check, desk, "(a| ", 1, 4);
        faulty(check, desk, "()", 1, 1);
        faulty(check, desk, "[]", 1, 1);
        faulty(check, desk, "(|a)", 1, 1);
        faulty(check, desk, "(a||a)", 1, 3);
        faulty(check, desk, "(a|)", 1, 3);
        faulty(check, desk, "[a)", 1, 2);
        faulty(check, desk, "(a]", 1, 2);
        faulty(check, desk, "a|b", 1, 1);
        faulty(check, desk, "a)", 1, 1);
        faulty(check, desk, ")", 1, 0);
        faulty(check, desk, "|", 1, 0);
        faulty(check, desk, "(a))", 1, 3);
        faulty(check, desk, "a\tb", 1, 1);
        faulty(check, desk, "a A", 1, 2);
        faulty(check, desk, "a`", 1, 1);
        faulty(check, desk, "a{", 1, 1);
        faulty(check, desk, "a\u00e1", 1, 1);
        faulty(check, desk, "a\u0000", 1, 1);
        faulty(check, desk, "([a)]", 1, 3);
        check.same("a fault changes nothing", desk.count(2), 2);
        check.same("a fault changes nothing", desk.count(3), 1);
        check.row("a fault changes nothing", Check.soundsOf(desk, 1), 1);
    }

    private static void otherFaults(Check check) {
        SpokenDesk desk = Check.lettered();
        Check.rule(desk, "s");
        Check.rule(desk, "t", 1, 2, 3);
        faulty(check, desk, "a abcdefghijk", 2, 2);
        faulty(check, desk, "a (b abx)", 3, 5);
        faulty(check, desk, "a s", 3, 2);
        faulty(check, desk, "a ttttttt", 3, 2);
        faulty(check, desk, "a ".repeat(20) + "a", 4, 40);
        faulty(check, desk, "[a]".repeat(9), 4, 24);
        faulty(check, desk, "[a]".repeat(7), 5, 21);
        faulty(check, desk, "tttttt tttttt tt", 6, 16);
        faulty(check, desk, "(a|tttttt tttttt tt)  ", 6, 22);
    }

    private static void faultOrder(Check check) {
        SpokenDesk desk = Check.lettered();
        Check.rule(desk, "t", 1, 2, 3);
        String twenty = "a ".repeat(20);
        faulty(check, desk, twenty + "z", 3, 40);
        faulty(check, desk, twenty + "zzzzzzzzzzz", 2, 40);
        faulty(check, desk, twenty + "aaaaaaaaaaa", 2, 40);
        faulty(check, desk, twenty + "A", 1, 40);
        faulty(check, desk, "z !", 3, 0);
        faulty(check, desk, "(z", 3, 1);
        faulty(check, desk, "! z", 1, 0);
        faulty(check, desk, "zzzzzzzzzzz z", 2, 0);
        faulty(check, desk, "z zzzzzzzzzzz", 3, 0);
        faulty(check, desk, "[a]".repeat(8) + "(", 4, 24);
        faulty(check, desk, "[a]".repeat(8) + " !", 1, 25);
        faulty(check, desk, "[a]".repeat(7) + "tttttt tttttt tt", 5, 37);
        faulty(check, desk, "[a]".repeat(7) + "!", 1, 21);
        faulty(check, desk, twenty + "(", 1, 41);
        sound(check, desk, twenty, 1, 0);
    }

    private static void limits(Check check) {
        SpokenDesk desk = Check.lettered();
        Check.rule(desk, "t", 1, 2, 3);
        sound(check, desk, "(a|b|c|d|e)(a|b|c|d)(a|b|c)(a|b)", 120, 4);
        check.row("the last one's picks", Check.picksOf(desk, 119), 4, 3, 2, 1);
        faulty(check, desk, "(a|b|c|d|e)(a|b|c|d)(a|b|c)(a|b)[a]", 5, 35);
        faulty(check, desk, "[(a|b|c|d|e)(a|b|c|d)(a|b|c)(a|b)]", 5, 34);
        sound(check, desk, "tttttt tttttt t a", 1, 0);
        check.same("40 sounds", desk.sound(0, 39), 0);
        check.same("40 sounds", desk.sound(0, 40), -1);
        faulty(check, desk, "tttttt tttttt t a b", 6, 19);
        sound(check, desk, "(tttttt|tttttt) (tttttt|a) a a", 4, 2);
        sound(check, desk, "(tttttt tttttt|tttttt tttttt)", 2, 1);
        sound(check, desk, "[a]".repeat(6), 64, 6);
        sound(check, desk, "(a)".repeat(8), 1, 8);
        sound(check, desk, "a ".repeat(20), 1, 0);
        sound(check, desk, "abcdefghij".repeat(1) + " ".repeat(389) + "a", 1, 0);
    }

    private static void staysAsRead(Check check) {
        SpokenDesk desk = Check.lettered();
        sound(check, desk, "(a|b)", 2, 1);
        Check.rule(desk, "a", 7, 7);
        Check.book(desk, "b", 8);
        check.row("what was read stays", Check.soundsOf(desk, 0), 0);
        check.row("what was read stays", Check.soundsOf(desk, 1), 1);
        sound(check, desk, "(a|b)", 2, 1);
        check.row("read anew", Check.soundsOf(desk, 0), 7, 7);
        check.row("read anew by the book", Check.soundsOf(desk, 1), 8);
    }

    private static void wrongCalls(Check check) {
        SpokenDesk desk = Check.lettered();
        check.outside("sound without a grammar", () -> desk.sound(0, 0));
        check.outside("pick without a grammar", () -> desk.pick(0, 0));
        faulty(check, desk, "(", 1, 1);
        check.illegal("grammar of more than there is", () -> desk.grammar(1));
        check.illegal("grammar of -1", () -> desk.grammar(-1));
        check.same("a wrong call leaves the place", desk.place(), 1);
        sound(check, desk, "(a|b)", 2, 1);
        check.outside("sound of command 2", () -> desk.sound(2, 0));
        check.outside("sound of command -1", () -> desk.sound(-1, 0));
        check.outside("sound of command far", () -> desk.sound(Integer.MIN_VALUE, 0));
        check.outside("pick of command 2", () -> desk.pick(2, 0));
        check.outside("pick of command -1", () -> desk.pick(-1, 0));
        check.outside("pick of neither", () -> desk.pick(2, 1));
        check.illegal("pick of point 1", () -> desk.pick(0, 1));
        check.illegal("pick of point -1", () -> desk.pick(0, -1));
        check.illegal("pick of point far", () -> desk.pick(0, Integer.MAX_VALUE));
    }
}
