/** Part 1 and 2 of the document's Terms, sentence by sentence: what is too small, too large, empty or full. */
public final class TermsEdgesTest {
    public static void main(String[] args) {
        Check check = new Check();
        soundsAndNothing(check);
        costAtFirst(check);
        nearOfTheSame(check);
        nearThroughAllOthers(check);
        distanceOfEmptyRows(check);
        distanceAtItsGreatest(check);
        nothingCountsAsNear(check);
        handOf40(check);
        tapeOf400(check);
        spellingLetters(check);
        spellingSigns(check);
        rulesOf60(check);
        ruleLetters(check);
        ruleSounds(check);
        bookOf40(check);
        bookSounds(check);
        toldAgainAmongRules(check);
        toldAgainInTheBook(check);
        toldInBoth(check);
        bookForTheWholeAlone(check);
        longestRule(check);
        rulesEndWithTheText(check);
        whereNoneStands(check);
        readOfNoSounds(check);
        readOfMoreThan20(check);
        check.end();
    }

    private static void soundsAndNothing(Check check) {
        check.sentence("SOUNDS 0 to 15, and NOTHING (-1).");
        SpokenDesk desk = new SpokenDesk();
        check.same("the lowest sound", desk.push(0), 1);
        check.same("the highest sound", desk.push(15), 2);
        check.illegal("nothing is no sound", () -> desk.push(-1));
        check.illegal("16 is no sound", () -> desk.push(16));
        check.same("nothing and the highest", desk.near(-1, 15), 100);
        check.illegal("below nothing", () -> desk.near(-2, 15));
        check.illegal("above the highest", () -> desk.near(-1, 16));
    }

    private static void costAtFirst(Check check) {
        check.sentence("COST of two unlike ones of these: a number, the same both ways, 100 at first.");
        SpokenDesk desk = new SpokenDesk();
        for (int y = 0; y < 16; y++) {
            check.same("of nothing and " + y + " at first", desk.cost(-1, y, 50 + y), 100);
            check.same("of " + y + " and nothing then", desk.cost(y, -1, 100), 50 + y);
        }
        for (int x = 1; x < 16; x++) {
            check.same("of 0 and " + x + " at first", desk.cost(x, 0, x), 100);
            check.same("of " + x + " and 0 then", desk.cost(0, x, 100), x);
        }
    }

    private static void nearOfTheSame(Check check) {
        check.sentence("NEAR of two of them: .. (0 of the same).");
        SpokenDesk desk = new SpokenDesk();
        for (int x = -1; x < 16; x++) {
            check.same("near of " + x + " and itself", desk.near(x, x), 0);
        }
        desk.cost(-1, 0, 1);
        check.same("0, not there and back", desk.near(0, 0), 0);
        check.same("0 of nothing, not there and back", desk.near(-1, -1), 0);
    }

    private static void nearThroughAllOthers(Check check) {
        check.sentence("NEAR of two of them: the least sum of COSTS of a row from one to the other, through "
                + "any others");
        SpokenDesk desk = new SpokenDesk();
        int[] row = {15, 3, -1, 8, 0, 11, 5, 14, 1, 9, 2, 13, 4, 12, 6, 10, 7};
        for (int i = 1; i < row.length; i++) {
            desk.cost(row[i - 1], row[i], 6);
        }
        check.same("through all the others", desk.near(15, 7), 96);
        check.same("through all the others, back", desk.near(7, 15), 96);
        check.same("through nothing", desk.near(3, 8), 12);
        check.same("to nothing", desk.near(7, -1), 84);
        desk.cost(7, 15, 95);
        check.same("straight, if that is less by one", desk.near(15, 7), 95);
        desk.cost(7, 15, 96);
        check.same("either, if they are equal", desk.near(15, 7), 96);
        desk.cost(7, 15, 97);
        check.same("round about, if that is less by one", desk.near(15, 7), 96);
        desk.cost(8, 0, 100);
        check.same("straight, if the others are far now", desk.near(15, 7), 97);
        check.same("never more than the COST", desk.near(8, 0), 100);
    }

    private static void distanceOfEmptyRows(Check check) {
        check.sentence("DISTANCE of two rows of SOUNDS: .. with NOTHING put in wherever one likes (never "
                + "NOTHING beside NOTHING)");
        SpokenDesk desk = Check.lettered();
        Check.grammar(desk, "[a] [b]");
        desk.cost(-1, 0, 7);
        desk.cost(-1, 1, 9);
        check.same("of two of no sounds", desk.distance(3, 3), 0);
        check.same("of one sound and none", desk.distance(1, 3), 7);
        check.same("of none and one sound", desk.distance(3, 2), 9);
        check.same("of two sounds and none", desk.distance(0, 3), 16);
        check.same("of one sound and another", desk.distance(1, 2), 16);
        check.same("of two sounds and the latter", desk.distance(0, 2), 7);
        check.same("of two sounds and the former", desk.distance(0, 1), 9);
    }

    private static void distanceAtItsGreatest(Check check) {
        check.sentence("DISTANCE of two rows of SOUNDS: .. the least sum of NEAR of what lies side by side.");
        SpokenDesk desk = Check.lettered();
        Check.rule(desk, "x", 9, 9, 9);
        Check.rule(desk, "y", 10, 10, 10);
        Check.grammar(desk, "[xxxxxx xxxxxx x j|yyyyyy yyyyyy y k]");
        check.same("40 sounds beside 40 others", desk.distance(0, 1), 4000);
        check.same("40 sounds beside none", desk.distance(0, 2), 4000);
        desk.cost(9, 10, 1);
        check.same("40 sounds beside 40 near ones", desk.distance(0, 1), 40);
        desk.cost(9, 10, 100);
        desk.cost(9, -1, 50);
        desk.cost(10, -1, 50);
        check.same("side by side or through nothing", desk.distance(0, 1), 4000);
        desk.cost(10, -1, 49);
        check.same("through nothing, if less by one", desk.distance(0, 1), 3960);
    }

    private static void nothingCountsAsNear(Check check) {
        check.sentence("DISTANCE of two rows of SOUNDS: .. NEAR of what lies side by side, not COST");
        SpokenDesk desk = Check.lettered();
        Check.grammar(desk, "(a|b|ab|ba)");
        desk.cost(0, 5, 3);
        desk.cost(5, 1, 4);
        desk.cost(5, -1, 2);
        check.same("a sound beside another, through a third", desk.distance(0, 1), 7);
        check.same("a sound beside nothing, through a third", desk.distance(0, 2), 6);
        check.same("both turned about", desk.distance(2, 3), 10);
    }

    private static void handOf40(Check check) {
        check.sentence("The HAND is a row of SOUNDS that are pushed, 40 at most.");
        SpokenDesk desk = new SpokenDesk();
        for (int k = 0; k < 39; k++) {
            desk.push(k % 16);
        }
        check.same("the 40th", desk.push(9), 40);
        check.same("the 41st", desk.push(9), -1);
        check.same("it has 40", desk.count(5), 40);
        for (int k = 0; k < 39; k++) {
            check.same("sound " + k, desk.hand(k), k % 16);
        }
        check.same("sound 39", desk.hand(39), 9);
    }

    private static void tapeOf400(Check check) {
        check.sentence("The TAPE has bytes, 400 at most.");
        SpokenDesk desk = new SpokenDesk();
        for (int k = 0; k < 19; k++) {
            desk.feed(0x20202020, 0x20202020, 0x20202020, 0x20202020, 0x20202020);
        }
        check.same("400 bytes", desk.feed(0x20202020, 0x20202020, 0x20202020, 0x20202020, 0x20202021), 400);
        check.same("no more than 400", desk.feed(0, 0, 0, 0, 0), -1);
        check.same("it has 400", desk.count(6), 400);
        check.same("the 400th byte is there", desk.grammar(400), -9);
        check.same("the 400th byte is the last that was fed", desk.place(), 399);
    }

    private static void spellingLetters(Check check) {
        check.sentence("A SPELLING is a text of 1 to 10 small letters.");
        SpokenDesk desk = Check.lettered();
        check.same("no letter", Check.read(desk, ""), -1);
        check.same("1 letter", Check.read(desk, "a"), 1);
        check.same("10 letters", Check.read(desk, "abcdefghij"), 10);
        check.same("11 letters", Check.read(desk, "abcdefghijk"), -1);
        check.same("400 letters", Check.read(desk, "a".repeat(400)), -1);
    }

    private static void spellingSigns(Check check) {
        check.sentence("A SPELLING is a text of .. small letters.");
        SpokenDesk desk = Check.lettered();
        Check.rule(desk, "z", 15);
        check.same("the first letter", Check.read(desk, "a"), 1);
        check.same("the last letter", Check.read(desk, "z"), 1);
        char[] none = {0, 31, 32, '0', 'A', 'Z', '[', '`', '{', 127, 'a' + 128, 'z' + 128, 255};
        for (char sign : none) {
            check.same("no letter: " + (int) sign, Check.read(desk, "" + sign), -1);
            check.same("no letter behind one: " + (int) sign, Check.read(desk, "a" + sign), -1);
            check.same("no letter ahead of one: " + (int) sign, Check.read(desk, sign + "a"), -1);
        }
    }

    /** Two letters, another pair for each number below 676. */
    private static String name(int k) {
        return "" + (char) ('a' + k / 26) + (char) ('a' + k % 26);
    }

    private static SpokenDesk fullOfRules() {
        SpokenDesk desk = new SpokenDesk();
        for (int k = 0; k < 60; k++) {
            desk.push(k % 16);
            desk.rule(Check.tape(desk, name(k)));
        }
        return desk;
    }

    private static void rulesOf60(Check check) {
        check.sentence("RULES, 60 at most");
        SpokenDesk desk = fullOfRules();
        check.same("there are 60", desk.count(0), 60);
        check.same("the first is there", Check.read(desk, name(0)), 1);
        check.row("the first is there", Check.handOf(desk), 0);
        check.same("the 60th is there", Check.read(desk, name(59)), 1);
        check.row("the 60th is there", Check.handOf(desk), 59 % 16);
        check.same("a 61st", Check.rule(desk, name(60), 1), -2);
        check.same("there are still 60", desk.count(0), 60);
        check.same("the 61st is not there", Check.read(desk, name(60)), -2);
    }

    private static void ruleLetters(Check check) {
        check.sentence("RULES: .. a SPELLING of 1 to 4 letters");
        SpokenDesk desk = new SpokenDesk();
        check.same("no letter", Check.rule(desk, "", 1), -1);
        check.same("1 letter", Check.rule(desk, "a", 1), 1);
        check.same("4 letters", Check.rule(desk, "abcd", 1), 2);
        check.same("5 letters", Check.rule(desk, "abcde", 1), -1);
        check.same("10 letters", Check.rule(desk, "abcdefghij", 1), -1);
        check.same("there are 2", desk.count(0), 2);
    }

    private static void ruleSounds(Check check) {
        check.sentence("RULES: .. has a row of 0 to 3 SOUNDS.");
        SpokenDesk desk = new SpokenDesk();
        check.same("no sounds", Check.rule(desk, "a"), 1);
        check.same("3 sounds", Check.rule(desk, "b", 0, 15, 0), 2);
        check.same("4 sounds", Check.rule(desk, "c", 1, 2, 3, 4), -1);
        check.same("there are 2", desk.count(0), 2);
        check.same("none and 3 are read", Check.read(desk, "ab"), 3);
        check.row("none and 3 are read", Check.handOf(desk), 0, 15, 0);
        check.same("the one of 4 sounds is not there", Check.read(desk, "c"), -2);
    }

    private static void bookOf40(Check check) {
        check.sentence("The BOOK, 40 SPELLINGS at most");
        SpokenDesk desk = new SpokenDesk();
        for (int k = 0; k < 40; k++) {
            desk.push(k % 16);
            check.same("entry " + k, desk.book(Check.tape(desk, name(k))), k + 1);
        }
        check.same("a 41st", Check.book(desk, name(40), 1), -2);
        check.same("there are still 40", desk.count(1), 40);
        check.same("the 41st is not there", Check.read(desk, name(40)), -2);
        check.same("the 40th is there", Check.read(desk, name(39)), 1);
        check.row("the 40th is there", Check.handOf(desk), 39 % 16);
        check.same("the first is there", Check.read(desk, name(0)), 1);
    }

    private static void bookSounds(Check check) {
        check.sentence("The BOOK: .. each has a row of 1 to 20 SOUNDS.");
        SpokenDesk desk = new SpokenDesk();
        int[] twenty = {0, 1, 2, 3, 4, 5, 6, 7, 8, 9, 10, 11, 12, 13, 14, 15, 14, 13, 12, 11};
        check.same("no sounds", Check.book(desk, "a"), -1);
        check.same("1 sound", Check.book(desk, "b", 15), 1);
        check.same("20 sounds", Check.book(desk, "c", twenty), 2);
        check.same("21 sounds", Check.book(desk, "d", new int[21]), -1);
        check.same("40 sounds", Check.book(desk, "e", new int[40]), -1);
        check.same("there are 2", desk.count(1), 2);
        check.same("20 are read", Check.read(desk, "c"), 20);
        check.row("20 are read", Check.handOf(desk), twenty);
        check.same("the one of no sounds is not there", Check.read(desk, "a"), -2);
        check.same("the one of 21 sounds is not there", Check.read(desk, "d"), -2);
    }

    private static void toldAgainAmongRules(Check check) {
        check.sentence("(A SPELLING that is told again, among RULES .. has the later row.)");
        SpokenDesk desk = fullOfRules();
        check.same("a longer row, there being 60", Check.rule(desk, name(7), 1, 2, 3), 60);
        check.same("it is read", Check.read(desk, name(7)), 3);
        check.row("it is read", Check.handOf(desk), 1, 2, 3);
        check.same("a row of no sounds", Check.rule(desk, name(7)), 60);
        check.same("that is read", Check.read(desk, name(7)), -4);
        check.same("another letter's rule stays", Check.read(desk, name(8)), 1);
        check.same("4 sounds", Check.rule(desk, name(8), 9, 9, 9, 9), -1);
        check.same("the row stays behind -1", Check.read(desk, name(8)), 1);
        check.row("the row stays behind -1", Check.handOf(desk), 8);
    }

    private static void toldAgainInTheBook(Check check) {
        check.sentence("(A SPELLING that is told again .. in the BOOK, has the later row.)");
        SpokenDesk desk = new SpokenDesk();
        for (int k = 0; k < 40; k++) {
            Check.book(desk, name(k), 1, 2);
        }
        check.same("a longer row, there being 40", Check.book(desk, name(0), new int[20]), 40);
        check.same("it is read", Check.read(desk, name(0)), 20);
        check.same("a shorter row", Check.book(desk, name(0), 6), 40);
        check.same("that is read", Check.read(desk, name(0)), 1);
        check.row("that is read", Check.handOf(desk), 6);
        check.same("no sounds", Check.book(desk, name(0)), -1);
        check.same("the row stays behind -1", Check.read(desk, name(0)), 1);
        check.row("the row stays behind -1", Check.handOf(desk), 6);
        check.same("the one behind it stays", Check.read(desk, name(1)), 2);
    }

    private static void toldInBoth(Check check) {
        check.sentence("READING of a SPELLING: what the BOOK has; else .. the RULES");
        SpokenDesk desk = new SpokenDesk();
        check.same("in the book", Check.book(desk, "ab", 1, 1), 1);
        check.same("among rules, too", Check.rule(desk, "ab", 2), 1);
        check.same("by the book, though the rule came later", Check.read(desk, "ab"), 2);
        check.row("by the book, though the rule came later", Check.handOf(desk), 1, 1);
        check.same("told again as a rule", Check.rule(desk, "ab", 3), 1);
        Check.read(desk, "ab");
        check.row("by the book, still", Check.handOf(desk), 1, 1);
        check.same("twice by the rule", Check.read(desk, "abab"), 2);
        check.row("twice by the rule", Check.handOf(desk), 3, 3);
    }

    private static void bookForTheWholeAlone(Check check) {
        check.sentence("READING of a SPELLING: what the BOOK has (of the whole SPELLING)");
        SpokenDesk desk = new SpokenDesk();
        Check.book(desk, "abc", 1);
        check.same("less than it", Check.read(desk, "ab"), -2);
        check.same("more than it", Check.read(desk, "abcd"), -2);
        check.same("it twice", Check.read(desk, "abcabc"), -2);
        check.same("the same letters otherwise", Check.read(desk, "acb"), -2);
        check.same("itself", Check.read(desk, "abc"), 1);
        Check.book(desk, "abcdefghij", 2);
        check.same("the longest one", Check.read(desk, "abcdefghij"), 1);
        check.same("unlike in the last letter", Check.read(desk, "abcdefghik"), -2);
        check.same("unlike in the first letter", Check.read(desk, "bbcdefghij"), -2);
    }

    private static void longestRule(Check check) {
        check.sentence("from the left on, of the RULES whose letters stand there the longest one's row, and "
                + "on behind these letters");
        SpokenDesk desk = new SpokenDesk();
        Check.rule(desk, "abcd", 4);
        Check.rule(desk, "abc", 3);
        Check.rule(desk, "ab", 2);
        Check.rule(desk, "a", 1);
        Check.rule(desk, "d", 14);
        Check.rule(desk, "bcd", 13);
        check.same("of one to four letters", Check.read(desk, "aababcabcd"), 4);
        check.row("of one to four letters", Check.handOf(desk), 1, 2, 3, 4);
        check.same("on behind the letters, not within", Check.read(desk, "abcdd"), 2);
        check.row("on behind the letters, not within", Check.handOf(desk), 4, 14);
        check.same("from the left, not by the longest of all", Check.read(desk, "aabbcd"), 3);
        check.row("from the left, not by the longest of all", Check.handOf(desk), 1, 2, 13);
        Check.rule(desk, "abcd");
        check.same("the longest one, though its row is empty", Check.read(desk, "abcda"), 1);
        check.row("the longest one, though its row is empty", Check.handOf(desk), 1);
    }

    private static void rulesEndWithTheText(Check check) {
        check.sentence("READING .. of the RULES whose letters stand there (none reaches behind the SPELLING's end)");
        SpokenDesk desk = new SpokenDesk();
        Check.rule(desk, "a", 1);
        Check.rule(desk, "b", 2);
        Check.rule(desk, "abc", 3);
        desk.feed(0x61626300, 0, 0, 0, 0);
        check.same("two of three bytes", desk.read(2), 2);
        check.row("two of three bytes", Check.handOf(desk), 1, 2);
        Check.tape(desk, "bbbbbbbbba");
        desk.feed(0x61626364, 0, 0, 0, 0);
        check.same("ten of forty bytes", desk.read(10), 10);
        Check.read(desk, "abc");
        Check.tape(desk, "ab");
        check.same("what an earlier text had there is gone", desk.read(2), 2);
        Check.grammar(desk, "(ab|abc) ab");
        check.row("a spelling in a grammar ends, too", Check.soundsOf(desk, 0), 1, 2, 1, 2);
        check.row("and is read whole", Check.soundsOf(desk, 1), 3, 1, 2);
    }

    private static void whereNoneStands(Check check) {
        check.sentence("where none stands it can't be read (a PLACE)");
        SpokenDesk desk = new SpokenDesk();
        check.same("no rules at all", Check.read(desk, "a"), -2);
        Check.rule(desk, "a", 1);
        Check.rule(desk, "bc", 2);
        Check.rule(desk, "abcd", 3);
        check.same("at the first letter", Check.read(desk, "xaa"), -2);
        check.same("at the second letter", Check.read(desk, "axx"), -3);
        check.same("at the last of ten", Check.read(desk, "aaaaaaaaax"), -11);
        check.same("the start of a rule is not enough", Check.read(desk, "aab"), -4);
        check.same("the end of a rule is not enough", Check.read(desk, "ca"), -2);
        check.same("behind the longest, with no way back", Check.read(desk, "abcdbd"), -6);
        check.same("the first of two places", Check.read(desk, "abcxx"), -5);
    }

    private static void readOfNoSounds(Check check) {
        check.sentence("of no SOUNDS .. neither (PLACE: its length).");
        SpokenDesk desk = new SpokenDesk();
        Check.rule(desk, "a");
        Check.rule(desk, "b", 1);
        check.same("1 letter of no sounds", Check.read(desk, "a"), -3);
        check.same("10 letters of no sounds", Check.read(desk, "aaaaaaaaaa"), -12);
        check.same("9 letters of none, then one of one", Check.read(desk, "aaaaaaaaab"), 1);
        check.same("no sounds and a place", Check.read(desk, "aax"), -4);
    }

    private static void readOfMoreThan20(Check check) {
        check.sentence("or more than 20, neither (PLACE: its length).");
        SpokenDesk desk = new SpokenDesk();
        Check.rule(desk, "a", 1, 2, 3);
        Check.rule(desk, "b", 4, 5);
        Check.rule(desk, "e");
        check.same("20 sounds", Check.read(desk, "aaaaaab"), 20);
        check.row("20 sounds", Check.handOf(desk), 1, 2, 3, 1, 2, 3, 1, 2, 3, 1, 2, 3, 1, 2, 3, 1, 2, 3, 4, 5);
        check.same("20 sounds and none", Check.read(desk, "aaaaaabeee"), 20);
        check.same("21 sounds", Check.read(desk, "aaaaaaa"), -9);
        check.same("22 sounds", Check.read(desk, "baaaaaab"), -10);
        check.same("30 sounds", Check.read(desk, "aaaaaaaaaa"), -12);
        check.same("30 sounds, but for a place", Check.read(desk, "aaaaaaaaax"), -11);
        check.same("30 sounds, but by the book", bookInstead(desk), 1);
    }

    private static int bookInstead(SpokenDesk desk) {
        Check.book(desk, "aaaaaaaaaa", 7);
        return Check.read(desk, "aaaaaaaaaa");
    }
}
