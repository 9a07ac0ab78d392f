/** Promises 11 to 25, sentence by sentence: what is too small, too large, empty or full, and what then stays. */
public final class AnswerEdgesTest {
    private static final int LEAST = Integer.MIN_VALUE;
    private static final int MOST = Integer.MAX_VALUE;

    public static void main(String[] args) {
        Check check = new Check();
        grammarHowMany(check);
        grammarFault(check);
        grammarOfOddBytes(check);
        placeOfTheLatest(check);
        placeWithout(check);
        soundWithoutOne(check);
        soundOfNoCommand(check);
        pickAtAPoint(check);
        pickOfNoCommand(check);
        pickAtNoPoint(check);
        distanceOfTwo(check);
        distanceOfNoCommand(check);
        apartOfFewerThanTwo(check);
        pairWithoutOne(check);
        pairOfAnother(check);
        hearEmptiesTheHand(check);
        hearWithoutCommands(check);
        heardOfTheLatest(check);
        heardWithoutSecond(check);
        heardAheadOfAny(check);
        heardBehindAnotherGrammar(check);
        heardOfAnother(check);
        againRising(check);
        againWithoutOne(check);
        slotNumber(check);
        slotOf8(check);
        wordNumber(check);
        wordOfNoSpelling(check);
        wordThatCannotBe(check);
        wordOfNoSlot(check);
        wordOfOddBytes(check);
        wordOfAFullSlot(check);
        bestWithout(check);
        chosenWithout(check);
        chosenOfNoSlot(check);
        countOfEach(check);
        countOfOthers(check);
        check.end();
    }

    private static void grammarHowMany(Check check) {
        check.sentence("Promise 11: The first n bytes (empty then) are the GRAMMAR: how many COMMANDS");
        SpokenDesk desk = Check.lettered();
        desk.push(3);
        Check.tape(desk, "(a|b)(c|d) ! and what is behind");
        check.same("10 of 40 bytes", desk.grammar(10), 4);
        check.same("the tape is empty", desk.count(6), 0);
        check.row("the hand is left alone", Check.handOf(desk), 3);
        check.same("one", Check.grammar(desk, "a"), 1);
        check.same("120", Check.grammar(desk, "(a|b|c|d|e)(a|b|c|d)(a|b|c)(a|b)"), 120);
        check.same("400 bytes", Check.grammar(desk, "[a]" + " ".repeat(397)), 2);
    }

    private static void grammarFault(Check check) {
        check.sentence("Promise 11: or its FAULT less 10.");
        SpokenDesk desk = Check.lettered();
        String[] faulty = {"(", "abcdefghijk", "z", "a ".repeat(21), "[a]".repeat(7), "aaaaaaaaa ".repeat(5)};
        for (int k = 0; k < faulty.length; k++) {
            check.same("fault " + (k + 1), Check.grammar(desk, faulty[k]), k + 1 - 10);
            check.same("the tape is empty", desk.count(6), 0);
        }
        check.same("of no bytes", desk.grammar(0), -9);
        check.same("there is no grammar", desk.count(2), 0);
    }

    private static void grammarOfOddBytes(Check check) {
        check.sentence("Promise 11: IllegalArgumentException: n is not 0 to the TAPE's bytes");
        SpokenDesk desk = Check.lettered();
        check.illegal("1 of none", () -> desk.grammar(1));
        Check.tape(desk, "(a|b)");
        int[] none = {21, -1, 401, LEAST, MOST};
        for (int odd : none) {
            check.illegal(odd + " of 20", () -> desk.grammar(odd));
        }
        check.same("the tape stays", desk.count(6), 20);
        check.same("no grammar", desk.count(2), 0);
        check.same("its bytes are there", desk.grammar(5), 2);
        Check.tape(desk, "(a|b)");
        check.same("all of the 20 bytes", desk.grammar(20), -9);
        check.same("all of the 20 bytes", desk.place(), 5);
    }

    private static void placeOfTheLatest(Check check) {
        check.sentence("Promise 12: The place of the FAULT of the latest grammar()");
        SpokenDesk desk = Check.lettered();
        Check.grammar(desk, "a (");
        check.same("at the length", desk.place(), 3);
        check.same("asked again", desk.place(), 3);
        Check.grammar(desk, "a!");
        check.same("of the latest", desk.place(), 1);
        Check.read(desk, "az");
        desk.slot();
        Check.word(desk, 0, "aaz");
        check.same("not of read() or word()", desk.place(), 1);
        check.illegal("a refused grammar()", () -> desk.grammar(1));
        check.same("not of a refused one", desk.place(), 1);
        desk.grammar(0);
        check.same("at the length 0", desk.place(), 0);
        Check.grammar(desk, " ".repeat(400));
        check.same("at the length 400", desk.place(), 400);
    }

    private static void placeWithout(Check check) {
        check.sentence("Promise 12: NONE without.");
        SpokenDesk desk = Check.lettered();
        check.same("ahead of any grammar()", desk.place(), -1);
        Check.grammar(desk, "a");
        check.same("behind one without fault", desk.place(), -1);
        Check.grammar(desk, "!");
        check.same("a fault at 0", desk.place(), 0);
        Check.grammar(desk, "a");
        check.same("behind another without fault", desk.place(), -1);
    }

    private static void soundWithoutOne(Check check) {
        check.sentence("Promise 13: SOUND i of COMMAND k; NONE without one.");
        SpokenDesk desk = Check.lettered();
        Check.grammar(desk, "[pa]");
        check.same("the first", desk.sound(0, 0), 15);
        check.same("the last", desk.sound(0, 1), 0);
        int[] none = {2, -1, 39, 40, 41, LEAST, MOST};
        for (int odd : none) {
            check.same("sound " + odd, desk.sound(0, odd), -1);
            check.same("sound " + odd + " of one of none", desk.sound(1, odd), -1);
        }
        check.same("sound 0 of one of none", desk.sound(1, 0), -1);
        Check.grammar(desk, "aaaaaaaaaa bbbbbbbbbb cccccccccc dddddddddd");
        check.same("the 40th", desk.sound(0, 39), 3);
        check.same("no 41st", desk.sound(0, 40), -1);
        Check.grammar(desk, "(c|d)");
        check.same("not what an earlier grammar had", desk.sound(0, 1), -1);
        check.same("not the next command's", desk.sound(0, 40), -1);
    }

    private static void soundOfNoCommand(Check check) {
        check.sentence("Promise 13: IndexOutOfBoundsException: no such COMMAND (so below).");
        SpokenDesk desk = Check.lettered();
        check.outside("ahead of any grammar", () -> desk.sound(0, 0));
        Check.grammar(desk, "(");
        check.outside("behind one with a fault", () -> desk.sound(0, 0));
        Check.grammar(desk, "(a|b|c)");
        int[] none = {3, -1, 120, LEAST, MOST};
        for (int odd : none) {
            check.outside("command " + odd, () -> desk.sound(odd, 0));
            check.outside("command " + odd + ", no sound either", () -> desk.sound(odd, -1));
        }
        check.same("the last", desk.sound(2, 0), 2);
        Check.grammar(desk, "a");
        check.outside("one of an earlier grammar", () -> desk.sound(2, 0));
    }

    private static void pickAtAPoint(Check check) {
        check.sentence("Promise 14: The PICK of COMMAND k at a POINT.");
        SpokenDesk desk = Check.lettered();
        Check.grammar(desk, "(a|b|c)(d)[e|f]");
        check.same("first of the first", desk.pick(0, 0), 0);
        check.same("last of the last: none", desk.pick(8, 2), 2);
        check.same("last of the first", desk.pick(8, 0), 2);
        check.same("the only one", desk.pick(8, 1), 0);
        Check.grammar(desk, "(a)".repeat(8));
        check.same("the 8th point", desk.pick(0, 7), 0);
    }

    private static void pickOfNoCommand(Check check) {
        check.sentence("Promise 14: IndexOutOfBoundsException: no such COMMAND");
        SpokenDesk desk = Check.lettered();
        check.outside("ahead of any grammar", () -> desk.pick(0, 0));
        Check.grammar(desk, "(a|b)");
        int[] none = {2, -1, 120, LEAST, MOST};
        for (int odd : none) {
            check.outside("command " + odd, () -> desk.pick(odd, 0));
            check.outside("command " + odd + ", no point either", () -> desk.pick(odd, 1));
        }
        check.same("the last", desk.pick(1, 0), 1);
    }

    private static void pickAtNoPoint(Check check) {
        check.sentence("Promise 14: IllegalArgumentException: no such POINT.");
        SpokenDesk desk = Check.lettered();
        Check.grammar(desk, "(a)(b)");
        int[] none = {2, -1, 7, 8, LEAST, MOST};
        for (int odd : none) {
            check.illegal("point " + odd, () -> desk.pick(0, odd));
        }
        check.same("the last", desk.pick(0, 1), 0);
        Check.grammar(desk, "a");
        check.illegal("one of an earlier grammar", () -> desk.pick(0, 0));
    }

    private static void distanceOfTwo(Check check) {
        check.sentence("Promise 15: DISTANCE of two COMMANDS.");
        SpokenDesk desk = Check.lettered();
        Check.grammar(desk, "[ab|ac]");
        check.same("of one and itself", desk.distance(1, 1), 0);
        check.same("of one of no sounds and itself", desk.distance(2, 2), 0);
        check.same("of the first and the last", desk.distance(0, 2), 200);
        check.same("of the last and the first", desk.distance(2, 0), 200);
        Check.grammar(desk, "a");
        check.same("of the only one", desk.distance(0, 0), 0);
    }

    private static void distanceOfNoCommand(Check check) {
        check.sentence("Promise 15: IndexOutOfBoundsException: no such COMMAND");
        SpokenDesk desk = Check.lettered();
        check.outside("ahead of any grammar", () -> desk.distance(0, 0));
        Check.grammar(desk, "(a|b)");
        int[] none = {2, -1, 120, LEAST, MOST};
        for (int odd : none) {
            check.outside("the one: " + odd, () -> desk.distance(odd, 0));
            check.outside("the other: " + odd, () -> desk.distance(0, odd));
            check.outside("both: " + odd, () -> desk.distance(odd, odd));
        }
        check.same("the last and the first", desk.distance(1, 0), 100);
    }

    private static void apartOfFewerThanTwo(Check check) {
        check.sentence("Promise 16: APART; NONE: there are fewer than two COMMANDS.");
        SpokenDesk desk = Check.lettered();
        check.same("of none", desk.apart(), -1);
        Check.grammar(desk, "ab");
        check.same("of one", desk.apart(), -1);
        Check.grammar(desk, "[ab]");
        check.same("of two", desk.apart(), 200);
        Check.grammar(desk, "(ab|ab)");
        check.same("of two alike", desk.apart(), 0);
        Check.grammar(desk, "ab");
        check.same("of one again", desk.apart(), -1);
    }

    private static void pairWithoutOne(Check check) {
        check.sentence("Promise 17: The lower (0), the other one (1) of the PAIR; NONE without one.");
        SpokenDesk desk = Check.lettered();
        check.same("of none, the lower", desk.pair(0), -1);
        check.same("of none, the other one", desk.pair(1), -1);
        Check.grammar(desk, "a");
        check.same("of one, the lower", desk.pair(0), -1);
        check.same("of one, the other one", desk.pair(1), -1);
        Check.grammar(desk, "[a]");
        check.same("of two, the lower", desk.pair(0), 0);
        check.same("of two, the other one", desk.pair(1), 1);
        Check.grammar(desk, "a");
        check.same("of one again, the lower", desk.pair(0), -1);
        check.same("of one again, the other one", desk.pair(1), -1);
    }

    private static void pairOfAnother(Check check) {
        check.sentence("Promise 17: IllegalArgumentException: another which.");
        SpokenDesk desk = Check.lettered();
        int[] none = {2, -1, LEAST, MOST};
        for (int odd : none) {
            check.illegal("of none: " + odd, () -> desk.pair(odd));
        }
        Check.grammar(desk, "(a|b)");
        for (int odd : none) {
            check.illegal("of two: " + odd, () -> desk.pair(odd));
        }
    }

    private static void hearEmptiesTheHand(Check check) {
        check.sentence("Promise 18: The HAND (empty then) is HEARD: FIRST");
        SpokenDesk desk = Check.lettered();
        Check.grammar(desk, "[a|b]");
        desk.push(1);
        check.same("one sound", desk.hear(), 1);
        check.same("the hand is empty", desk.count(5), 0);
        check.same("an empty hand", desk.hear(), 2);
        check.same("an empty hand's distance", desk.heard(1), 0);
        Check.pushAll(desk, new int[40]);
        desk.feed(0, 0, 0, 0, 0);
        check.same("a full hand", desk.hear(), 0);
        check.same("a full hand's distance", desk.heard(1), 3900);
        check.same("the hand is empty", desk.count(5), 0);
        check.same("the tape stays", desk.count(6), 20);
    }

    private static void hearWithoutCommands(Check check) {
        check.sentence("Promise 18: NONE, and the HAND stays: there are no COMMANDS.");
        SpokenDesk desk = Check.lettered();
        check.same("an empty hand", desk.hear(), -1);
        Check.pushAll(desk, 3, 4);
        check.same("no grammar", desk.hear(), -1);
        check.row("the hand stays", Check.handOf(desk), 3, 4);
        Check.grammar(desk, "(a|b");
        check.same("none but one with a fault", desk.hear(), -1);
        check.row("the hand stays", Check.handOf(desk), 3, 4);
        check.same("nothing was heard", desk.heard(0), -1);
    }

    private static void heardRow(Check check, SpokenDesk desk, String name, int... due) {
        for (int what = 0; what < due.length; what++) {
            check.same(name + ", heard " + what, desk.heard(what), due[what]);
        }
    }

    private static void heardOfTheLatest(Check check) {
        check.sentence("Promise 19: Of the latest hear() that told one, as it was: 0 FIRST, 1 its DISTANCE, "
                + "2 SECOND, 3 its DISTANCE, 4 GAP");
        SpokenDesk desk = Check.lettered();
        Check.grammar(desk, "(a|b|cc)");
        desk.push(1);
        desk.hear();
        heardRow(check, desk, "one", 1, 0, 0, 100, 100, 1);
        Check.pushAll(desk, 2, 2);
        desk.hear();
        heardRow(check, desk, "the latest", 2, 0, 0, 200, 200, 1);
        desk.cost(0, 2, 1);
        desk.cost(2, -1, 1);
        desk.push(5);
        Check.grammar(desk, "(a|b");
        Check.rule(desk, "a", 9);
        heardRow(check, desk, "as it was", 2, 0, 0, 200, 200, 1);
        check.same("again as it was", desk.again(0), 0);
    }

    private static void heardWithoutSecond(Check check) {
        check.sentence("Promise 19: (2 to 4: NONE without SECOND), 5 how many POINTS are to be asked again "
                + "(0 without).");
        SpokenDesk desk = Check.lettered();
        Check.grammar(desk, "a(b)");
        desk.push(0);
        check.same("the only one", desk.hear(), 0);
        heardRow(check, desk, "the only one", 0, 100, -1, -1, -1, 0);
        Check.grammar(desk, "(a)[b]");
        desk.push(0);
        desk.hear();
        heardRow(check, desk, "with a second", 1, 0, 0, 100, 100, 1);
        Check.grammar(desk, "a(b)");
        desk.hear();
        heardRow(check, desk, "the only one again", 0, 200, -1, -1, -1, 0);
    }

    private static void heardAheadOfAny(Check check) {
        check.sentence("Promise 19: NONE ahead of any");
        SpokenDesk desk = Check.lettered();
        heardRow(check, desk, "at first", -1, -1, -1, -1, -1, -1);
        desk.hear();
        heardRow(check, desk, "behind a hear() that told none", -1, -1, -1, -1, -1, -1);
        Check.grammar(desk, "(a|b)");
        heardRow(check, desk, "with a grammar", -1, -1, -1, -1, -1, -1);
    }

    private static void heardBehindAnotherGrammar(Check check) {
        check.sentence("Promise 19: NONE .. and behind another GRAMMAR.");
        SpokenDesk desk = Check.lettered();
        Check.grammar(desk, "(a|b)");
        desk.push(0);
        desk.hear();
        Check.grammar(desk, "(a|b");
        heardRow(check, desk, "behind a fault", 0, 0, 1, 100, 100, 1);
        check.illegal("a refused grammar()", () -> desk.grammar(1));
        heardRow(check, desk, "behind a refused one", 0, 0, 1, 100, 100, 1);
        Check.grammar(desk, "(a|b)");
        heardRow(check, desk, "behind the same text", -1, -1, -1, -1, -1, -1);
        check.same("again", desk.again(0), -1);
        desk.hear();
        heardRow(check, desk, "heard anew", 0, 100, 1, 100, 0, 1);
    }

    private static void heardOfAnother(Check check) {
        check.sentence("Promise 19: IllegalArgumentException: another what.");
        SpokenDesk desk = Check.lettered();
        int[] none = {6, -1, LEAST, MOST};
        for (int odd : none) {
            check.illegal("ahead of any: " + odd, () -> desk.heard(odd));
        }
        Check.grammar(desk, "(a|b)");
        desk.hear();
        for (int odd : none) {
            check.illegal("behind one: " + odd, () -> desk.heard(odd));
        }
    }

    private static void againRising(Check check) {
        check.sentence("Promise 20: The k-th POINT to be asked again, rising");
        SpokenDesk desk = Check.lettered();
        Check.grammar(desk, "(a|bb)(c)[dd|e](f)((g)|h)");
        desk.cost(0, 1, 1);
        desk.cost(1, -1, 1);
        desk.cost(6, 7, 1);
        Check.pushAll(desk, 0, 2, 5, 6);
        check.same("first", desk.hear(), 4);
        check.same("second", desk.heard(2), 5);
        check.row("the last points", Check.againOf(desk), 4, 5);
        desk.cost(6, 7, 100);
        desk.cost(3, 4, 1);
        Check.pushAll(desk, 0, 2, 5, 6);
        check.same("first", desk.hear(), 4);
        check.same("second", desk.heard(2), 10);
        check.row("the first point", Check.againOf(desk), 0);
        check.same("no second point", desk.again(1), -1);
        Check.grammar(desk, "[[[[[[[[a]]]]]]]]");
        desk.push(0);
        desk.hear();
        check.row("the 8th point", Check.againOf(desk), 7);
    }

    private static void againWithoutOne(Check check) {
        check.sentence("Promise 20: NONE without one.");
        SpokenDesk desk = Check.lettered();
        check.same("ahead of any", desk.again(0), -1);
        Check.grammar(desk, "(a)[[b]]");
        desk.push(0);
        check.same("first", desk.hear(), 1);
        check.row("two points", Check.againOf(desk), 1, 2);
        int[] none = {2, -1, 7, 8, LEAST, MOST};
        for (int odd : none) {
            check.same("again " + odd, desk.again(odd), -1);
        }
        Check.grammar(desk, "(a)");
        check.same("behind another grammar", desk.again(0), -1);
        desk.hear();
        check.same("without a second", desk.again(0), -1);
    }

    private static void slotNumber(Check check) {
        check.sentence("Promise 21: A SLOT: its number.");
        SpokenDesk desk = new SpokenDesk();
        for (int k = 0; k < 8; k++) {
            check.same("slot", desk.slot(), k);
            check.same("how many", desk.count(4), k + 1);
        }
    }

    private static void slotOf8(Check check) {
        check.sentence("Promise 21: IllegalStateException: there are 8.");
        SpokenDesk desk = Check.lettered();
        for (int k = 0; k < 8; k++) {
            desk.slot();
            Check.word(desk, k, "" + (char) ('a' + k));
        }
        check.same("best of 8", desk.best(), 100);
        check.state("a 9th", desk::slot);
        check.state("a 9th again", desk::slot);
        check.same("there are 8", desk.count(4), 8);
        check.same("best of 8 still", desk.best(), 100);
        check.outside("no 9th to choose of", () -> desk.chosen(8));
    }

    private static void wordNumber(Check check) {
        check.sentence("Promise 22: The first n bytes (empty then) are READ as a WORD of a SLOT: its number");
        SpokenDesk desk = Check.lettered();
        desk.slot();
        desk.slot();
        Check.pushAll(desk, 7, 8);
        Check.tape(desk, "abcdefghijklmnopqrstuvwxyz");
        check.same("2 of 40 bytes", desk.word(1, 2), 0);
        check.same("the tape is empty", desk.count(6), 0);
        check.row("the hand is left alone", Check.handOf(desk), 7, 8);
        check.same("the first of another slot", Check.word(desk, 0, "cde"), 0);
        check.same("only two were read", desk.best(), 300);
        check.same("the second", Check.word(desk, 1, "a"), 1);
        check.same("the third", Check.word(desk, 1, "a"), 2);
        check.same("the fourth", Check.word(desk, 1, "a"), 3);
    }

    private static void wordOfNoSpelling(Check check) {
        check.sentence("Promise 22: -1: no SPELLING");
        SpokenDesk desk = Check.lettered();
        desk.slot();
        String[] none = {"", "abcdefghijk", "a b", "A", "a ", " a"};
        for (String text : none) {
            check.same("'" + text + "'", Check.word(desk, 0, text), -1);
            check.same("the tape is empty behind '" + text + "'", desk.count(6), 0);
        }
        check.same("the slot is still empty", Check.word(desk, 0, "abcdefghij"), 0);
    }

    private static void wordThatCannotBe(Check check) {
        check.sentence("Promise 22: -2 less the PLACE: it can't be.");
        SpokenDesk desk = Check.lettered();
        Check.rule(desk, "s");
        Check.rule(desk, "t", 1, 2, 3);
        desk.slot();
        desk.push(7);
        String[] none = {"z", "az", "aaaaaaaaaz", "s", "ssssssssss", "ttttttt", "tttttttttt"};
        int[] due = {-2, -3, -11, -3, -12, -9, -12};
        for (int k = 0; k < none.length; k++) {
            check.same("'" + none[k] + "'", Check.word(desk, 0, none[k]), due[k]);
            check.same("the tape is empty behind '" + none[k] + "'", desk.count(6), 0);
        }
        check.row("the hand is left alone", Check.handOf(desk), 7);
        check.same("the slot is still empty", Check.word(desk, 0, "ttttttaa"), 0);
    }

    private static void wordOfNoSlot(Check check) {
        check.sentence("Promise 22: IndexOutOfBoundsException: no such SLOT");
        SpokenDesk desk = Check.lettered();
        Check.tape(desk, "a");
        check.outside("there are none", () -> desk.word(0, 1));
        desk.slot();
        desk.slot();
        int[] none = {2, -1, 7, 8, LEAST, MOST};
        for (int odd : none) {
            check.outside("slot " + odd, () -> desk.word(odd, 1));
            check.outside("slot " + odd + ", and too many bytes", () -> desk.word(odd, 21));
        }
        check.same("the tape stays", desk.count(6), 20);
        check.same("its bytes are there", desk.word(1, 1), 0);
    }

    private static void wordOfOddBytes(Check check) {
        check.sentence("Promise 22: IllegalArgumentException likewise");
        SpokenDesk desk = Check.lettered();
        desk.slot();
        check.illegal("1 of none", () -> desk.word(0, 1));
        check.same("0 of none", desk.word(0, 0), -1);
        Check.tape(desk, "ab");
        int[] none = {21, -1, 401, LEAST, MOST};
        for (int odd : none) {
            check.illegal(odd + " of 20", () -> desk.word(0, odd));
        }
        check.same("the tape stays", desk.count(6), 20);
        check.same("its bytes are there", desk.word(0, 2), 0);
        for (int k = 0; k < 3; k++) {
            Check.word(desk, 0, "a");
        }
        check.illegal("of a full slot, too", () -> desk.word(0, 1));
    }

    private static void wordOfAFullSlot(Check check) {
        check.sentence("Promise 22: IllegalStateException: it has 4.");
        SpokenDesk desk = Check.lettered();
        desk.slot();
        desk.slot();
        for (int k = 0; k < 4; k++) {
            check.same("word " + k, Check.word(desk, 0, "a"), k);
        }
        Check.tape(desk, "bb");
        check.state("a 5th", () -> desk.word(0, 2));
        check.state("a 5th that is no spelling", () -> desk.word(0, 0));
        check.state("a 5th of all the bytes", () -> desk.word(0, 20));
        check.same("the tape stays", desk.count(6), 20);
        check.same("its bytes are for the other slot", desk.word(1, 2), 0);
        check.same("the 4 are as they were", desk.best(), 200);
        check.same("the 4 are as they were", desk.chosen(0), 0);
    }

    private static void bestWithout(Check check) {
        check.sentence("Promise 23: BEST's WORTH; NONE: there are fewer than two SLOTS, or one without WORDS.");
        SpokenDesk desk = Check.lettered();
        check.same("no slots", desk.best(), -1);
        desk.slot();
        check.same("one slot without words", desk.best(), -1);
        Check.word(desk, 0, "a");
        check.same("one slot with a word", desk.best(), -1);
        desk.slot();
        check.same("the latter without words", desk.best(), -1);
        Check.word(desk, 1, "bb");
        check.same("two slots with a word each", desk.best(), 200);
        desk.slot();
        check.same("a third one without words", desk.best(), -1);
        Check.word(desk, 2, "a b");
        check.same("a third one whose word was none", desk.best(), -1);
        Check.word(desk, 2, "a");
        check.same("a third one with the word of the first", desk.best(), 0);
        SpokenDesk other = Check.lettered();
        other.slot();
        other.slot();
        Check.word(other, 1, "a");
        check.same("the former without words", other.best(), -1);
    }

    private static void chosenWithout(Check check) {
        check.sentence("Promise 24: The WORD that BEST takes of a SLOT; NONE as best().");
        SpokenDesk desk = Check.lettered();
        desk.slot();
        check.same("one slot without words", desk.chosen(0), -1);
        Check.word(desk, 0, "a");
        check.same("one slot with a word", desk.chosen(0), -1);
        desk.slot();
        check.same("of the one with a word", desk.chosen(0), -1);
        check.same("of the one without words", desk.chosen(1), -1);
        Check.word(desk, 1, "a");
        Check.word(desk, 1, "b");
        check.same("of two with words", desk.chosen(0), 0);
        check.same("of two with words", desk.chosen(1), 1);
        desk.slot();
        check.same("a third one without words", desk.chosen(0), -1);
        check.same("a third one without words", desk.chosen(1), -1);
        check.same("a third one without words", desk.chosen(2), -1);
    }

    private static void chosenOfNoSlot(Check check) {
        check.sentence("Promise 24: IndexOutOfBoundsException: no such SLOT.");
        SpokenDesk desk = Check.lettered();
        check.outside("there are none", () -> desk.chosen(0));
        desk.slot();
        desk.slot();
        int[] none = {2, -1, 7, 8, LEAST, MOST};
        for (int odd : none) {
            check.outside("slot " + odd + " without words", () -> desk.chosen(odd));
        }
        Check.word(desk, 0, "a");
        Check.word(desk, 1, "b");
        for (int odd : none) {
            check.outside("slot " + odd, () -> desk.chosen(odd));
        }
        check.same("the last", desk.chosen(1), 0);
    }

    private static void countOfEach(Check check) {
        check.sentence("Promise 25: 0 RULES, 1 SPELLINGS in the BOOK, 2 COMMANDS, 3 POINTS of the GRAMMAR, 4 "
                + "SLOTS, 5 SOUNDS in the HAND, 6 bytes of the TAPE");
        SpokenDesk desk = Check.lettered();
        Check.book(desk, "x", 1);
        Check.book(desk, "y", 1);
        Check.grammar(desk, "[a|b](c)(d)");
        for (int k = 0; k < 5; k++) {
            desk.slot();
        }
        Check.pushAll(desk, 1, 2, 3, 4, 5, 6);
        Check.tape(desk, " ".repeat(400));
        int[] due = {16, 2, 3, 3, 5, 6, 400};
        for (int what = 0; what < due.length; what++) {
            check.same("count " + what, desk.count(what), due[what]);
        }
        desk.drop();
        desk.grammar(0);
        check.same("an empty hand", desk.count(5), 0);
        check.same("an empty tape", desk.count(6), 0);
        check.same("the grammar ahead of the fault", desk.count(2), 3);
        Check.grammar(desk, "a");
        check.same("no points", desk.count(3), 0);
    }

    private static void countOfOthers(Check check) {
        check.sentence("Promise 25: NONE for others.");
        SpokenDesk desk = Check.lettered();
        int[] none = {7, -1, 8, LEAST, MOST};
        for (int odd : none) {
            check.same("count " + odd, desk.count(odd), -1);
        }
    }
}
