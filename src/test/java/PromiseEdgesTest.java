/** Promises 1 to 10, sentence by sentence: what is too small, too large, empty or full, and what then stays. */
public final class PromiseEdgesTest {
    private static final int LEAST = Integer.MIN_VALUE;
    private static final int MOST = Integer.MAX_VALUE;

    public static void main(String[] args) {
        Check check = new Check();
        newObject(check);
        newObjectBesideAnother(check);
        objectFor512Calls(check);
        costWas(check);
        costOfNoSound(check);
        costOfTheSame(check);
        costNot1To100(check);
        nearOfNoSound(check);
        pushHowMany(check);
        pushInAFullHand(check);
        pushOfNoSound(check);
        dropHowMany(check);
        handOutside(check);
        feedHighestFirst(check);
        feedHowMany(check);
        feedTooMuch(check);
        ruleEmptiesBoth(check);
        ruleThatIsNone(check);
        ruleOfTooMany(check);
        ruleOf60Others(check);
        ruleOfOddBytes(check);
        bookEmptiesBoth(check);
        bookThatIsNone(check);
        bookOf40Others(check);
        bookOfOddBytes(check);
        readIntoTheHand(check);
        readOfNoSpelling(check);
        readThatCannotBe(check);
        readOfOddBytes(check);
        check.end();
    }

    private static void newObject(Check check) {
        check.sentence("Promise 1: All COSTS 100; nothing else.");
        SpokenDesk desk = new SpokenDesk();
        for (int what = 0; what < 7; what++) {
            check.same("count " + what, desk.count(what), 0);
        }
        for (int what = 0; what < 6; what++) {
            check.same("heard " + what, desk.heard(what), -1);
        }
        check.same("hand", desk.hand(0), -1);
        check.same("place", desk.place(), -1);
        check.same("apart", desk.apart(), -1);
        check.same("the lower", desk.pair(0), -1);
        check.same("the other one", desk.pair(1), -1);
        check.same("again", desk.again(0), -1);
        check.same("best", desk.best(), -1);
        check.same("hear", desk.hear(), -1);
        check.same("drop", desk.drop(), 0);
        check.outside("sound", () -> desk.sound(0, 0));
        check.outside("pick", () -> desk.pick(0, 0));
        check.outside("distance", () -> desk.distance(0, 0));
        check.outside("chosen", () -> desk.chosen(0));
        check.outside("word", () -> desk.word(0, 0));
        check.illegal("read", () -> desk.read(1));
        for (int y = 0; y < 16; y++) {
            check.same("cost of nothing and " + y, desk.cost(-1, y, 100), 100);
            check.same("cost of 15 and another", desk.cost(15, y - 1, 100), 100);
        }
    }

    private static void newObjectBesideAnother(Check check) {
        check.sentence("Promise 1: A new object (whatever became of another one)");
        SpokenDesk used = Check.lettered();
        used.cost(0, 1, 1);
        Check.book(used, "ab", 1);
        Check.grammar(used, "(a|b)");
        used.hear();
        used.slot();
        used.push(1);
        Check.tape(used, "a");
        SpokenDesk desk = new SpokenDesk();
        for (int what = 0; what < 7; what++) {
            check.same("count " + what, desk.count(what), 0);
        }
        check.same("heard", desk.heard(0), -1);
        check.same("near", desk.near(0, 1), 100);
        check.same("the used one has its own", used.near(0, 1), 1);
        check.same("the used one has its own", used.count(0), 16);
    }

    private static void objectFor512Calls(Check check) {
        check.sentence("An object is used for at most 512 calls after it has been made");
        SpokenDesk desk = new SpokenDesk();
        for (int k = 1; k <= 510; k++) {
            int was = k <= 17 ? 100 : 1 + (k - 17) % 99;
            check.same("call " + k, desk.cost(k % 17 - 1, (k + 5) % 17 - 1, 1 + k % 99), was);
        }
        check.same("call 511", desk.near(0, 5), near512());
        check.same("call 512", desk.push(15), 1);
    }

    /** The least sum of the costs that 510 calls told last, by going round once and again. */
    private static int near512() {
        int[][] sums = new int[17][17];
        for (int[] row : sums) {
            java.util.Arrays.fill(row, 100);
        }
        for (int k = 1; k <= 510; k++) {
            sums[k % 17][(k + 5) % 17] = 1 + k % 99;
            sums[(k + 5) % 17][k % 17] = 1 + k % 99;
        }
        for (int round = 0; round < 17 * 17 * 17 * 17; round++) {
            int x = round % 17;
            int y = round / 17 % 17;
            int by = round / 289 % 17;
            sums[x][y] = Math.min(sums[x][y], sums[x][by] + sums[by][y]);
        }
        return sums[1][6];
    }

    private static void costWas(Check check) {
        check.sentence("Promise 2: The COST of two: what it was.");
        SpokenDesk desk = new SpokenDesk();
        check.same("at first", desk.cost(-1, 15, 1), 100);
        check.same("the least", desk.cost(-1, 15, 100), 1);
        check.same("the greatest", desk.cost(-1, 15, 100), 100);
        check.same("the same again", desk.cost(15, -1, 42), 100);
        check.same("the other way", desk.cost(-1, 15, 43), 42);
        desk.cost(0, 1, 2);
        desk.cost(1, 2, 2);
        check.same("not what is near", desk.cost(0, 2, 50), 100);
        check.same("not what is near", desk.cost(2, 0, 50), 50);
        check.same("what is near", desk.near(0, 2), 4);
    }

    private static void costOfNoSound(Check check) {
        check.sentence("Promise 2: IllegalArgumentException: one is not -1 to 15");
        SpokenDesk desk = new SpokenDesk();
        int[] none = {-2, 16, LEAST, MOST, -17, 17};
        for (int odd : none) {
            check.illegal("the one: " + odd, () -> desk.cost(odd, 3, 50));
            check.illegal("the other: " + odd, () -> desk.cost(3, odd, 50));
            check.illegal("both: " + odd, () -> desk.cost(odd, odd, 50));
        }
        check.same("the lowest and the highest", desk.cost(-1, 15, 50), 100);
        check.same("the highest and the lowest", desk.cost(15, -1, 50), 50);
        for (int y = -1; y < 16; y++) {
            check.same("no cost was changed", desk.near(3, y), y == 3 ? 0 : 100);
        }
    }

    private static void costOfTheSame(Check check) {
        check.sentence("Promise 2: IllegalArgumentException: .. they are the same");
        SpokenDesk desk = new SpokenDesk();
        for (int x = -1; x < 16; x++) {
            int same = x;
            check.illegal("of " + x + " and itself", () -> desk.cost(same, same, 50));
            check.same("near stays 0", desk.near(x, x), 0);
        }
    }

    private static void costNot1To100(Check check) {
        check.sentence("Promise 2: IllegalArgumentException: .. or the COST is not 1 to 100.");
        SpokenDesk desk = new SpokenDesk();
        int[] none = {0, 101, -1, LEAST, MOST, 257};
        for (int odd : none) {
            check.illegal("cost " + odd, () -> desk.cost(3, 4, odd));
        }
        check.same("near is as it was", desk.near(3, 4), 100);
        check.same("the cost is as it was", desk.cost(3, 4, 1), 100);
        check.same("1 is fine", desk.cost(3, 4, 100), 1);
        check.same("100 is fine", desk.near(3, 4), 100);
    }

    private static void nearOfNoSound(Check check) {
        check.sentence("Promise 3: NEAR. IllegalArgumentException: one is not -1 to 15.");
        SpokenDesk desk = new SpokenDesk();
        int[] none = {-2, 16, LEAST, MOST};
        for (int odd : none) {
            check.illegal("the one: " + odd, () -> desk.near(odd, 3));
            check.illegal("the other: " + odd, () -> desk.near(3, odd));
            check.illegal("the same: " + odd, () -> desk.near(odd, odd));
        }
        check.same("the lowest and the highest", desk.near(-1, 15), 100);
        check.same("the highest and the lowest", desk.near(15, -1), 100);
        check.same("the lowest itself", desk.near(-1, -1), 0);
        check.same("the highest itself", desk.near(15, 15), 0);
    }

    private static void pushHowMany(Check check) {
        check.sentence("Promise 4: A SOUND is pushed: how many the HAND has");
        SpokenDesk desk = new SpokenDesk();
        for (int k = 0; k < 40; k++) {
            check.same("push " + k, desk.push(15 - k % 16), k + 1);
        }
        desk.drop();
        check.same("anew", desk.push(0), 1);
    }

    private static void pushInAFullHand(Check check) {
        check.sentence("Promise 4: NONE, doing nothing: it has 40.");
        SpokenDesk desk = new SpokenDesk();
        for (int k = 0; k < 40; k++) {
            desk.push(k % 16);
        }
        check.same("the 41st", desk.push(15), -1);
        check.same("the 42nd", desk.push(0), -1);
        check.same("there are 40", desk.count(5), 40);
        for (int k = 0; k < 40; k++) {
            check.same("sound " + k, desk.hand(k), k % 16);
        }
        check.same("no 41st", desk.hand(40), -1);
        check.same("there were 40", desk.drop(), 40);
        check.same("room again", desk.push(5), 1);
        check.same("the new one", desk.hand(0), 5);
    }

    private static void pushOfNoSound(Check check) {
        check.sentence("Promise 4: IllegalArgumentException: no such SOUND.");
        SpokenDesk desk = new SpokenDesk();
        int[] none = {-1, 16, -2, LEAST, MOST, 256};
        for (int odd : none) {
            check.illegal("push " + odd, () -> desk.push(odd));
        }
        check.same("nothing was pushed", desk.count(5), 0);
        check.same("0 is one", desk.push(0), 1);
        check.same("15 is one", desk.push(15), 2);
    }

    private static void dropHowMany(Check check) {
        check.sentence("Promise 5: The HAND is empty: how many it had.");
        SpokenDesk desk = new SpokenDesk();
        check.same("none", desk.drop(), 0);
        desk.push(3);
        check.same("one", desk.drop(), 1);
        check.same("it is empty", desk.count(5), 0);
        check.same("no sound", desk.hand(0), -1);
        check.same("none then", desk.drop(), 0);
        for (int k = 0; k < 40; k++) {
            desk.push(1);
        }
        desk.feed(0, 0, 0, 0, 0);
        check.same("forty", desk.drop(), 40);
        check.same("the tape stays", desk.count(6), 20);
    }

    private static void handOutside(Check check) {
        check.sentence("Promise 6: SOUND k of the HAND; NONE.");
        SpokenDesk desk = new SpokenDesk();
        check.same("of an empty hand", desk.hand(0), -1);
        desk.push(7);
        desk.push(0);
        check.same("the first", desk.hand(0), 7);
        check.same("the last", desk.hand(1), 0);
        int[] none = {2, -1, 39, 40, 41, LEAST, MOST};
        for (int odd : none) {
            check.same("hand " + odd, desk.hand(odd), -1);
        }
        desk.drop();
        check.same("what was dropped", desk.hand(0), -1);
        desk.push(4);
        check.same("behind what was dropped", desk.hand(1), -1);
    }

    private static void feedHighestFirst(Check check) {
        check.sentence("Promise 7: Twenty bytes come on the TAPE, of each number the highest first");
        SpokenDesk desk = Check.lettered();
        desk.feed(0x61206220, 0x63206420, 0x65206620, 0x67206820, 0x69206a20);
        check.same("all of the five numbers", desk.grammar(20), 1);
        check.row("in their order", Check.soundsOf(desk, 0), 0, 1, 2, 3, 4, 5, 6, 7, 8, 9);
        desk.feed(0x20202020, 0x20202020, 0x20202020, 0x20202020, 0x61626364);
        desk.feed(0x65666768, 0x20202020, 0x20202020, 0x20202020, 0x20202020);
        check.same("one feed behind another", desk.grammar(40), 1);
        check.row("one feed behind another", Check.soundsOf(desk, 0), 0, 1, 2, 3, 4, 5, 6, 7);
        int[][] odd = {{0xff202020, 0}, {0x20ff2020, 1}, {0x2020ff20, 2}, {0x202020ff, 3}, {0x202020e1, 3},
            {LEAST | 0x202020, 0}, {0x00202020, 0}, {0x20202000, 3}, {-1, 0}, {MOST, 0}, {LEAST, 0}};
        for (int[] row : odd) {
            desk.feed(row[0], 0, 0, 0, 0);
            check.same("a byte that is no sign", desk.grammar(4), -9);
            check.same("where it is in " + row[0], desk.place(), row[1]);
        }
    }

    private static void feedHowMany(Check check) {
        check.sentence("Promise 7: how many there are");
        SpokenDesk desk = new SpokenDesk();
        for (int k = 1; k <= 20; k++) {
            check.same("feed " + k, desk.feed(0, 0, 0, 0, 0), 20 * k);
        }
        desk.read(0);
        check.same("anew", desk.feed(0, 0, 0, 0, 0), 20);
    }

    private static void feedTooMuch(Check check) {
        check.sentence("Promise 7: NONE, doing nothing, if there would be more than 400.");
        SpokenDesk desk = Check.lettered();
        Check.tape(desk, "a" + " ".repeat(398) + "b");
        check.same("there are 400", desk.count(6), 400);
        check.same("a 21st feed", desk.feed(0x21212121, 0x21212121, 0x21212121, 0x21212121, 0x21212121), -1);
        check.same("a 22nd feed", desk.feed(0, 0, 0, 0, 0), -1);
        check.same("there are still 400", desk.count(6), 400);
        check.same("the bytes are as they were", desk.grammar(400), 1);
        check.row("the bytes are as they were", Check.soundsOf(desk, 0), 0, 1);
        check.same("room again", desk.feed(0, 0, 0, 0, 0), 20);
    }

    private static void ruleEmptiesBoth(Check check) {
        check.sentence("Promise 8: The first n bytes of the TAPE (empty then) and the HAND (empty then) are "
                + "a RULE: how many there are");
        SpokenDesk desk = new SpokenDesk();
        desk.feed(0x61626364, 0, 0, 0, 0);
        desk.feed(0, 0, 0, 0, 0);
        Check.pushAll(desk, 5, 6, 7);
        check.same("2 of 40 bytes", desk.rule(2), 1);
        check.same("the tape is empty", desk.count(6), 0);
        check.same("the hand is empty", desk.count(5), 0);
        check.same("the first two are read", Check.read(desk, "ab"), 3);
        check.same("no more than two", Check.read(desk, "abc"), -4);
        Check.tape(desk, "b");
        desk.drop();
        check.same("of an empty hand", desk.rule(1), 2);
        check.same("told again: as many", Check.rule(desk, "b", 1), 2);
        check.same("another", Check.rule(desk, "c", 1), 3);
    }

    private static void ruleThatIsNone(Check check) {
        check.sentence("Promise 8: -1 (TAPE and HAND empty, too): no SPELLING of 1 to 4 letters");
        SpokenDesk desk = new SpokenDesk();
        String[] none = {"", "abcde", "A", "a b", " a", "a ", "ab1"};
        for (String text : none) {
            Check.pushAll(desk, 1, 2);
            check.same("'" + text + "'", desk.rule(Check.tape(desk, text)), -1);
            check.same("the tape is empty behind '" + text + "'", desk.count(6), 0);
            check.same("the hand is empty behind '" + text + "'", desk.count(5), 0);
            check.same("no rule behind '" + text + "'", desk.count(0), 0);
        }
        check.same("an empty tape has 0 bytes", desk.rule(0), -1);
    }

    private static void ruleOfTooMany(Check check) {
        check.sentence("Promise 8: -1 (TAPE and HAND empty, too): .. or more than 3 SOUNDS");
        SpokenDesk desk = new SpokenDesk();
        int[] many = {4, 5, 40};
        for (int k : many) {
            for (int i = 0; i < k; i++) {
                desk.push(1);
            }
            check.same(k + " sounds", desk.rule(Check.tape(desk, "a")), -1);
            check.same("the tape is empty", desk.count(6), 0);
            check.same("the hand is empty", desk.count(5), 0);
            check.same("no rule", desk.count(0), 0);
        }
        Check.pushAll(desk, 1, 2, 3);
        check.same("3 sounds", desk.rule(Check.tape(desk, "a")), 1);
    }

    /** Two letters, another pair for each number below 676. */
    private static String name(int k) {
        return "" + (char) ('a' + k / 26) + (char) ('a' + k % 26);
    }

    private static void ruleOf60Others(Check check) {
        check.sentence("Promise 8: -2: there are 60 others.");
        SpokenDesk desk = new SpokenDesk();
        for (int k = 0; k < 60; k++) {
            desk.push(k % 16);
            check.same("rule " + k, desk.rule(Check.tape(desk, name(k))), k + 1);
        }
        desk.push(1);
        check.same("a 61st", desk.rule(Check.tape(desk, "z")), -2);
        check.same("the tape is empty", desk.count(6), 0);
        check.same("the hand is empty", desk.count(5), 0);
        check.same("there are 60", desk.count(0), 60);
        check.same("it is not read", Check.read(desk, "z"), -2);
        check.same("59 others and itself", Check.rule(desk, name(30), 9), 60);
        check.same("its later row", Check.read(desk, name(30)), 1);
        check.row("its later row", Check.handOf(desk), 9);
        check.same("60 others, and no spelling", Check.rule(desk, "z!", 1), -1);
        check.same("60 others, and 4 sounds", Check.rule(desk, "z", 1, 1, 1, 1), -1);
    }

    private static void ruleOfOddBytes(Check check) {
        check.sentence("Promise 8: IllegalArgumentException: n is not 0 to the TAPE's bytes");
        SpokenDesk desk = new SpokenDesk();
        check.illegal("1 of none", () -> desk.rule(1));
        check.illegal("-1 of none", () -> desk.rule(-1));
        Check.tape(desk, "a");
        desk.push(3);
        int[] none = {21, -1, 401, LEAST, MOST};
        for (int odd : none) {
            check.illegal(odd + " of 20", () -> desk.rule(odd));
        }
        check.same("the tape stays", desk.count(6), 20);
        check.same("the hand stays", desk.count(5), 1);
        check.same("its first byte is there", desk.rule(1), 1);
        Check.tape(desk, "a");
        check.same("all of the 20 bytes", desk.rule(20), -1);
        Check.tape(desk, "a");
        check.same("none of the 20 bytes", desk.rule(0), -1);
        check.same("the tape is empty", desk.count(6), 0);
    }

    private static void bookEmptiesBoth(Check check) {
        check.sentence("Promise 9: Likewise for the BOOK: how many SPELLINGS it has");
        SpokenDesk desk = new SpokenDesk();
        Check.tape(desk, "abcdefghijklmnopqrstuvwxyz");
        Check.pushAll(desk, new int[20]);
        check.same("10 of 40 bytes", desk.book(10), 1);
        check.same("the tape is empty", desk.count(6), 0);
        check.same("the hand is empty", desk.count(5), 0);
        check.same("the first ten are read", Check.read(desk, "abcdefghij"), 20);
        check.same("another", Check.book(desk, "a", 1), 2);
        check.same("told again: as many", Check.book(desk, "a", 2), 2);
        check.same("no rules by it", desk.count(0), 0);
    }

    private static void bookThatIsNone(Check check) {
        check.sentence("Promise 9: -1: no SPELLING, or not 1 to 20 SOUNDS");
        SpokenDesk desk = new SpokenDesk();
        String[] none = {"", "abcdefghijk", "A", "a b", "a1"};
        for (String text : none) {
            desk.push(1);
            check.same("'" + text + "'", desk.book(Check.tape(desk, text)), -1);
            check.same("the tape is empty behind '" + text + "'", desk.count(6), 0);
            check.same("the hand is empty behind '" + text + "'", desk.count(5), 0);
        }
        int[] many = {0, 21, 40};
        for (int k : many) {
            Check.pushAll(desk, new int[k]);
            check.same(k + " sounds", desk.book(Check.tape(desk, "a")), -1);
            check.same("the tape is empty behind " + k, desk.count(6), 0);
            check.same("the hand is empty behind " + k, desk.count(5), 0);
        }
        check.same("the book is empty", desk.count(1), 0);
        check.same("1 sound", Check.book(desk, "a", 1), 1);
        check.same("20 sounds", Check.book(desk, "b", new int[20]), 2);
    }

    private static void bookOf40Others(Check check) {
        check.sentence("Promise 9: -2: there are 40 others.");
        SpokenDesk desk = new SpokenDesk();
        Check.rule(desk, "z", 3, 3);
        for (int k = 0; k < 40; k++) {
            desk.push(k % 16);
            check.same("entry " + k, desk.book(Check.tape(desk, name(k))), k + 1);
        }
        desk.push(1);
        check.same("a 41st", desk.book(Check.tape(desk, "z")), -2);
        check.same("the tape is empty", desk.count(6), 0);
        check.same("the hand is empty", desk.count(5), 0);
        check.same("there are 40", desk.count(1), 40);
        check.same("it is read by the rule", Check.read(desk, "z"), 2);
        check.same("39 others and itself", Check.book(desk, name(20), 9, 9, 9), 40);
        check.same("its later row", Check.read(desk, name(20)), 3);
        check.same("40 others, and no spelling", Check.book(desk, "z!", 1), -1);
        check.same("40 others, and no sounds", Check.book(desk, "z"), -1);
        check.same("room among rules", Check.rule(desk, "y", 1), 2);
    }

    private static void bookOfOddBytes(Check check) {
        check.sentence("Promise 9: IllegalArgumentException: n is not 0 to the TAPE's bytes (so below)");
        SpokenDesk desk = new SpokenDesk();
        check.illegal("1 of none", () -> desk.book(1));
        check.same("0 of none", desk.book(0), -1);
        Check.tape(desk, "a");
        desk.push(3);
        int[] none = {21, -1, 401, LEAST, MOST};
        for (int odd : none) {
            check.illegal(odd + " of 20", () -> desk.book(odd));
        }
        check.same("the tape stays", desk.count(6), 20);
        check.same("the hand stays", desk.count(5), 1);
        check.same("its first byte is there", desk.book(1), 1);
    }

    private static void readIntoTheHand(Check check) {
        check.sentence("Promise 10: The first n bytes (empty then) are READ into the HAND (in the place of "
                + "what is there): how many SOUNDS");
        SpokenDesk desk = Check.lettered();
        Check.pushAll(desk, new int[40]);
        desk.feed(0x62636465, 0, 0, 0, 0);
        check.same("2 of 20 bytes into a full hand", desk.read(2), 2);
        check.row("in the place of 40", Check.handOf(desk), 1, 2);
        check.same("nothing behind it", desk.hand(2), -1);
        check.same("the tape is empty", desk.count(6), 0);
        check.same("another one", Check.read(desk, "abcdefghij"), 10);
        check.row("in the place of 2", Check.handOf(desk), 0, 1, 2, 3, 4, 5, 6, 7, 8, 9);
        check.same("push behind it", desk.push(15), 11);
        desk.drop();
        check.same("into an empty hand", Check.read(desk, "p"), 1);
        check.row("into an empty hand", Check.handOf(desk), 15);
    }

    private static void readOfNoSpelling(Check check) {
        check.sentence("Promise 10: -1, and the HAND stays: no SPELLING");
        SpokenDesk desk = Check.lettered();
        Check.pushAll(desk, 7, 8);
        String[] none = {"", "abcdefghijk", "a b", "A", "a ", " a"};
        for (String text : none) {
            check.same("'" + text + "'", Check.read(desk, text), -1);
            check.same("the tape is empty behind '" + text + "'", desk.count(6), 0);
            check.row("the hand stays behind '" + text + "'", Check.handOf(desk), 7, 8);
        }
    }

    private static void readThatCannotBe(Check check) {
        check.sentence("Promise 10: -2 less the PLACE, and the HAND stays: it can't be.");
        SpokenDesk desk = Check.lettered();
        Check.rule(desk, "s");
        Check.rule(desk, "t", 1, 2, 3);
        Check.pushAll(desk, 7, 8);
        String[] none = {"z", "az", "aaaaaaaaaz", "s", "ssssssssss", "ttttttt", "tttttttttt"};
        int[] due = {-2, -3, -11, -3, -12, -9, -12};
        for (int k = 0; k < none.length; k++) {
            check.same("'" + none[k] + "'", Check.read(desk, none[k]), due[k]);
            check.same("the tape is empty behind '" + none[k] + "'", desk.count(6), 0);
            check.row("the hand stays behind '" + none[k] + "'", Check.handOf(desk), 7, 8);
        }
    }

    private static void readOfOddBytes(Check check) {
        check.sentence("Promise 10: IllegalArgumentException: n is not 0 to the TAPE's bytes");
        SpokenDesk desk = Check.lettered();
        check.illegal("1 of none", () -> desk.read(1));
        check.same("0 of none", desk.read(0), -1);
        Check.tape(desk, "ab");
        desk.push(9);
        int[] none = {21, -1, 401, LEAST, MOST};
        for (int odd : none) {
            check.illegal(odd + " of 20", () -> desk.read(odd));
        }
        check.same("the tape stays", desk.count(6), 20);
        check.row("the hand stays", Check.handOf(desk), 9);
        check.same("its bytes are there", desk.read(2), 2);
        Check.tape(desk, "a".repeat(400));
        check.illegal("401 of 400", () -> desk.read(401));
        check.same("400 of 400", desk.read(400), -1);
    }
}
