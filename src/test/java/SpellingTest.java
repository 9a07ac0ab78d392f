/** Promises 7 to 10: feed, rule, book, read. */
public final class SpellingTest {
    public static void main(String[] args) {
        Check check = new Check();
        feed(check);
        rule(check);
        fullRules(check);
        book(check);
        fullBook(check);
        read(check);
        readEdges(check);
        check.end();
    }

    private static void feed(Check check) {
        SpokenDesk desk = new SpokenDesk();
        for (int k = 1; k <= 20; k++) {
            check.same("feed", desk.feed(0, 0, 0, 0, 0), 20 * k);
        }
        check.same("a 21st feed", desk.feed(1, 1, 1, 1, 1), -1);
        check.same("a 21st feed does nothing", desk.count(6), 400);
        check.illegal("read of 401", () -> desk.read(401));
        check.same("read of 400", desk.read(400), -1);
        check.same("the tape is empty then", desk.count(6), 0);
        Check.rule(desk, "a", 1);
        Check.rule(desk, "b", 2);
        Check.rule(desk, "c", 3);
        Check.rule(desk, "d", 4);
        desk.feed(0x61626364, 0x64636261, 0x61610000, 0, 0);
        check.same("the highest byte first", desk.read(10), 10);
        check.row("the highest byte first", Check.handOf(desk), 1, 2, 3, 4, 4, 3, 2, 1, 1, 1);
        desk.feed(0xe1626364, 0, 0, 0, 0);
        check.same("a byte above 127 is no letter", desk.read(1), -1);
    }

    private static void rule(Check check) {
        SpokenDesk desk = new SpokenDesk();
        check.same("a rule", Check.rule(desk, "a", 1, 2, 3), 1);
        check.same("hand is empty then", desk.count(5), 0);
        check.same("tape is empty then", desk.count(6), 0);
        check.same("a rule of no sounds", Check.rule(desk, "b"), 2);
        check.same("a rule of 4 letters", Check.rule(desk, "abcd", 5), 3);
        check.same("told again", Check.rule(desk, "a", 4), 3);
        check.same("read by the later row", Check.read(desk, "a"), 1);
        check.row("read by the later row", Check.handOf(desk), 4);
        check.same("5 letters", Check.rule(desk, "abcde", 5), -1);
        check.same("hand is empty, too", desk.count(5), 0);
        check.same("tape is empty, too", desk.count(6), 0);
        check.same("4 sounds", Check.rule(desk, "x", 1, 2, 3, 4), -1);
        check.same("hand is empty, too", desk.count(5), 0);
        check.same("no letters", Check.rule(desk, "", 1), -1);
        check.same("a great letter", Check.rule(desk, "aB", 1), -1);
        check.same("below a", Check.rule(desk, "`", 1), -1);
        check.same("above z", Check.rule(desk, "{", 1), -1);
        check.same("a blank", Check.rule(desk, "a ", 1), -1);
        check.same("z", Check.rule(desk, "z", 1), 4);
        check.same("count 0", desk.count(0), 4);
        desk.push(7);
        desk.feed(0, 0, 0, 0, 0);
        check.illegal("rule of 21 bytes of 20", () -> desk.rule(21));
        check.illegal("rule of -1 bytes", () -> desk.rule(-1));
        check.illegal("rule of many bytes", () -> desk.rule(Integer.MAX_VALUE));
        check.same("a wrong call leaves the hand", desk.count(5), 1);
        check.same("a wrong call leaves the tape", desk.count(6), 20);
    }

    private static void fullRules(Check check) {
        SpokenDesk desk = new SpokenDesk();
        for (int k = 0; k < 60; k++) {
            check.same("rule " + k, Check.rule(desk, name(k), k % 16), k + 1);
        }
        check.same("a 61st rule", Check.rule(desk, "zzz", 1), -2);
        check.same("the hand is empty behind it", desk.count(5), 0);
        check.same("the tape is empty behind it", desk.count(6), 0);
        check.same("a 61st rule that is none", Check.rule(desk, "zz!", 1), -1);
        check.same("one of the 60 told again", Check.rule(desk, name(59), 9), 60);
        check.same("its later row", Check.read(desk, name(59)), 1);
        check.row("its later row", Check.handOf(desk), 9);
        check.same("count 0", desk.count(0), 60);
    }

    private static String name(int k) {
        return "" + (char) ('a' + k / 26) + (char) ('a' + k % 26);
    }

    private static void book(Check check) {
        SpokenDesk desk = new SpokenDesk();
        int[] twenty = new int[20];
        int[] more = new int[21];
        check.same("an entry", Check.book(desk, "abcdefghij", twenty), 1);
        check.same("11 letters", Check.book(desk, "abcdefghijk", 1), -1);
        check.same("hand is empty, too", desk.count(5), 0);
        check.same("tape is empty, too", desk.count(6), 0);
        check.same("21 sounds", Check.book(desk, "a", more), -1);
        check.same("hand is empty, too", desk.count(5), 0);
        check.same("no sounds", Check.book(desk, "a"), -1);
        check.same("no letters", Check.book(desk, "", 1), -1);
        check.same("no letter", Check.book(desk, "a1", 1), -1);
        check.same("another entry", Check.book(desk, "a", 1), 2);
        check.same("told again", Check.book(desk, "a", 2, 3), 2);
        check.same("read by the later row", Check.read(desk, "a"), 2);
        check.row("read by the later row", Check.handOf(desk), 2, 3);
        check.same("read of 20 sounds", Check.read(desk, "abcdefghij"), 20);
        check.same("count 1", desk.count(1), 2);
        check.same("count 0", desk.count(0), 0);
        check.illegal("book of 1 byte of none", () -> desk.book(1));
        check.illegal("book of -1 bytes", () -> desk.book(-1));
    }

    private static void fullBook(Check check) {
        SpokenDesk desk = new SpokenDesk();
        for (int k = 0; k < 40; k++) {
            check.same("entry " + k, Check.book(desk, name(k), k % 16), k + 1);
        }
        check.same("a 41st entry", Check.book(desk, "zzz", 1), -2);
        check.same("the hand is empty behind it", desk.count(5), 0);
        check.same("the tape is empty behind it", desk.count(6), 0);
        check.same("a 41st entry that is none", Check.book(desk, "zzz"), -1);
        check.same("one of the 40 told again", Check.book(desk, name(0), 9, 9), 40);
        check.same("its later row", Check.read(desk, name(0)), 2);
    }

    private static void read(Check check) {
        SpokenDesk desk = new SpokenDesk();
        Check.rule(desk, "a", 1);
        Check.rule(desk, "ab", 2);
        Check.rule(desk, "abcd", 3);
        Check.rule(desk, "c", 4);
        Check.rule(desk, "d", 5, 6, 7);
        Check.rule(desk, "e");
        check.same("the longest rule", Check.read(desk, "abcd"), 1);
        check.row("the longest rule", Check.handOf(desk), 3);
        check.same("on behind these letters", Check.read(desk, "abcabcda"), 4);
        check.row("on behind these letters", Check.handOf(desk), 2, 4, 3, 1);
        check.same("a rule of no sounds", Check.read(desk, "ede"), 3);
        check.row("a rule of no sounds", Check.handOf(desk), 5, 6, 7);
        Check.book(desk, "abcd", 9);
        Check.read(desk, "abcd");
        check.row("the book ahead of rules", Check.handOf(desk), 9);
        check.same("the book only for the whole", Check.read(desk, "abcda"), 2);
        check.row("the book only for the whole", Check.handOf(desk), 3, 1);
        check.same("where none stands", Check.read(desk, "abb"), -4);
        check.row("the hand stays", Check.handOf(desk), 3, 1);
        check.same("where none stands, at 0", Check.read(desk, "x"), -2);
        check.same("no backing to a shorter rule", backing(), -5);
        check.same("no spelling", Check.read(desk, "a b"), -1);
        check.row("the hand stays", Check.handOf(desk), 3, 1);
        check.same("the tape is empty then", desk.count(6), 0);
        check.same("no letters", Check.read(desk, ""), -1);
        check.same("11 letters", Check.read(desk, "aaaaaaaaaaa"), -1);
        check.same("10 letters", Check.read(desk, "aaaaaaaaaa"), 10);
    }

    private static int backing() {
        SpokenDesk desk = new SpokenDesk();
        Check.rule(desk, "a", 1);
        Check.rule(desk, "abc", 2);
        Check.rule(desk, "bcd", 3);
        return Check.read(desk, "abcd");
    }

    private static void readEdges(Check check) {
        SpokenDesk desk = new SpokenDesk();
        Check.rule(desk, "a", 1, 1, 1);
        Check.rule(desk, "b", 2, 2);
        Check.rule(desk, "e");
        check.same("20 sounds", Check.read(desk, "aaaaaab"), 20);
        check.same("21 sounds", Check.read(desk, "aaaaaaa"), -9);
        check.same("21 sounds, the hand stays", desk.count(5), 20);
        check.same("of no sounds", Check.read(desk, "eee"), -5);
        check.same("a place where none stands behind 21 sounds", Check.read(desk, "aaaaaaax"), -9);
        check.same("a place where none stands behind 24 sounds", Check.read(desk, "aaaaaaaaxa"), -10);
        desk.feed(0x61000000, 0, 0, 0, 0);
        check.illegal("read of 21 bytes of 20", () -> desk.read(21));
        check.illegal("read of -1 bytes", () -> desk.read(-1));
        check.same("a wrong call leaves the tape", desk.count(6), 20);
        check.same("read of the first byte alone", desk.read(1), 3);
    }
}
