/** Promises 15 to 20: distance, apart, pair, hear, heard, again. */
public final class HearingTest {
    public static void main(String[] args) {
        Check check = new Check();
        distance(check);
        apart(check);
        ties(check);
        fewCommands(check);
        hear(check);
        hearTies(check);
        heardStays(check);
        again(check);
        check.end();
    }

    private static void distance(Check check) {
        SpokenDesk desk = Check.lettered();
        Check.grammar(desk, "(abc|bcd|abcabc|c|a) [d]");
        check.same("of the same", desk.distance(4, 4), 0);
        check.same("abcd, abc", desk.distance(0, 1), 100);
        check.same("abc, bcd", desk.distance(1, 3), 200);
        check.same("the other way", desk.distance(3, 1), 200);
        check.same("abc, abcabc", desk.distance(1, 5), 300);
        desk.cost(0, 1, 10);
        desk.cost(1, 2, 10);
        desk.cost(2, 3, 10);
        check.same("abc, bcd by costs of now", desk.distance(1, 3), 30);
        desk.cost(0, -1, 3);
        desk.cost(3, -1, 4);
        check.same("through nothing on both sides", desk.distance(1, 3), 7);
        check.same("a, c through costs", desk.distance(7, 9), 14 + 3);
        check.outside("distance of 10", () -> desk.distance(10, 0));
        check.outside("distance to 10", () -> desk.distance(0, 10));
        check.outside("distance of -1", () -> desk.distance(-1, 0));
        check.outside("distance to -1", () -> desk.distance(0, -1));
        Check.grammar(desk, "[abc]");
        check.same("to a command of no sounds", desk.distance(0, 1), 3 + 13 + 14);
        check.same("from a command of no sounds", desk.distance(1, 0), 3 + 13 + 14);
        Check.rule(desk, "x", 9, 9, 9);
        Check.rule(desk, "y", 10, 10, 10);
        Check.grammar(desk, "(xxxxxx xxxxxx x j|yyyyyy yyyyyy y k)");
        check.same("the longest rows", desk.distance(0, 1), 4000);
        desk.cost(9, -1, 1);
        check.same("the longest rows with nothing cheap", desk.distance(0, 1), 40 * 100);
        desk.cost(10, -1, 1);
        check.same("the longest rows through nothing", desk.distance(0, 1), 40 * 2);
    }

    private static void apart(Check check) {
        SpokenDesk desk = Check.lettered();
        Check.grammar(desk, "(abcd|aefg|hijk|hijp)");
        check.same("apart", desk.apart(), 100);
        check.same("the lower", desk.pair(0), 2);
        check.same("the other", desk.pair(1), 3);
        for (int s = 1; s <= 3; s++) {
            desk.cost(s, s + 3, 20);
        }
        check.same("apart by costs of now", desk.apart(), 60);
        check.same("the lower by costs of now", desk.pair(0), 0);
        check.same("the other by costs of now", desk.pair(1), 1);
        desk.cost(1, 4, 100);
        check.same("the lower first asked behind a cost", desk.pair(0), 2);
        Check.grammar(desk, "(");
        check.same("a fault changes nothing", desk.apart(), 100);
        Check.grammar(desk, "(a|bcd)");
        check.same("of another grammar", desk.apart(), 300);
        check.illegal("pair 2", () -> desk.pair(2));
        check.illegal("pair -1", () -> desk.pair(-1));
        check.illegal("pair far", () -> desk.pair(Integer.MIN_VALUE));
    }

    private static void ties(Check check) {
        SpokenDesk desk = Check.lettered();
        Check.grammar(desk, "(a|b|c|d)");
        check.same("all the same: the lower", desk.pair(0), 0);
        check.same("all the same: the other", desk.pair(1), 1);
        Check.grammar(desk, "(a|bbb|a|bbb|a)");
        check.same("none apart", desk.apart(), 0);
        check.same("none apart: the lower", desk.pair(0), 0);
        check.same("none apart: the other", desk.pair(1), 2);
        Check.grammar(desk, "(aaa|bbb|bcb|bdb|ab)");
        check.same("by the lower number first", desk.pair(0), 1);
        check.same("then by the other", desk.pair(1), 2);
    }

    private static void fewCommands(Check check) {
        SpokenDesk desk = Check.lettered();
        check.same("apart of none", desk.apart(), -1);
        check.illegal("pair 2 of none", () -> desk.pair(2));
        Check.grammar(desk, "a");
        check.same("apart of one", desk.apart(), -1);
        check.same("pair of one", desk.pair(0), -1);
        check.same("pair of one", desk.pair(1), -1);
        check.same("distance of one", desk.distance(0, 0), 0);
        Check.pushAll(desk, 1, 2);
        check.same("hear of one", desk.hear(), 0);
        int[] due = {0, 200, -1, -1, -1, 0};
        for (int what = 0; what < due.length; what++) {
            check.same("heard of one, " + what, desk.heard(what), due[what]);
        }
        check.same("again of one", desk.again(0), -1);
    }

    private static void hear(Check check) {
        SpokenDesk desk = Check.lettered();
        Check.pushAll(desk, 3, 4);
        check.same("hear without commands", desk.hear(), -1);
        check.row("the hand stays", Check.handOf(desk), 3, 4);
        desk.drop();
        Check.grammar(desk, "(abc|def|abf)");
        Check.pushAll(desk, 3, 1, 5);
        check.same("hear", desk.hear(), 1);
        check.same("the hand is empty then", desk.count(5), 0);
        int[] due = {1, 100, 2, 100, 0, 1};
        for (int what = 0; what < due.length; what++) {
            check.same("heard " + what, desk.heard(what), due[what]);
        }
        check.same("hear of nothing", desk.hear(), 0);
        check.same("hear of nothing: first's", desk.heard(1), 300);
        check.same("hear of nothing: second", desk.heard(2), 1);
        check.illegal("heard 6", () -> desk.heard(6));
        check.illegal("heard -1", () -> desk.heard(-1));
        check.illegal("heard far", () -> desk.heard(Integer.MAX_VALUE));
        SpokenDesk fresh = new SpokenDesk();
        check.illegal("heard 6 ahead of any", () -> fresh.heard(6));
        for (int k = 0; k < 40; k++) {
            desk.push(15);
        }
        check.same("hear of 40 sounds", desk.hear(), 0);
        check.same("hear of 40 sounds: first's", desk.heard(1), 4000);
    }

    private static void hearTies(Check check) {
        SpokenDesk desk = Check.lettered();
        Check.grammar(desk, "(b|b|a|a|b)");
        desk.push(0);
        check.same("the first of the nearest", desk.hear(), 2);
        check.same("second: the first of the nearest others", desk.heard(2), 3);
        desk.push(1);
        check.same("the first of the nearest", desk.hear(), 0);
        check.same("second", desk.heard(2), 1);
        Check.grammar(desk, "(ddd|cc|a|b)");
        desk.push(0);
        check.same("the nearest comes late", desk.hear(), 2);
        check.same("second behind it", desk.heard(2), 3);
        Check.grammar(desk, "(d|c|a)");
        desk.push(0);
        check.same("the nearest comes last", desk.hear(), 2);
        check.same("second is the first of the others", desk.heard(2), 0);
        check.same("gap", desk.heard(4), 100);
    }

    private static void heardStays(Check check) {
        SpokenDesk desk = Check.lettered();
        Check.grammar(desk, "(a|b)");
        desk.push(0);
        desk.hear();
        desk.cost(0, 1, 5);
        check.same("as it was", desk.heard(3), 100);
        check.same("as it was", desk.heard(4), 100);
        Check.grammar(desk, "(a|b");
        check.same("behind a grammar with a fault", desk.heard(0), 0);
        check.same("again behind a grammar with a fault", desk.again(0), 0);
        Check.grammar(desk, "(a|b)");
        for (int what = 0; what < 6; what++) {
            check.same("behind another grammar, " + what, desk.heard(what), -1);
        }
        check.same("again behind another grammar", desk.again(0), -1);
        desk.push(0);
        desk.hear();
        check.same("heard anew", desk.heard(3), 5);
    }

    private static void again(Check check) {
        SpokenDesk desk = Check.lettered();
        Check.grammar(desk, "(a [b] | c (d|e)) f (g|h)");
        Check.pushAll(desk, 0, 1, 5, 6);
        check.same("hear", desk.hear(), 0);
        check.row("one point", Check.againOf(desk), 3);
        Check.pushAll(desk, 0, 3, 5, 6);
        desk.hear();
        check.same("first", desk.heard(0), 0);
        check.same("second", desk.heard(2), 2);
        check.row("the optional one", Check.againOf(desk), 1);
        desk.cost(0, 2, 1);
        desk.cost(1, 3, 1);
        desk.cost(6, 7, 50);
        Check.pushAll(desk, 0, 1, 5, 6);
        check.same("first", desk.hear(), 0);
        check.same("second", desk.heard(2), 4);
        check.row("points not come by are unlike", Check.againOf(desk), 0, 1, 2);
        check.same("how many", desk.heard(5), 3);
        check.same("again 3", desk.again(3), -1);
        check.same("again -1", desk.again(-1), -1);
        check.same("again far", desk.again(Integer.MAX_VALUE), -1);
    }
}
