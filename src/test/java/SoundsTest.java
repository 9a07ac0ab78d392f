/** Promises 1 to 6: a new object, cost, near, push, drop, hand. */
public final class SoundsTest {
    public static void main(String[] args) {
        Check check = new Check();
        newObject(check);
        cost(check);
        near(check);
        hand(check);
        check.end();
    }

    private static void newObject(Check check) {
        SpokenDesk desk = new SpokenDesk();
        check.same("NONE", SpokenDesk.NONE, -1);
        for (int x = -1; x < 16; x++) {
            for (int y = -1; y < 16; y++) {
                check.same("new near", desk.near(x, y), x == y ? 0 : 100);
            }
        }
        for (int what = 0; what < 7; what++) {
            check.same("new count " + what, desk.count(what), 0);
        }
        check.same("new place", desk.place(), -1);
        check.same("new apart", desk.apart(), -1);
        check.same("new pair", desk.pair(0), -1);
        check.same("new pair", desk.pair(1), -1);
        check.same("new again", desk.again(0), -1);
        check.same("new best", desk.best(), -1);
        for (int what = 0; what < 6; what++) {
            check.same("new heard " + what, desk.heard(what), -1);
        }
        check.outside("new sound", () -> desk.sound(0, 0));
        check.outside("new chosen", () -> desk.chosen(0));
    }

    private static void cost(Check check) {
        SpokenDesk desk = new SpokenDesk();
        check.same("cost was", desk.cost(3, 7, 20), 100);
        check.same("cost was, the other way", desk.cost(7, 3, 1), 20);
        check.same("cost was", desk.cost(3, 7, 100), 1);
        check.same("cost of nothing", desk.cost(-1, 15, 9), 100);
        check.same("cost of nothing, the other way", desk.cost(15, -1, 10), 9);
        check.same("cost keeps what was told, not NEAR", costBehindDetour(), 100);
        int[][] wrong = {{-2, 0, 5}, {0, -2, 5}, {16, 0, 5}, {0, 16, 5}, {4, 4, 5}, {-1, -1, 5}, {0, 1, 0},
            {0, 1, 101}, {0, 1, -1}, {Integer.MIN_VALUE, 0, 5}, {0, Integer.MAX_VALUE, 5},
            {0, 1, Integer.MAX_VALUE}, {0, 1, Integer.MIN_VALUE}};
        for (int[] row : wrong) {
            check.illegal("cost " + row[0] + " " + row[1] + " " + row[2], () -> desk.cost(row[0], row[1], row[2]));
        }
        check.same("a wrong cost changes nothing", desk.cost(0, 1, 50), 100);
    }

    private static int costBehindDetour() {
        SpokenDesk desk = new SpokenDesk();
        desk.cost(0, 1, 5);
        desk.cost(1, 2, 5);
        return desk.cost(0, 2, 7);
    }

    private static void near(Check check) {
        SpokenDesk desk = new SpokenDesk();
        desk.cost(0, 1, 10);
        desk.cost(1, 2, 10);
        desk.cost(2, 3, 10);
        check.same("near through two others", desk.near(0, 3), 30);
        check.same("near the other way", desk.near(3, 0), 30);
        check.same("near of the same", desk.near(3, 3), 0);
        check.same("near of nothing", desk.near(-1, -1), 0);
        check.same("near to nothing", desk.near(-1, 0), 100);
        desk.cost(3, -1, 4);
        check.same("near to nothing through others", desk.near(0, -1), 34);
        desk.cost(9, -1, 4);
        check.same("near through nothing", desk.near(9, 0), 38);
        desk.cost(1, 2, 100);
        check.same("a cost that rises again", desk.near(0, 3), 100);
        check.same("a cost that rises again, beside", desk.near(2, 9), 18);
        int[][] wrong = {{-2, 0}, {0, -2}, {16, 0}, {0, 16}, {Integer.MIN_VALUE, 0}, {0, Integer.MAX_VALUE}, {16, 16}};
        for (int[] row : wrong) {
            check.illegal("near " + row[0] + " " + row[1], () -> desk.near(row[0], row[1]));
        }
    }

    private static void hand(Check check) {
        SpokenDesk desk = new SpokenDesk();
        for (int k = 0; k < 40; k++) {
            check.same("push", desk.push(k % 16), k + 1);
        }
        check.same("a 41st push", desk.push(3), -1);
        check.same("a 41st push does nothing", desk.count(5), 40);
        check.illegal("push of no sound where there is no room", () -> desk.push(16));
        check.same("hand 0", desk.hand(0), 0);
        check.same("hand 39", desk.hand(39), 7);
        check.same("hand 40", desk.hand(40), -1);
        check.same("hand -1", desk.hand(-1), -1);
        check.same("hand far", desk.hand(Integer.MAX_VALUE), -1);
        check.same("hand far below", desk.hand(Integer.MIN_VALUE), -1);
        check.same("drop", desk.drop(), 40);
        check.same("drop of nothing", desk.drop(), 0);
        check.same("hand of an empty one", desk.hand(0), -1);
        check.illegal("push -1", () -> desk.push(-1));
        check.illegal("push 16", () -> desk.push(16));
        check.illegal("push far", () -> desk.push(Integer.MIN_VALUE));
        check.same("a wrong push does nothing", desk.count(5), 0);
        check.same("push 15", desk.push(15), 1);
    }
}
