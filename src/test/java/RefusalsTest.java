import java.util.ArrayList;
import java.util.List;
import java.util.function.Consumer;

/** A call that is refused, by an exception or as "doing nothing", leaves all that can be asked for as it was. */
public final class RefusalsTest {
    private static final int[] FAR = {Integer.MIN_VALUE, Integer.MAX_VALUE};

    public static void main(String[] args) {
        Check check = new Check();
        sounds(check);
        tapeCalls(check);
        commandCalls(check);
        slotCalls(check);
        full(check);
        asking(check);
        check.end();
    }

    /** A desk that has something of everything. */
    private static SpokenDesk busy() {
        SpokenDesk desk = new SpokenDesk();
        desk.cost(1, 2, 40);
        desk.cost(3, -1, 7);
        Check.rule(desk, "a", 1);
        Check.rule(desk, "b", 2, 2);
        Check.rule(desk, "c", 3);
        Check.book(desk, "zz", 4, 5);
        Check.grammar(desk, "(a|b) [c]");
        Check.pushAll(desk, 2, 3);
        desk.hear();
        desk.slot();
        desk.slot();
        for (int k = 0; k < 4; k++) {
            Check.word(desk, 0, k % 2 == 0 ? "a" : "bc");
        }
        Check.word(desk, 1, "zz");
        Check.grammar(desk, "a (");
        Check.pushAll(desk, 7, 8, 9);
        Check.tape(desk, "zzabc");
        return desk;
    }

    private static void addAll(List<Integer> list, int[] row) {
        for (int number : row) {
            list.add(number);
        }
        list.add(-100);
    }

    /** All answers that change nothing themselves. */
    private static List<Integer> askAll(SpokenDesk desk) {
        List<Integer> answers = new ArrayList<>();
        for (int what = 0; what < 7; what++) {
            answers.add(desk.count(what));
        }
        addAll(answers, Check.handOf(desk));
        answers.add(desk.place());
        for (int k = 0; k < desk.count(2); k++) {
            addAll(answers, Check.soundsOf(desk, k));
            addAll(answers, Check.picksOf(desk, k));
            answers.add(desk.distance(0, k));
        }
        answers.add(desk.apart());
        answers.add(desk.pair(0));
        answers.add(desk.pair(1));
        for (int what = 0; what < 6; what++) {
            answers.add(desk.heard(what));
        }
        addAll(answers, Check.againOf(desk));
        answers.add(desk.best());
        for (int slot = 0; slot < desk.count(4); slot++) {
            answers.add(desk.chosen(slot));
        }
        for (int x = -1; x < 5; x++) {
            answers.add(desk.near(x, 2));
        }
        return answers;
    }

    /** What can't be asked for without a change: the tape's bytes, and what the rules and the book tell. */
    private static List<Integer> useUp(SpokenDesk desk) {
        List<Integer> answers = new ArrayList<>();
        answers.add(desk.read(2));
        addAll(answers, Check.handOf(desk));
        answers.add(Check.read(desk, "abc"));
        addAll(answers, Check.handOf(desk));
        answers.add(desk.cost(1, 2, 40));
        answers.add(desk.cost(3, -1, 7));
        answers.add(Check.word(desk, 1, "abc"));
        answers.add(desk.slot());
        return answers;
    }

    private static void refused(Check check, String name, Class<? extends RuntimeException> kind,
            Consumer<SpokenDesk> call) {
        check.sentence("refused: " + name);
        SpokenDesk desk = busy();
        List<Integer> before = askAll(desk);
        check.fails("the call", kind, () -> call.accept(desk));
        check.yes("what can be asked for is as it was", askAll(desk).equals(before));
        check.yes("what can be used up is as it was", useUp(desk).equals(useUp(busy())));
    }

    private static void sounds(Check check) {
        Class<? extends RuntimeException> kind = IllegalArgumentException.class;
        int[] none = {-2, 16, FAR[0], FAR[1]};
        for (int odd : none) {
            refused(check, "cost() of the one " + odd, kind, desk -> desk.cost(odd, 2, 5));
            refused(check, "cost() of the other " + odd, kind, desk -> desk.cost(2, odd, 5));
            refused(check, "near() of the one " + odd, kind, desk -> desk.near(odd, 2));
            refused(check, "near() of the other " + odd, kind, desk -> desk.near(2, odd));
        }
        int[] costs = {0, 101, -1, FAR[0], FAR[1]};
        for (int odd : costs) {
            refused(check, "cost() of " + odd, kind, desk -> desk.cost(1, 2, odd));
        }
        refused(check, "cost() of the same", kind, desk -> desk.cost(2, 2, 5));
        refused(check, "cost() of nothing twice", kind, desk -> desk.cost(-1, -1, 5));
        int[] sounds = {-1, 16, FAR[0], FAR[1]};
        for (int odd : sounds) {
            refused(check, "push() of " + odd, kind, desk -> desk.push(odd));
        }
    }

    private static void tapeCalls(Check check) {
        Class<? extends RuntimeException> kind = IllegalArgumentException.class;
        int[] none = {-1, 21, FAR[0], FAR[1]};
        for (int odd : none) {
            refused(check, "rule() of " + odd, kind, desk -> desk.rule(odd));
            refused(check, "book() of " + odd, kind, desk -> desk.book(odd));
            refused(check, "read() of " + odd, kind, desk -> desk.read(odd));
            refused(check, "grammar() of " + odd, kind, desk -> desk.grammar(odd));
            refused(check, "word() of " + odd, kind, desk -> desk.word(1, odd));
            refused(check, "word() of " + odd + " for a full slot", kind, desk -> desk.word(0, odd));
        }
    }

    private static void commandCalls(Check check) {
        Class<? extends RuntimeException> outside = IndexOutOfBoundsException.class;
        Class<? extends RuntimeException> illegal = IllegalArgumentException.class;
        int[] none = {-1, 4, FAR[0], FAR[1]};
        for (int odd : none) {
            refused(check, "sound() of command " + odd, outside, desk -> desk.sound(odd, 0));
            refused(check, "pick() of command " + odd, outside, desk -> desk.pick(odd, 0));
            refused(check, "pick() of command " + odd + " and no point", outside, desk -> desk.pick(odd, 2));
            refused(check, "pick() at point " + odd, illegal, desk -> desk.pick(0, odd));
            refused(check, "distance() of the one " + odd, outside, desk -> desk.distance(odd, 0));
            refused(check, "distance() of the other " + odd, outside, desk -> desk.distance(0, odd));
            refused(check, "pair() of " + odd, illegal, desk -> desk.pair(odd));
        }
        int[] whats = {-1, 6, FAR[0], FAR[1]};
        for (int odd : whats) {
            refused(check, "heard() of " + odd, illegal, desk -> desk.heard(odd));
        }
    }

    private static void slotCalls(Check check) {
        Class<? extends RuntimeException> outside = IndexOutOfBoundsException.class;
        Class<? extends RuntimeException> state = IllegalStateException.class;
        int[] none = {-1, 2, 8, FAR[0], FAR[1]};
        for (int odd : none) {
            refused(check, "word() of slot " + odd, outside, desk -> desk.word(odd, 2));
            refused(check, "word() of slot " + odd + " and no bytes", outside, desk -> desk.word(odd, 21));
            refused(check, "chosen() of slot " + odd, outside, desk -> desk.chosen(odd));
        }
        refused(check, "word() of a full slot", state, desk -> desk.word(0, 2));
        refused(check, "word() of a full slot that is no spelling", state, desk -> desk.word(0, 0));
    }

    private static void same(Check check, SpokenDesk desk, Runnable call) {
        List<Integer> before = askAll(desk);
        call.run();
        check.yes("all is as it was", askAll(desk).equals(before));
    }

    private static void full(Check check) {
        check.sentence("refused: push() into a full hand");
        SpokenDesk hand = busy();
        Check.pushAll(hand, new int[37]);
        same(check, hand, () -> check.same("the 41st", hand.push(5), -1));
        check.sentence("refused: feed() on a full tape");
        SpokenDesk tape = busy();
        for (int k = 0; k < 19; k++) {
            tape.feed(0, 0, 0, 0, 0);
        }
        same(check, tape, () -> check.same("the 21st", tape.feed(1, 2, 3, 4, 5), -1));
        check.same("the tape's first bytes are as they were", tape.read(2), 2);
        check.row("the tape's first bytes are as they were", Check.handOf(tape), 4, 5);
        check.sentence("refused: slot() of a 9th");
        SpokenDesk slots = busy();
        for (int k = 2; k < 8; k++) {
            slots.slot();
        }
        same(check, slots, () -> check.state("the 9th", slots::slot));
        check.sentence("refused: hear() without commands");
        SpokenDesk none = new SpokenDesk();
        Check.pushAll(none, 1, 2);
        same(check, none, () -> check.same("hear", none.hear(), -1));
    }

    private static void asking(Check check) {
        check.sentence("asking for what there is not changes nothing");
        SpokenDesk hand = busy();
        same(check, hand, () -> check.same("hand", hand.hand(3) + hand.hand(-1), -2));
        SpokenDesk sound = busy();
        same(check, sound, () -> check.same("sound", sound.sound(0, 40) + sound.sound(0, -1), -2));
        SpokenDesk again = busy();
        same(check, again, () -> check.same("again", again.again(8) + again.again(-1), -2));
        SpokenDesk count = busy();
        same(check, count, () -> check.same("count", count.count(7) + count.count(-1), -2));
    }
}
