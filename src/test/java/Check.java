import java.util.Arrays;

/** Counts what is not as due, and feeds a desk with texts instead of numbers. */
final class Check {
    private int wrong = 0;
    private int told = 0;
    private String sentence = "";

    /** What follows is a test of this sentence of the document: it is told with all that is not as due. */
    void sentence(String words) {
        sentence = words + " -- ";
    }

    private void tellWrong(String words) {
        wrong++;
        System.out.println(sentence + words);
    }

    void same(String what, long got, long due) {
        told++;
        if (got != due) {
            tellWrong(what + ": " + got + ", due is " + due);
        }
    }

    void row(String what, int[] got, int... due) {
        told++;
        if (!Arrays.equals(got, due)) {
            tellWrong(what + ": " + Arrays.toString(got) + ", due is " + Arrays.toString(due));
        }
    }

    void yes(String what, boolean holds) {
        same(what, holds ? 1 : 0, 1);
    }

    void fails(String what, Class<? extends RuntimeException> kind, Runnable call) {
        told++;
        try {
            call.run();
        } catch (RuntimeException thrown) {
            if (thrown.getClass() != kind) {
                tellWrong(what + ": throws " + thrown + ", due is " + kind.getName());
            }
            return;
        }
        tellWrong(what + ": throws nothing, due is " + kind.getName());
    }

    void illegal(String what, Runnable call) {
        fails(what, IllegalArgumentException.class, call);
    }

    void outside(String what, Runnable call) {
        fails(what, IndexOutOfBoundsException.class, call);
    }

    void state(String what, Runnable call) {
        fails(what, IllegalStateException.class, call);
    }

    void end() {
        System.out.println(told + " answers looked at, " + wrong + " not as due");
        if (wrong != 0) {
            System.exit(1);
        }
    }

    /** Puts a text on the empty tape, in as many feeds as it needs: its length. */
    static int tape(SpokenDesk desk, String text) {
        int feeds = Math.max(1, (text.length() + 19) / 20);
        for (int k = 0; k < feeds; k++) {
            int[] numbers = new int[5];
            for (int i = 0; i < 20; i++) {
                int at = k * 20 + i;
                int sign = at < text.length() ? text.charAt(at) & 255 : 0;
                numbers[i / 4] |= sign << (24 - 8 * (i % 4));
            }
            desk.feed(numbers[0], numbers[1], numbers[2], numbers[3], numbers[4]);
        }
        return text.length();
    }

    static void pushAll(SpokenDesk desk, int... sounds) {
        for (int sound : sounds) {
            desk.push(sound);
        }
    }

    static int rule(SpokenDesk desk, String letters, int... sounds) {
        desk.drop();
        pushAll(desk, sounds);
        return desk.rule(tape(desk, letters));
    }

    static int book(SpokenDesk desk, String letters, int... sounds) {
        desk.drop();
        pushAll(desk, sounds);
        return desk.book(tape(desk, letters));
    }

    static int read(SpokenDesk desk, String letters) {
        return desk.read(tape(desk, letters));
    }

    static int grammar(SpokenDesk desk, String text) {
        return desk.grammar(tape(desk, text));
    }

    static int word(SpokenDesk desk, int slot, String letters) {
        return desk.word(slot, tape(desk, letters));
    }

    /** Letters a to p, each read as one sound: a is 0, p is 15. */
    static SpokenDesk lettered() {
        SpokenDesk desk = new SpokenDesk();
        for (int s = 0; s < 16; s++) {
            rule(desk, String.valueOf((char) ('a' + s)), s);
        }
        return desk;
    }

    static int[] handOf(SpokenDesk desk) {
        int[] sounds = new int[desk.count(5)];
        for (int i = 0; i < sounds.length; i++) {
            sounds[i] = desk.hand(i);
        }
        return sounds;
    }

    static int[] soundsOf(SpokenDesk desk, int command) {
        int many = 0;
        while (desk.sound(command, many) != SpokenDesk.NONE) {
            many++;
        }
        int[] sounds = new int[many];
        for (int i = 0; i < many; i++) {
            sounds[i] = desk.sound(command, i);
        }
        return sounds;
    }

    static int[] picksOf(SpokenDesk desk, int command) {
        int[] picks = new int[desk.count(3)];
        for (int point = 0; point < picks.length; point++) {
            picks[point] = desk.pick(command, point);
        }
        return picks;
    }

    static int[] againOf(SpokenDesk desk) {
        int[] points = new int[Math.max(0, desk.heard(5))];
        for (int k = 0; k < points.length; k++) {
            points[k] = desk.again(k);
        }
        return points;
    }
}
