import java.util.ArrayList;
import java.util.List;
import java.util.Random;

/** Long runs of made-up calls (always the same ones) on the class and on the plain model: every answer alike. */
public final class ModelTest {
    private static final int RUNS = 600;
    private static final int CALLS = 512;
    private static final String[] NAMES = {"cost", "near", "push", "drop", "hand", "feed", "rule", "book", "read",
        "grammar", "place", "sound", "pick", "distance", "apart", "pair", "hear", "heard", "again", "slot", "word",
        "best", "chosen", "count"};

    private final Random random;
    private final SpokenDesk desk = new SpokenDesk();
    private final PlainModel model = new PlainModel();
    private final List<String> log = new ArrayList<>();
    /** What kind of run: few letters and small costs give many ties, many letters long readings. */
    private final int letters;
    private final int mostCost;
    private int calls = 0;
    private boolean wrong = false;

    private ModelTest(int run) {
        random = new Random(run);
        letters = 2 + random.nextInt(9);
        mostCost = random.nextInt(3) == 0 ? 4 : 100;
    }

    public static void main(String[] args) {
        int runs = args.length > 1 ? Integer.parseInt(args[1]) : RUNS;
        int wrong = 0;
        long seen = 0;
        for (int run = 0; run < runs && wrong < 3; run++) {
            ModelTest test = new ModelTest(run);
            test.play();
            seen += test.calls;
            if (test.wrong) {
                wrong++;
                System.out.println("run " + run);
                test.log.forEach(System.out::println);
            }
        }
        System.out.println(seen + " calls looked at, " + wrong + " runs not as due");
        if (wrong != 0) {
            System.exit(1);
        }
    }

    private int below(int n) {
        return random.nextInt(n);
    }

    private void play() {
        int fewest = below(4) == 0 ? 0 : 1;
        int most = 1 + below(3);
        for (int k = 0; k < letters; k++) {
            pushSome(Math.min(most, fewest + below(3)));
            fed("" + (char) ('a' + k));
            call(6, 1);
        }
        int told = below(3) == 0 ? 150 : 0;
        for (int k = 0; k < told; k++) {
            call(0, below(17) - 1, below(17) - 1, 1 + below(mostCost));
        }
        if (below(2) == 0) {
            fillSlots();
        }
        int full = below(10);
        if (full < 2) {
            fillLexicon(full);
        }
        while (calls < CALLS && !wrong) {
            step();
        }
    }

    private void fillSlots() {
        int many = 2 + below(7);
        for (int slot = 0; slot < many; slot++) {
            call(19);
            int words = 1 + below(4);
            for (int k = 0; k < words; k++) {
                call(20, slot, fed(some(1 + below(7))));
            }
        }
    }

    /** Up to and beyond the 60 rules, or the 40 of the book; some are told again. */
    private void fillLexicon(int which) {
        for (int k = 0; k < 70; k++) {
            pushSome(which + below(2));
            call(6 + which, fed(some(2 + below(3))));
        }
        call(23, which);
    }

    private void step() {
        int kind = below(100);
        if (kind < 10) {
            call(0, below(17) - 1, below(17) - 1, 1 + below(mostCost));
        } else if (kind < 14) {
            pushSome(below(5));
            call(6, fed(some(1 + below(4))));
        } else if (kind < 17) {
            pushSome(1 + below(21));
            call(7, fed(some(1 + below(10))));
        } else if (kind < 21) {
            call(8, fed(some(1 + below(10))));
        } else if (kind < 35) {
            grammar();
        } else if (kind < 45) {
            pushSome(below(20));
            call(16);
            for (int what = 0; what < 6; what++) {
                call(17, what);
            }
            call(18, below(9));
        } else if (kind < 52) {
            call(14);
            call(15, below(2));
        } else if (kind < 55) {
            call(19);
        } else if (kind < 64) {
            int n = fed(some(1 + below(6)));
            call(20, below(9), n);
        } else if (kind < 68) {
            call(21);
            call(22, below(9));
        } else {
            any(below(NAMES.length));
        }
    }

    private void grammar() {
        wordsLeft = below(8) == 0 ? 25 : 8 + below(13);
        pointsLeft = below(8) == 0 ? 10 : below(9);
        longest = 1 + below(4);
        String text = row(3, 8);
        if (below(4) == 0) {
            text = marred(text);
        }
        if (text.length() > 380) {
            text = text.substring(0, 380);
        }
        call(9, fed(text));
        call(10);
        for (int k = 0; k < 4; k++) {
            call(11, below(120), below(41));
            call(12, below(120), below(8));
            call(13, below(40), below(40));
        }
    }

    /** Keeps most of the made-up grammars within the limits, so that they are taken. */
    private int wordsLeft;
    private int pointsLeft;
    private int longest;

    private String row(int depth, int most) {
        StringBuilder text = new StringBuilder();
        int atoms = 1 + below(most / 2 + 1);
        for (int k = 0; k < atoms; k++) {
            text.append(below(2) == 0 ? " " : "");
            int kind = depth == 0 || pointsLeft < 1 || wordsLeft < 4 ? 0 : below(3);
            if (kind == 0) {
                text.append(wordsLeft > 0 || k == 0 ? some(1 + below(longest)) : "").append(' ');
                wordsLeft--;
                continue;
            }
            pointsLeft--;
            text.append(kind == 1 ? '(' : '[').append(row(depth - 1, most / 3));
            int parts = below(3);
            for (int part = 0; part < parts; part++) {
                text.append('|').append(row(depth - 1, most / 3));
            }
            text.append(kind == 1 ? ')' : ']');
        }
        return text.toString();
    }

    private String marred(String text) {
        String signs = "()[]| az{`A";
        char sign = below(12) == 0 ? (char) below(256) : signs.charAt(below(signs.length()));
        int at = below(text.length() + 1);
        switch (below(4)) {
            case 0:
                return text.substring(0, at) + sign + text.substring(at);
            case 1:
                return text.substring(0, at);
            case 2:
                return text.substring(0, at) + some(11) + text.substring(at);
            default:
                return at == text.length() ? text : text.substring(0, at) + sign + text.substring(at + 1);
        }
    }

    private String some(int count) {
        StringBuilder text = new StringBuilder();
        int range = below(40) == 0 ? letters + 1 : letters;
        for (int k = 0; k < count; k++) {
            text.append((char) ('a' + below(range)));
        }
        return text.toString();
    }

    private void pushSome(int count) {
        for (int k = 0; k < count; k++) {
            call(2, below(16));
        }
    }

    private int fed(String text) {
        if (below(4) != 0 && model.count(6) > 0) {
            call(8, 0);
        }
        for (int from = 0; from < Math.max(1, text.length()); from += 20) {
            int[] numbers = new int[5];
            for (int i = 0; i < 20 && from + i < text.length(); i++) {
                numbers[i / 4] |= text.charAt(from + i) << (24 - 8 * (i % 4));
            }
            call(5, numbers);
        }
        return text.length();
    }

    private int anyNumber() {
        int[] far = {Integer.MIN_VALUE, Integer.MAX_VALUE, -2, -1, 16, 17, 40, 120, 400, 401};
        return below(4) == 0 ? far[below(far.length)] : below(20) - 1;
    }

    private void any(int op) {
        call(op, anyNumber(), anyNumber(), anyNumber(), anyNumber(), anyNumber());
    }

    private void call(int op, int... given) {
        if (wrong || calls >= CALLS) {
            return;
        }
        int[] a = java.util.Arrays.copyOf(given, 5);
        String got = answer(() -> ofDesk(op, a));
        String due = answer(() -> ofModel(op, a));
        calls++;
        log.add(NAMES[op] + java.util.Arrays.toString(a) + " = " + got + (got.equals(due) ? "" : ", due is " + due));
        wrong = !got.equals(due);
    }

    private static String answer(java.util.function.IntSupplier call) {
        try {
            return String.valueOf(call.getAsInt());
        } catch (RuntimeException thrown) {
            return thrown.getClass().getName();
        }
    }

    private int ofDesk(int op, int[] a) {
        switch (op) {
            case 0: return desk.cost(a[0], a[1], a[2]);
            case 1: return desk.near(a[0], a[1]);
            case 2: return desk.push(a[0]);
            case 3: return desk.drop();
            case 4: return desk.hand(a[0]);
            case 5: return desk.feed(a[0], a[1], a[2], a[3], a[4]);
            case 6: return desk.rule(a[0]);
            case 7: return desk.book(a[0]);
            case 8: return desk.read(a[0]);
            case 9: return desk.grammar(a[0]);
            case 10: return desk.place();
            case 11: return desk.sound(a[0], a[1]);
            case 12: return desk.pick(a[0], a[1]);
            case 13: return desk.distance(a[0], a[1]);
            case 14: return desk.apart();
            case 15: return desk.pair(a[0]);
            case 16: return desk.hear();
            case 17: return desk.heard(a[0]);
            case 18: return desk.again(a[0]);
            case 19: return desk.slot();
            case 20: return desk.word(a[0], a[1]);
            case 21: return desk.best();
            case 22: return desk.chosen(a[0]);
            default: return desk.count(a[0]);
        }
    }

    private int ofModel(int op, int[] a) {
        switch (op) {
            case 0: return model.cost(a[0], a[1], a[2]);
            case 1: return model.near(a[0], a[1]);
            case 2: return model.push(a[0]);
            case 3: return model.drop();
            case 4: return model.hand(a[0]);
            case 5: return model.feed(a[0], a[1], a[2], a[3], a[4]);
            case 6: return model.rule(a[0]);
            case 7: return model.book(a[0]);
            case 8: return model.read(a[0]);
            case 9: return model.grammar(a[0]);
            case 10: return model.place();
            case 11: return model.sound(a[0], a[1]);
            case 12: return model.pick(a[0], a[1]);
            case 13: return model.distance(a[0], a[1]);
            case 14: return model.apart();
            case 15: return model.pair(a[0]);
            case 16: return model.hear();
            case 17: return model.heard(a[0]);
            case 18: return model.again(a[0]);
            case 19: return model.slot();
            case 20: return model.word(a[0], a[1]);
            case 21: return model.best();
            case 22: return model.chosen(a[0]);
            default: return model.count(a[0]);
        }
    }
}
