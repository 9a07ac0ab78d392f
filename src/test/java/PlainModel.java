import java.util.ArrayList;
import java.util.Arrays;
import java.util.List;
import java.util.TreeMap;

/**
 * The document once more, in the slowest and plainest way and by other means than the class: texts and maps,
 * a tree for the grammar, commands sorted behind making them, every pair and every choice looked at.
 */
final class PlainModel {
    private static final class Node {
        String kind;
        int point;
        List<Integer> sounds;
        final List<List<Node>> parts = new ArrayList<>();
    }

    private static final class Command {
        final int[] picks = new int[8];
        final List<Integer> sounds = new ArrayList<>();

        Command() {
            Arrays.fill(picks, -1);
        }

        Command with(Command more) {
            Command both = new Command();
            for (int p = 0; p < 8; p++) {
                both.picks[p] = Math.max(picks[p], more.picks[p]);
            }
            both.sounds.addAll(sounds);
            both.sounds.addAll(more.sounds);
            return both;
        }
    }

    private static final class Fault extends RuntimeException {
        private static final long serialVersionUID = 1;
        final int number;
        final int place;

        Fault(int number, int place) {
            this.number = number;
            this.place = place;
        }
    }

    private final int[][] costs = new int[17][17];
    private List<Integer> hand = new ArrayList<>();
    private final StringBuilder tape = new StringBuilder();
    private final TreeMap<String, List<Integer>> rules = new TreeMap<>();
    private final TreeMap<String, List<Integer>> book = new TreeMap<>();
    private List<Command> commands = new ArrayList<>();
    private int points = 0;
    private int place = -1;
    private int[] heard = null;
    private List<Integer> again = new ArrayList<>();
    private final List<List<List<Integer>>> slots = new ArrayList<>();

    PlainModel() {
        for (int[] row : costs) {
            Arrays.fill(row, 100);
        }
    }

    private static void legal(boolean holds) {
        if (!holds) {
            throw new IllegalArgumentException();
        }
    }

    private static void inside(boolean holds) {
        if (!holds) {
            throw new IndexOutOfBoundsException();
        }
    }

    int cost(int x, int y, int cost) {
        legal(x >= -1 && x <= 15 && y >= -1 && y <= 15 && x != y && cost >= 1 && cost <= 100);
        int was = costs[x + 1][y + 1];
        costs[x + 1][y + 1] = cost;
        costs[y + 1][x + 1] = cost;
        return was;
    }

    int near(int x, int y) {
        legal(x >= -1 && x <= 15 && y >= -1 && y <= 15);
        return nears(x)[y + 1];
    }

    /** From one of them to all, by going round until nothing changes. */
    private int[] nears(int x) {
        int[] least = new int[17];
        Arrays.fill(least, 1000);
        least[x + 1] = 0;
        boolean changed = true;
        while (changed) {
            changed = false;
            for (int a = 0; a < 17; a++) {
                for (int b = 0; b < 17; b++) {
                    if (a != b && least[a] + costs[a][b] < least[b]) {
                        least[b] = least[a] + costs[a][b];
                        changed = true;
                    }
                }
            }
        }
        return least;
    }

    private int[][] allNears() {
        int[][] all = new int[17][];
        for (int x = -1; x < 16; x++) {
            all[x + 1] = nears(x);
        }
        return all;
    }

    /** Every way of laying the two rows side by side, told from the end on. */
    private static int gap(List<Integer> a, List<Integer> b, int[][] near) {
        int[][] rest = new int[a.size() + 1][b.size() + 1];
        for (int i = a.size(); i >= 0; i--) {
            for (int j = b.size(); j >= 0; j--) {
                int least = i == a.size() && j == b.size() ? 0 : Integer.MAX_VALUE;
                if (i < a.size()) {
                    least = Math.min(least, near[a.get(i) + 1][0] + rest[i + 1][j]);
                }
                if (j < b.size()) {
                    least = Math.min(least, near[0][b.get(j) + 1] + rest[i][j + 1]);
                }
                if (i < a.size() && j < b.size()) {
                    least = Math.min(least, near[a.get(i) + 1][b.get(j) + 1] + rest[i + 1][j + 1]);
                }
                rest[i][j] = least;
            }
        }
        return rest[0][0];
    }

    int push(int sound) {
        legal(sound >= 0 && sound <= 15);
        if (hand.size() == 40) {
            return -1;
        }
        hand.add(sound);
        return hand.size();
    }

    int drop() {
        int had = hand.size();
        hand = new ArrayList<>();
        return had;
    }

    int hand(int k) {
        return k >= 0 && k < hand.size() ? hand.get(k) : -1;
    }

    int feed(int... numbers) {
        if (tape.length() + 20 > 400) {
            return -1;
        }
        for (int number : numbers) {
            for (byte b : java.nio.ByteBuffer.allocate(4).putInt(number).array()) {
                tape.append((char) (b & 255));
            }
        }
        return tape.length();
    }

    private String taken(int n) {
        legal(n >= 0 && n <= tape.length());
        String text = tape.substring(0, n);
        tape.setLength(0);
        return text;
    }

    int rule(int n) {
        return told(taken(n), "[a-z]{1,4}", 0, 3, rules, 60);
    }

    int book(int n) {
        return told(taken(n), "[a-z]{1,10}", 1, 20, book, 40);
    }

    private int told(String text, String form, int low, int high, TreeMap<String, List<Integer>> into, int most) {
        List<Integer> row = hand;
        hand = new ArrayList<>();
        if (!text.matches(form) || row.size() < low || row.size() > high) {
            return -1;
        }
        if (!into.containsKey(text) && into.size() == most) {
            return -2;
        }
        into.put(text, row);
        return into.size();
    }

    /** The sounds; or, in place of them, the one number -2 less the place. */
    private List<Integer> reading(String text) {
        if (book.containsKey(text)) {
            return new ArrayList<>(book.get(text));
        }
        List<Integer> sounds = new ArrayList<>();
        String rest = text;
        while (!rest.isEmpty()) {
            String found = null;
            for (String letters : rules.keySet()) {
                if (rest.startsWith(letters) && (found == null || letters.length() > found.length())) {
                    found = letters;
                }
            }
            if (found == null) {
                return List.of(-2 - (text.length() - rest.length()));
            }
            sounds.addAll(rules.get(found));
            rest = rest.substring(found.length());
        }
        return sounds.isEmpty() || sounds.size() > 20 ? List.of(-2 - text.length()) : sounds;
    }

    int read(int n) {
        String text = taken(n);
        if (!text.matches("[a-z]{1,10}")) {
            return -1;
        }
        List<Integer> sounds = reading(text);
        if (sounds.get(0) < 0) {
            return sounds.get(0);
        }
        hand = sounds;
        return sounds.size();
    }

    private String text;
    private int at;
    private int spellings;
    private int opened;

    int grammar(int n) {
        text = taken(n);
        at = 0;
        spellings = 0;
        opened = 0;
        try {
            List<Node> whole = row();
            if (at < text.length()) {
                throw new Fault(1, at);
            }
            List<Command> all = said(whole, 0);
            if (all.size() > 120) {
                throw new Fault(5, text.length());
            }
            for (Command command : all) {
                if (command.sounds.size() > 40) {
                    throw new Fault(6, text.length());
                }
            }
            all.sort((a, b) -> Arrays.compare(a.picks, b.picks));
            commands = all;
            points = opened;
            place = -1;
            heard = null;
            again = new ArrayList<>();
            return all.size();
        } catch (Fault fault) {
            place = fault.place;
            return fault.number - 10;
        }
    }

    private void blanks() {
        while (at < text.length() && text.charAt(at) == ' ') {
            at++;
        }
    }

    private char sign() {
        return at < text.length() ? text.charAt(at) : 0;
    }

    private boolean atomStands() {
        return sign() == '(' || sign() == '[' || sign() >= 'a' && sign() <= 'z';
    }

    private List<Node> row() {
        List<Node> nodes = new ArrayList<>();
        blanks();
        if (!atomStands()) {
            throw new Fault(1, at);
        }
        while (atomStands()) {
            nodes.add(sign() == '(' || sign() == '[' ? bracket() : spelling());
            blanks();
        }
        return nodes;
    }

    private Node bracket() {
        if (opened == 8) {
            throw new Fault(4, at);
        }
        Node node = new Node();
        node.kind = sign() == '(' ? ")" : "]";
        node.point = opened++;
        do {
            at++;
            node.parts.add(row());
        } while (sign() == '|');
        if (sign() != node.kind.charAt(0)) {
            throw new Fault(1, at);
        }
        at++;
        return node;
    }

    private Node spelling() {
        int from = at;
        while (sign() >= 'a' && sign() <= 'z') {
            at++;
        }
        String letters = text.substring(from, at);
        if (letters.length() > 10) {
            throw new Fault(2, from);
        }
        Node node = new Node();
        node.kind = "word";
        node.sounds = reading(letters);
        if (node.sounds.get(0) < 0) {
            throw new Fault(3, from);
        }
        if (++spellings > 20) {
            throw new Fault(4, from);
        }
        return node;
    }

    private List<Command> said(List<Node> nodes, int from) {
        List<Command> all = new ArrayList<>();
        if (from == nodes.size()) {
            all.add(new Command());
            return all;
        }
        List<Command> rest = said(nodes, from + 1);
        for (Command first : saidOf(nodes.get(from))) {
            for (Command other : rest) {
                all.add(first.with(other));
            }
        }
        return all;
    }

    private List<Command> saidOf(Node node) {
        List<Command> all = new ArrayList<>();
        if (node.kind.equals("word")) {
            Command command = new Command();
            command.sounds.addAll(node.sounds);
            all.add(command);
            return all;
        }
        for (int part = 0; part < node.parts.size(); part++) {
            for (Command command : said(node.parts.get(part), 0)) {
                command.picks[node.point] = part;
                all.add(command);
            }
        }
        if (node.kind.equals("]")) {
            Command none = new Command();
            none.picks[node.point] = node.parts.size();
            all.add(none);
        }
        return all;
    }

    int place() {
        return place;
    }

    int sound(int k, int i) {
        inside(k >= 0 && k < commands.size());
        List<Integer> sounds = commands.get(k).sounds;
        return i >= 0 && i < sounds.size() ? sounds.get(i) : -1;
    }

    int pick(int k, int point) {
        inside(k >= 0 && k < commands.size());
        legal(point >= 0 && point < points);
        return commands.get(k).picks[point];
    }

    int distance(int k, int other) {
        inside(k >= 0 && k < commands.size() && other >= 0 && other < commands.size());
        return gap(commands.get(k).sounds, commands.get(other).sounds, allNears());
    }

    /** APART, the lower, the other. */
    private int[] nearest() {
        int[] found = {-1, -1, -1};
        int[][] near = allNears();
        for (int k = 0; k < commands.size(); k++) {
            for (int other = k + 1; other < commands.size(); other++) {
                int apart = gap(commands.get(k).sounds, commands.get(other).sounds, near);
                if (found[0] == -1 || apart < found[0]) {
                    found = new int[] {apart, k, other};
                }
            }
        }
        return found;
    }

    int apart() {
        return nearest()[0];
    }

    int pair(int which) {
        legal(which == 0 || which == 1);
        return nearest()[1 + which];
    }

    int hear() {
        if (commands.isEmpty()) {
            return -1;
        }
        int[][] near = allNears();
        List<int[]> all = new ArrayList<>();
        for (int k = 0; k < commands.size(); k++) {
            all.add(new int[] {gap(hand, commands.get(k).sounds, near), k});
        }
        all.sort(Arrays::compare);
        hand = new ArrayList<>();
        again = new ArrayList<>();
        int[] first = all.get(0);
        if (all.size() == 1) {
            heard = new int[] {first[1], first[0], -1, -1, -1, 0};
            return first[1];
        }
        int[] second = all.get(1);
        for (int p = 0; p < points; p++) {
            if (commands.get(first[1]).picks[p] != commands.get(second[1]).picks[p]) {
                again.add(p);
            }
        }
        heard = new int[] {first[1], first[0], second[1], second[0], second[0] - first[0], again.size()};
        return first[1];
    }

    int heard(int what) {
        legal(what >= 0 && what <= 5);
        return heard == null ? -1 : heard[what];
    }

    int again(int k) {
        return k >= 0 && k < again.size() ? again.get(k) : -1;
    }

    int slot() {
        if (slots.size() == 8) {
            throw new IllegalStateException();
        }
        slots.add(new ArrayList<>());
        return slots.size() - 1;
    }

    int word(int slot, int n) {
        inside(slot >= 0 && slot < slots.size());
        legal(n >= 0 && n <= tape.length());
        if (slots.get(slot).size() == 4) {
            throw new IllegalStateException();
        }
        String letters = taken(n);
        if (!letters.matches("[a-z]{1,10}")) {
            return -1;
        }
        List<Integer> sounds = reading(letters);
        if (sounds.get(0) < 0) {
            return sounds.get(0);
        }
        slots.get(slot).add(sounds);
        return slots.get(slot).size() - 1;
    }

    /** BEST's WORTH, then its WORDS; null without one. */
    private int[] choice() {
        int choices = slots.size() < 2 ? 0 : 1;
        for (List<List<Integer>> slot : slots) {
            choices *= slot.size();
        }
        int[][][][] gaps = gaps();
        int[] found = null;
        for (int number = 0; number < choices; number++) {
            int[] words = new int[slots.size() + 1];
            int rest = number;
            for (int slot = slots.size() - 1; slot >= 0; slot--) {
                words[slot + 1] = rest % slots.get(slot).size();
                rest /= slots.get(slot).size();
            }
            words[0] = Integer.MAX_VALUE;
            for (int a = 0; a < slots.size(); a++) {
                for (int b = a + 1; b < slots.size(); b++) {
                    words[0] = Math.min(words[0], gaps[a][words[a + 1]][b][words[b + 1]]);
                }
            }
            if (found == null || words[0] > found[0]) {
                found = words;
            }
        }
        return found;
    }

    private int[][][][] gaps() {
        int[][] near = allNears();
        int[][][][] gaps = new int[8][4][8][4];
        for (int a = 0; a < slots.size(); a++) {
            for (int b = a + 1; b < slots.size(); b++) {
                for (int v = 0; v < slots.get(a).size(); v++) {
                    for (int w = 0; w < slots.get(b).size(); w++) {
                        gaps[a][v][b][w] = gap(slots.get(a).get(v), slots.get(b).get(w), near);
                    }
                }
            }
        }
        return gaps;
    }

    int best() {
        int[] found = choice();
        return found == null ? -1 : found[0];
    }

    int chosen(int slot) {
        inside(slot >= 0 && slot < slots.size());
        int[] found = choice();
        return found == null ? -1 : found[slot + 1];
    }

    int count(int what) {
        int[] counts = {rules.size(), book.size(), commands.size(), points, slots.size(), hand.size(), tape.length()};
        return what >= 0 && what < counts.length ? counts[what] : -1;
    }
}
