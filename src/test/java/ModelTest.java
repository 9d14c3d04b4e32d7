import java.util.ArrayList;
import java.util.Arrays;
import java.util.List;

/**
 * Long runs of calls, right and wrong ones, on a desk and on a slow model that follows the
 * document's words one by one and shares nothing with the program; and what the document says of
 * all formulas and words at once. The numbers that choose the calls are always the same ones. No
 * desk is used for more than 512 calls: what comes behind them is free.
 */
public final class ModelTest {
    private static long seed = 20261115L;

    public static void main(String[] args) {
        Due.test("runs of calls", ModelTest::compareRuns);
        Due.test("everything about a formula", ModelTest::compareFormulas);
        Due.test("short lines", ModelTest::compareLines);
        Due.test("its letters, the loop again and again, are a word on which the formula is so", ModelTest::walksHold);
        Due.test("a formula that is so at some place of some word can be so", ModelTest::wordsCan);
        Due.end();
    }

    // ---- runs of calls

    private static void compareRuns() {
        for (int run = 0; run < 800; run++) {
            compareRun(run);
        }
    }

    private static void compareRun(int run) {
        LassoDesk desk = new LassoDesk();
        Model model = new Model();
        StringBuilder told = new StringBuilder();
        List<int[]> calls = new ArrayList<>();
        while (calls.size() < 200) {
            addCalls(calls);
        }
        for (int[] call : calls) {
            String got = answerOf(desk, call);
            String due = model.answerOf(call);
            told.append(NAMES[call[0]]).append('(').append(call[1]).append(", ").append(call[2]).append(") ").append(due).append('\n');
            if (!got.equals(due)) {
                Due.wrong("run " + run + ":\n" + told + "the last one answered " + got);
                return;
            }
        }
    }

    private static final String[] NAMES = {"type", "formula", "states", "isAt", "leads", "lasts", "lasting", "promises",
        "can", "stem", "loop", "step", "shape", "set", "adopt", "letter", "holds"};

    private static void addCalls(List<int[]> calls) {
        int kind = random(20);
        if (kind < 2) {
            addLine(calls, random(4) == 0 ? spoil(randomFormula(6)) : randomFormula(6));
        } else if (kind < 3) {
            calls.add(new int[] {0, random(3) == 0 ? wildInt() : Due.pack(spoil(randomFormula(3))), 0});
        } else {
            int name = 2 + random(NAMES.length - 2);
            calls.add(new int[] {name, argument(name), argument(name)});
        }
    }

    private static void addLine(List<int[]> calls, String line) {
        for (int i = 0; i < line.length(); ) {
            int count = Math.min(1 + random(4), line.length() - i);
            calls.add(new int[] {0, Due.pack(line.substring(i, i + count)), 0});
            i += count;
        }
        calls.add(new int[] {1, 0, 0});
    }

    private static int argument(int name) {
        if (random(12) == 0) {
            return wildInt();
        }
        switch (NAMES[name]) {
            case "isAt": case "leads": case "lasts":
                return random(random(2) == 0 ? 64 : 260) - (random(20) == 0 ? 3 : 0);
            case "shape":
                return random(11) - 1;
            default:
                return random(20) - 1;
        }
    }

    private static String answerOf(LassoDesk desk, int[] call) {
        int x = call[1];
        int y = call[2];
        try {
            switch (NAMES[call[0]]) {
                case "type": return "" + desk.type(x);
                case "formula": return "" + desk.formula();
                case "states": return "" + desk.states();
                case "isAt": return "" + desk.isAt(x);
                case "leads": return "" + desk.leads(x, y);
                case "lasts": return "" + desk.lasts(x);
                case "lasting": return "" + desk.lasting();
                case "promises": return "" + desk.promises();
                case "can": return "" + desk.can();
                case "stem": return "" + desk.stem();
                case "loop": return "" + desk.loop();
                case "step": return "" + desk.step(x);
                case "shape": desk.shape(x, y); return "done";
                case "set": return "" + desk.set(x, y);
                case "adopt": return "" + desk.adopt();
                case "letter": return "" + desk.letter(x);
                default: return "" + desk.holds(x);
            }
        } catch (RuntimeException e) {
            return e.getClass().getSimpleName();
        }
    }

    // ---- one formula, everything that can be asked of it

    private static void compareFormulas() {
        for (int i = 0; i < 1000; i++) {
            compareWhole(randomFormula(5));
        }
    }

    private static void compareWhole(String line) {
        LassoDesk desk = Due.deskOf(line);
        Model model = new Model();
        model.form(line);
        boolean same = desk.states() == model.stateCount() && desk.promises() == model.promised.size();
        for (int s = 0; same && s < model.stateCount(); s++) {
            // Two calls for each of 256 states are too many for one desk.
            if (s == model.stateCount() / 2) {
                desk = Due.deskOf(line);
            }
            same = desk.isAt(s) == model.isSo(model.root, s) && desk.lasts(s) == model.lasting[s];
            same = same && leadsAlike(line, s, model);
        }
        Due.due("a comparison of " + line, same && walksAlike(line, model), true);
    }

    private static boolean leadsAlike(String line, int from, Model model) {
        LassoDesk desk = Due.deskOf(line);
        boolean same = true;
        for (int to = 0; same && to < model.stateCount(); to++) {
            same = desk.leads(from, to) == model.edges[from][to];
        }
        return same;
    }

    private static boolean walksAlike(String line, Model model) {
        LassoDesk desk = Due.deskOf(line);
        boolean same = desk.lasting() == model.countLasting() && desk.can() == (model.stem >= 0)
            && desk.stem() == model.stem && desk.loop() == model.loop;
        for (int k = 0; same && k < model.walk.size(); k++) {
            same = desk.step(k) == model.walk.get(k);
        }
        return same;
    }

    private static void compareLines() {
        for (String line : shortLines()) {
            compareReading(line);
        }
    }

    private static void compareReading(String line) {
        Model model = new Model();
        String due;
        try {
            due = "" + model.form(line);
        } catch (IllegalArgumentException e) {
            due = "IllegalArgumentException";
        }
        LassoDesk desk = new LassoDesk();
        Due.typeAll(desk, line);
        Due.due(line, answerOf(desk, new int[] {1, 0, 0}), due);
    }

    /** All lines of up to four characters over the signs, and all rows of up to five nested brackets. */
    private static List<String> shortLines() {
        List<String> lines = new ArrayList<>();
        String signs = "0a!XFUR&|>()";
        lines.add("");
        for (int from = 0, length = 1; length <= 4; length++) {
            int end = lines.size();
            for (; from < end; from++) {
                for (int i = 0; i < signs.length(); i++) {
                    lines.add(lines.get(from) + signs.charAt(i));
                }
            }
        }
        for (int deep = 1; deep <= 6; deep++) {
            lines.add("(".repeat(deep) + "a" + ")".repeat(deep));
            lines.add("(".repeat(deep) + "a" + ")".repeat(deep) + "|(b)");
            lines.add("(b)|" + "(".repeat(deep) + "a" + ")".repeat(deep));
        }
        return lines;
    }

    // ---- what the document says of all formulas and words

    private static void walksHold() {
        for (int i = 0; i < 3000; i++) {
            String line = randomFormula(5);
            LassoDesk desk = Due.deskOf(line);
            if (desk.adopt()) {
                Due.due(line + " on the word of its own walk", desk.holds(0), true);
            }
        }
    }

    private static void wordsCan() {
        for (int i = 0; i < 3000; i++) {
            String line = randomFormula(5);
            if (Due.deskOf(line).can()) {
                continue;
            }
            for (int word = 0; word < 20; word++) {
                LassoDesk desk = Due.deskOf(line);
                int stem = random(9);
                int loop = 1 + random(8);
                desk.shape(stem, loop);
                for (int k = 0; k < stem + loop; k++) {
                    desk.set(k, random(8));
                }
                for (int k = 0; k < stem + loop; k++) {
                    Due.due(line + ", which can't be so, on a word", desk.holds(k), false);
                }
            }
        }
    }

    // ---- helpers

    private static int random(int below) {
        seed = seed * 6364136223846793005L + 1442695040888963407L;
        return (int) ((seed >>> 33) % below);
    }

    private static int wildInt() {
        int[] edges = {Integer.MIN_VALUE, Integer.MAX_VALUE, -1, 0, 256, 255, 16, 15, 8, 9, 'a' | 127 << 8, ' ', 33, 126 | 33 << 8, 128 << 24 | 0x616161};
        return random(3) == 0 ? random(1 << 16) << 16 ^ random(1 << 16) : edges[random(edges.length)];
    }

    /** A line that is a formula, of at most 18 characters and so many temporal parts. */
    private static String randomFormula(int temporals) {
        for (;;) {
            String line = randomPart(5);
            int count = 0;
            for (int i = 0; i < line.length(); i++) {
                count += "XFGUR".indexOf(line.charAt(i)) >= 0 ? 1 : 0;
            }
            if (line.length() <= 18 && count <= temporals && (count >= 2 || random(3) == 0)) {
                return line;
            }
        }
    }

    private static String randomPart(int deep) {
        int kind = deep == 0 ? 0 : random(10);
        if (kind < 2) {
            return "" + "abcabcabc01".charAt(random(11));
        }
        if (kind < 6) {
            String of = randomPart(deep - 1);
            return "!XFGFG".charAt(random(6)) + (of.length() > 1 && random(2) == 0 ? "(" + of + ")" : of);
        }
        String left = randomPart(deep - 1);
        String right = randomPart(deep - 1);
        return (left.length() > 1 && random(2) == 0 ? "(" + left + ")" : left) + "UR&|>UR".charAt(random(7))
            + (right.length() > 1 && random(2) == 0 ? "(" + right + ")" : right);
    }

    private static String spoil(String line) {
        StringBuilder spoilt = new StringBuilder(line);
        int at = random(line.length());
        char other = "01abcd!XFGUR&|>()x~".charAt(random(19));
        switch (random(3)) {
            case 0: spoilt.deleteCharAt(at); break;
            case 1: spoilt.insert(at, other); break;
            default: spoilt.setCharAt(at, other);
        }
        return spoilt.toString();
    }

    // ---- the model

    private static final class Node {
        char sign;
        int place;
        Node p;
        Node q;
    }

    private static final class Model {
        String line = "";
        Node root = null;
        List<Node> temporals = new ArrayList<>();
        List<Node> promised = new ArrayList<>();
        int parts;
        boolean[] lasting;
        List<Integer> walk = new ArrayList<>();
        int stem;
        int loop;
        int[] word = {0};
        int wordStem = 0;

        String answerOf(int[] call) {
            try {
                return "" + answer(NAMES[call[0]], call[1], call[2]);
            } catch (RuntimeException e) {
                return e.getClass().getSimpleName();
            }
        }

        private Object answer(String name, int x, int y) {
            switch (name) {
                case "type": return typed(x);
                case "formula": {
                    String text = line;
                    line = "";
                    return form(text);
                }
                case "shape": reshape(x, y); return "done";
                case "set": {
                    if (x < 0 || x >= word.length) throw new IndexOutOfBoundsException();
                    int old = word[x];
                    word[x] = y & 7;
                    return old;
                }
                case "letter":
                    if (x < 0) throw new IndexOutOfBoundsException();
                    return word[index(x)];
                default:
                    if (root == null) throw new IllegalStateException();
                    return answerWithFormula(name, x, y);
            }
        }

        private Object answerWithFormula(String name, int x, int y) {
            switch (name) {
                case "states": return stateCount();
                case "isAt": bound(x); return isSo(root, x);
                case "leads": bound(x); bound(y); return leadsTo(x, y);
                case "lasts": bound(x); return lasting[x];
                case "lasting": return countLasting();
                case "promises": return promised.size();
                case "can": return stem >= 0;
                case "stem": return stem;
                case "loop": return loop;
                case "step":
                    if (stem < 0) throw new IllegalStateException();
                    if (x < 0 || x >= walk.size()) throw new IndexOutOfBoundsException();
                    return walk.get(x);
                case "adopt": {
                    if (stem < 0 || stem > 8 || loop > 8) return false;
                    wordStem = stem;
                    word = new int[walk.size()];
                    for (int i = 0; i < word.length; i++) word[i] = walk.get(i) & 7;
                    return true;
                }
                default:
                    if (x < 0) throw new IndexOutOfBoundsException();
                    return isOn(root, index(x));
            }
        }

        int countLasting() {
            int count = 0;
            for (boolean b : lasting) count += b ? 1 : 0;
            return count;
        }

        private boolean typed(int four) {
            String more = "";
            for (int i = 0; i < 4; i++) {
                int code = four >>> 8 * i & 0xff;
                if (code == 0) break;
                if (code < 33 || code > 126) throw new IllegalArgumentException();
                more += (char) code;
            }
            if (line.length() + more.length() > 18) return false;
            line += more;
            return true;
        }

        private void reshape(int newStem, int newLoop) {
            if (newStem < 0 || newStem > 8 || newLoop < 1 || newLoop > 8) throw new IllegalArgumentException();
            word = Arrays.copyOf(word, newStem + newLoop);
            wordStem = newStem;
        }

        private int index(int k) {
            while (k > 1000) k -= Math.max(1, (k - 1000) / (word.length - wordStem)) * (word.length - wordStem);
            while (k >= word.length) k -= word.length - wordStem;
            return k;
        }

        private void bound(int state) {
            if (state < 0 || state >= stateCount()) throw new IndexOutOfBoundsException();
        }

        int stateCount() {
            return 8 * (1 << temporals.size());
        }

        // reading: the weakest sign outside brackets splits the text

        int form(String text) {
            List<Node> all = new ArrayList<>();
            Node read = chain(text, 0, 0, all);
            List<Node> found = new ArrayList<>();
            for (int at = 0; at < text.length(); at++) {
                for (Node n : all) if (n.place == at && "XFGUR".indexOf(n.sign) >= 0) found.add(n);
            }
            if (found.size() > 5) throw new IllegalArgumentException();
            root = read;
            parts = all.size();
            temporals = found;
            promised = new ArrayList<>();
            for (Node n : temporals) if (n.sign != 'X') promised.add(n);
            findLasting();
            findWalk();
            return parts;
        }

        private Node chain(String text, int from, int deep, List<Node> all) {
            if (deep > 4) throw new IllegalArgumentException();
            for (String signs : new String[] {">", "|", "&", "UR"}) {
                int at = firstOutside(text, signs);
                if (at >= 0) {
                    Node n = node(text.charAt(at), from + at, all);
                    n.p = chain(text.substring(0, at), from, deep, all);
                    n.q = chain(text.substring(at + 1), from + at + 1, deep, all);
                    return n;
                }
            }
            if (text.isEmpty()) throw new IllegalArgumentException();
            char c = text.charAt(0);
            if (text.length() == 1 && "01abc".indexOf(c) >= 0) return node(c, from, all);
            if ("!XFG".indexOf(c) >= 0) {
                Node n = node(c, from, all);
                n.p = chain(text.substring(1), from + 1, deep, all);
                return n;
            }
            if (c == '(' && closing(text) == text.length() - 1) {
                return chain(text.substring(1, text.length() - 1), from + 1, deep + 1, all);
            }
            throw new IllegalArgumentException();
        }

        private Node node(char sign, int place, List<Node> all) {
            Node n = new Node();
            n.sign = sign;
            n.place = place;
            all.add(n);
            return n;
        }

        private int firstOutside(String text, String signs) {
            int open = 0;
            for (int i = 0; i < text.length(); i++) {
                char c = text.charAt(i);
                if (c == '(') open++;
                if (c == ')') open--;
                if (open < 0) throw new IllegalArgumentException();
                if (open == 0 && signs.indexOf(c) >= 0) return i;
            }
            return -1;
        }

        private int closing(String text) {
            int open = 0;
            for (int i = 0; i < text.length(); i++) {
                if (text.charAt(i) == '(') open++;
                if (text.charAt(i) == ')') open--;
                if (open == 0) return i;
            }
            return -1;
        }

        // states

        boolean isSo(Node n, int s) {
            boolean e = temporals.contains(n) && (s >> 3 + temporals.indexOf(n) & 1) == 1;
            switch (n.sign) {
                case '0': return false;
                case '1': return true;
                case 'a': return (s & 1) != 0;
                case 'b': return (s & 2) != 0;
                case 'c': return (s & 4) != 0;
                case '!': return !isSo(n.p, s);
                case '&': return isSo(n.p, s) && isSo(n.q, s);
                case '|': return isSo(n.p, s) || isSo(n.q, s);
                case '>': return !isSo(n.p, s) || isSo(n.q, s);
                case 'X': return e;
                case 'F': return isSo(n.p, s) || e;
                case 'G': return isSo(n.p, s) && e;
                case 'U': return isSo(n.q, s) || isSo(n.p, s) && e;
                default: return isSo(n.q, s) && (isSo(n.p, s) || e);
            }
        }

        boolean leadsTo(int s, int t) {
            for (int i = 0; i < temporals.size(); i++) {
                Node n = temporals.get(i);
                boolean e = (s >> 3 + i & 1) == 1;
                if (e != isSo(n.sign == 'X' ? n.p : n, t)) return false;
            }
            return true;
        }

        private boolean open(Node n, int s) {
            return n.sign == 'F' || n.sign == 'U' ? isSo(n, s) : !isSo(n, s);
        }

        private boolean kept(Node n, int s) {
            switch (n.sign) {
                case 'F': return isSo(n.p, s);
                case 'U': return isSo(n.q, s);
                case 'G': return !isSo(n.p, s);
                default: return !isSo(n.q, s);
            }
        }

        private boolean[][] edges;

        private void findLasting() {
            int count = stateCount();
            edges = new boolean[count][count];
            for (int t = 0; t < count; t++) {
                for (int s = 0; s < count; s++) edges[s][t] = leadsTo(s, t);
            }
            lasting = new boolean[count];
            Arrays.fill(lasting, true);
            boolean changed = true;
            while (changed) {
                changed = false;
                boolean[] stays = new boolean[count];
                int[][] far = new int[promised.size()][];
                for (int i = 0; i < far.length; i++) far[i] = distances(promised.get(i));
                for (int s = 0; s < count; s++) {
                    stays[s] = lasting[s] && leastNext(s) >= 0;
                    for (int i = 0; i < far.length; i++) {
                        if (open(promised.get(i), s) && far[i][s] == FAR) stays[s] = false;
                    }
                    changed |= lasting[s] != stays[s];
                }
                lasting = stays;
            }
        }

        private static final int FAR = 1 << 20;

        /** The fewest steps, by asking every state again until no answer changes. */
        private int[] distances(Node n) {
            int[] far = new int[stateCount()];
            for (int s = 0; s < far.length; s++) far[s] = lasting[s] && kept(n, s) ? 0 : FAR;
            boolean changed = true;
            while (changed) {
                changed = false;
                for (int s = 0; s < far.length; s++) {
                    for (int t = 0; lasting[s] && t < far.length; t++) {
                        if (lasting[t] && edges[s][t] && far[t] + 1 < far[s]) {
                            far[s] = far[t] + 1;
                            changed = true;
                        }
                    }
                }
            }
            return far;
        }

        private int leastNext(int s) {
            for (int t = 0; t < lasting.length; t++) if (lasting[t] && edges[s][t]) return t;
            return -1;
        }

        private void findWalk() {
            walk.clear();
            stem = -1;
            loop = -1;
            int s = 0;
            while (s < lasting.length && !(lasting[s] && isSo(root, s))) s++;
            if (s == lasting.length) return;
            List<String> pairs = new ArrayList<>();
            int duty = 0;
            for (;;) {
                duty = newDuty(s, duty);
                int seen = pairs.indexOf(s + " " + duty);
                if (seen >= 0) {
                    stem = seen;
                    loop = pairs.size() - seen;
                    return;
                }
                pairs.add(s + " " + duty);
                walk.add(s);
                s = promised.isEmpty() || done(s, duty) ? leastNext(s) : nearest(s, promised.get(duty));
            }
        }

        private boolean done(int s, int duty) {
            return !open(promised.get(duty), s) || kept(promised.get(duty), s);
        }

        private int newDuty(int s, int duty) {
            boolean all = true;
            for (int i = 0; i < promised.size(); i++) all &= done(s, i);
            if (all) return duty;
            int d = duty;
            while (done(s, d)) d = (d + 1) % promised.size();
            return d;
        }

        private int nearest(int s, Node n) {
            int[] far = distances(n);
            int best = -1;
            for (int t = 0; t < far.length; t++) {
                if (lasting[t] && edges[s][t] && (best < 0 || far[t] < far[best])) best = t;
            }
            return best;
        }

        // words

        private int next(int i) {
            return i + 1 < word.length ? i + 1 : wordStem;
        }

        private boolean isOn(Node n, int i) {
            switch (n.sign) {
                case '0': return false;
                case '1': return true;
                case 'a': return (word[i] & 1) != 0;
                case 'b': return (word[i] & 2) != 0;
                case 'c': return (word[i] & 4) != 0;
                case '!': return !isOn(n.p, i);
                case '&': return isOn(n.p, i) && isOn(n.q, i);
                case '|': return isOn(n.p, i) || isOn(n.q, i);
                case '>': return !isOn(n.p, i) || isOn(n.q, i);
                case 'X': return isOn(n.p, next(i));
                default: return isOnLater(n, i);
            }
        }

        /** Two rounds of the word have every place that can ever be come to. */
        private boolean isOnLater(Node n, int i) {
            for (int round = 0; round < 2 * word.length; round++, i = next(i)) {
                if (n.sign == 'F' && isOn(n.p, i)) return true;
                if (n.sign == 'G' && !isOn(n.p, i)) return false;
                if (n.sign == 'U' && isOn(n.q, i)) return true;
                if (n.sign == 'U' && !isOn(n.p, i)) return false;
                if (n.sign == 'R' && !isOn(n.q, i)) return false;
                if (n.sign == 'R' && isOn(n.p, i)) return true;
            }
            return n.sign == 'G' || n.sign == 'R';
        }
    }
}
