import java.util.function.IntPredicate;

/** What the tests share: desks with a formula or a word, and answers compared with those that are due. */
final class Due {
    /** Of one sentence only the first wrong answers are printed, so that the others are seen too. */
    private static final int PRINTED = 5;

    private static int wrong = 0;
    private static int wrongOfSentence = 0;
    private static String sentence = "";

    private Due() {
    }

    /** A call of which only the exception counts, or a whole test. */
    interface Act {
        void act();
    }

    /** Runs the test of the document's words, which are printed with a wrong answer. */
    static void test(String words, Act test) {
        sentence = words;
        wrongOfSentence = 0;
        try {
            test.act();
        } catch (RuntimeException | StackOverflowError e) {
            wrong("a call threw " + e + " at " + e.getStackTrace()[0]);
        }
    }

    static void due(String what, Object got, Object want) {
        if (!got.equals(want)) {
            wrong(what + " answered " + got + ", due is " + want);
        }
    }

    static void noState(String what, Act act) {
        thrown(what, IllegalStateException.class, act);
    }

    static void illegal(String what, Act act) {
        thrown(what, IllegalArgumentException.class, act);
    }

    static void outside(String what, Act act) {
        thrown(what, IndexOutOfBoundsException.class, act);
    }

    private static void thrown(String what, Class<?> due, Act act) {
        String got = "nothing";
        try {
            act.act();
        } catch (RuntimeException | StackOverflowError e) {
            if (e.getClass() == due) {
                return;
            }
            got = e.toString();
        }
        wrong(what + " threw " + got + ", due is " + due.getSimpleName());
    }

    static void wrong(String what) {
        wrong++;
        wrongOfSentence++;
        if (wrongOfSentence <= PRINTED) {
            System.out.println(sentence + ": " + what);
        }
    }

    static void end() {
        System.out.println(wrong == 0 ? "all answers are as due" : wrong + " answers are not as due");
        if (wrong != 0) {
            System.exit(1);
        }
    }

    // ---- desks

    static LassoDesk deskOf(String line) {
        LassoDesk desk = new LassoDesk();
        typeAll(desk, line);
        desk.formula();
        return desk;
    }

    static void typeAll(LassoDesk desk, String line) {
        for (int i = 0; i < line.length(); i += 4) {
            due("type of " + line, desk.type(pack(line.substring(i, Math.min(i + 4, line.length())))), true);
        }
    }

    static int pack(String text) {
        int four = 0;
        for (int i = 0; i < text.length() && i < 4; i++) {
            four |= text.charAt(i) << 8 * i;
        }
        return four;
    }

    /** A desk without a formula, whose only line was none. */
    static LassoDesk refused() {
        LassoDesk desk = new LassoDesk();
        typeAll(desk, "Fa&");
        illegal("formula() of Fa&", desk::formula);
        return desk;
    }

    static int codes(int first, int second, int third, int fourth) {
        return first | second << 8 | third << 16 | fourth << 24;
    }

    static boolean bit(int bits, int i) {
        return (bits >> i & 1) == 1;
    }

    static void formulaIs(String line, int parts) {
        LassoDesk desk = new LassoDesk();
        typeAll(desk, line);
        due("formula() of " + line, desk.formula(), parts);
    }

    static void noFormula(String line) {
        LassoDesk desk = new LassoDesk();
        typeAll(desk, line);
        illegal("formula() of " + line, desk::formula);
    }

    /** The line is empty when all of its 18 characters can be typed, and no more. */
    static void lineIsEmpty(LassoDesk desk) {
        typeAll(desk, "a&a&a&a&a&a&a&a&!a");
        due("type of a 19th character", desk.type('a'), false);
        due("formula() of the 18", desk.formula(), 18);
    }

    static void noFormulaYet(LassoDesk desk) {
        for (int number : new int[] {0, -1, 8, 999, Integer.MIN_VALUE, Integer.MAX_VALUE}) {
            noState("isAt(" + number + ")", () -> desk.isAt(number));
            noState("leads(" + number + ", 0)", () -> desk.leads(number, 0));
            noState("leads(0, " + number + ")", () -> desk.leads(0, number));
            noState("lasts(" + number + ")", () -> desk.lasts(number));
            noState("step(" + number + ")", () -> desk.step(number));
            noState("holds(" + number + ")", () -> desk.holds(number));
        }
        noState("states()", desk::states);
        noState("lasting()", desk::lasting);
        noState("promises()", desk::promises);
        noState("can()", desk::can);
        noState("stem()", desk::stem);
        noState("loop()", desk::loop);
        noState("adopt()", desk::adopt);
    }

    static void everyIsAt(String line, IntPredicate so) {
        LassoDesk desk = deskOf(line);
        int states = desk.states();
        for (int s = 0; s < states; s++) {
            due(line + " at " + s, desk.isAt(s), so.test(s));
        }
    }

    static void everyLasts(String line, IntPredicate lasts) {
        LassoDesk desk = deskOf(line);
        int states = desk.states();
        for (int s = 0; s < states; s++) {
            due(line + " lasts " + s, desk.lasts(s), lasts.test(s));
        }
    }

    /** Two desks that have been used alike, but for calls that change nothing, answer alike. */
    static void sameAnswers(LassoDesk desk, LassoDesk twin) {
        due("states()", desk.states(), twin.states());
        due("promises()", desk.promises(), twin.promises());
        due("lasting()", desk.lasting(), twin.lasting());
        due("stem()", desk.stem(), twin.stem());
        due("loop()", desk.loop(), twin.loop());
        int states = twin.states();
        for (int s = 0; s < states && s < 64; s++) {
            due("isAt(" + s + ")", desk.isAt(s), twin.isAt(s));
            due("lasts(" + s + ")", desk.lasts(s), twin.lasts(s));
            due("leads(" + s + ", " + s + ")", desk.leads(s, s), twin.leads(s, s));
        }
        for (int k = 0; k < twin.stem() + twin.loop(); k++) {
            due("step(" + k + ")", desk.step(k), twin.step(k));
        }
        for (int k = 0; k < 34; k++) {
            due("letter(" + k + ")", desk.letter(k), twin.letter(k));
            due("holds(" + k + ")", desk.holds(k), twin.holds(k));
        }
    }

    // ---- walks and words

    static void walkIs(LassoDesk desk, String line, int stem, int... steps) {
        due(line + " can", desk.can(), true);
        due(line + " stem", desk.stem(), stem);
        due(line + " loop", desk.loop(), steps.length - stem);
        for (int k = 0; k < steps.length; k++) {
            due(line + " step " + k, desk.step(k), steps[k]);
        }
        outside(line + " step behind the loop", () -> desk.step(steps.length));
    }

    static void walkIs(String line, int stem, int... steps) {
        walkIs(deskOf(line), line, stem, steps);
    }

    static void noWalk(LassoDesk desk, String line) {
        due(line + " can", desk.can(), false);
        due(line + " stem", desk.stem(), LassoDesk.NONE);
        due(line + " loop", desk.loop(), LassoDesk.NONE);
    }

    static void giveWord(LassoDesk desk, int stem, int... letters) {
        desk.shape(stem, letters.length - stem);
        for (int k = 0; k < letters.length; k++) {
            desk.set(k, letters[k]);
        }
    }

    /** The given word has this stem and the rest of the letters as its loop: no more, no fewer. */
    static void wordIs(LassoDesk desk, int stem, int... letters) {
        int loop = letters.length - stem;
        for (int k = 0; k < letters.length + 2 * loop; k++) {
            due("letter " + k, desk.letter(k), letters[k < stem ? k : stem + (k - stem) % loop]);
        }
        outside("set behind the loop", () -> desk.set(letters.length, 0));
        due("set of the last letter", desk.set(letters.length - 1, letters[letters.length - 1]), letters[letters.length - 1]);
    }
}
