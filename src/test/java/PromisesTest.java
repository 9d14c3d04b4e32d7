import java.util.function.IntPredicate;

/** Promises 1 to 18, one after the other: ordinary inputs, the edges that the document names, wrong inputs. */
public final class PromisesTest {
    private static int wrong = 0;
    private static int promise = 0;

    public static void main(String[] args) {
        newObject();
        type();
        typeLimit();
        typeWrongCharacters();
        formulaCountsParts();
        formulaRefuses();
        formulaStays();
        states();
        isAtOrdinary();
        isAtTemporal();
        isAtPrecedence();
        isAtWrong();
        leads();
        lasts();
        lasting();
        promises();
        can();
        stemLoopStep();
        stepWrong();
        shape();
        shapeWrong();
        set();
        adopt();
        letter();
        holdsOrdinary();
        holdsTemporal();
        holdsWrong();
        System.out.println(wrong == 0 ? "all answers are as due" : wrong + " answers are not as due");
        if (wrong != 0) {
            System.exit(1);
        }
    }

    // ---- 1

    private static void newObject() {
        promise = 1;
        LassoDesk desk = new LassoDesk();
        throwsNoFormula(desk);
        due("letter(0)", desk.letter(0), 0);
        due("letter(1000)", desk.letter(1000), 0);
        outside("set(1, 7): one letter only", () -> desk.set(1, 7));
        due("set(0, 1)", desk.set(0, 1), 0);
        due("letter(17): the one letter is the loop", desk.letter(17), 1);
        illegal("formula(): the line is empty", desk::formula);
        LassoDesk other = new LassoDesk();
        due("letter(0) of another object", other.letter(0), 0);
    }

    private static void throwsNoFormula(LassoDesk desk) {
        noFormula("states()", desk::states);
        noFormula("isAt(0)", () -> desk.isAt(0));
        noFormula("isAt(-1)", () -> desk.isAt(-1));
        noFormula("leads(0, 0)", () -> desk.leads(0, 0));
        noFormula("leads(-1, 0)", () -> desk.leads(-1, 0));
        noFormula("leads(0, 999)", () -> desk.leads(0, 999));
        noFormula("lasts(0)", () -> desk.lasts(0));
        noFormula("lasts(-1)", () -> desk.lasts(-1));
        noFormula("lasting()", desk::lasting);
        noFormula("promises()", desk::promises);
        noFormula("can()", desk::can);
        noFormula("stem()", desk::stem);
        noFormula("loop()", desk::loop);
        noFormula("step(0)", () -> desk.step(0));
        noFormula("step(-1)", () -> desk.step(-1));
        noFormula("adopt()", desk::adopt);
        noFormula("holds(0)", () -> desk.holds(0));
        noFormula("holds(-1)", () -> desk.holds(-1));
    }

    // ---- 2

    private static void type() {
        promise = 2;
        LassoDesk desk = new LassoDesk();
        due("type(F)", desk.type(codes('F', 0, 0, 0)), true);
        due("type(a|b)", desk.type(codes('a', '|', 'b', 0)), true);
        due("type(|c|a)", desk.type(codes('|', 'c', '|', 'a')), true);
        due("formula() of Fa|b|c|a", desk.formula(), 8);
        due("at a state where only b is so", desk.isAt(2), true);
        due("at a state where nothing is so", desk.isAt(0), false);
        desk.type(codes('a', '>', 'b', 0));
        desk.formula();
        due("the lowest byte is first: a>b at a alone", desk.isAt(1), false);
        due("the lowest byte is first: a>b at b alone", desk.isAt(2), true);
        due("type(0) puts nothing", desk.type(0), true);
        illegal("so the line is empty", desk::formula);
        due("what is behind a 0 is not looked at", desk.type(codes('a', 0, 200, 32)), true);
        due("and not put", desk.formula(), 1);
        due("a 0 in front", desk.type(codes(0, 'a', 'b', 31)), true);
        illegal("puts nothing", desk::formula);
        due("33 and 126 are characters", desk.type(codes(33, 126, 33, 126)), true);
        illegal("but no formula", desk::formula);
    }

    private static void typeLimit() {
        LassoDesk desk = new LassoDesk();
        for (int i = 0; i < 4; i++) {
            due("four more", desk.type(codes('!', '!', '!', '!')), true);
        }
        due("16 + 3 are too many", desk.type(codes('!', 'b', 'a', 0)), false);
        due("16 + 4 are too many", desk.type(codes('!', 'b', 'a', 'a')), false);
        due("16 + 2 are not", desk.type(codes('!', 'a', 0, 0)), true);
        due("18 + 1 are too many", desk.type(codes('a', 0, 0, 0)), false);
        due("18 + 0 are not", desk.type(0), true);
        illegal("a wrong character comes before too many", () -> desk.type(codes('a', 32, 0, 0)));
        due("formula(): nothing was changed", desk.formula(), 18);
        due("seventeen times not a", desk.isAt(0), true);
        due("seventeen times not a, at a", desk.isAt(1), false);
    }

    private static void typeWrongCharacters() {
        LassoDesk desk = new LassoDesk();
        desk.type(codes('a', '&', 0, 0));
        for (int code : new int[] {1, 9, 31, 32, 127, 128, 200, 255}) {
            illegal("first " + code, () -> desk.type(codes(code, 'b', 'b', 'b')));
            illegal("second " + code, () -> desk.type(codes('b', code, 0, 0)));
            illegal("third " + code, () -> desk.type(codes('b', 'b', code, 0)));
            illegal("fourth " + code, () -> desk.type(codes('b', 'b', 'b', code)));
        }
        illegal("type(-1)", () -> desk.type(-1));
        illegal("type(MIN_VALUE + b)", () -> desk.type(Integer.MIN_VALUE | codes('b', 'b', 'b', 0)));
        desk.type(codes('b', 0, 0, 0));
        due("formula(): the line had stayed", desk.formula(), 3);
    }

    // ---- 3

    private static void formulaCountsParts() {
        promise = 3;
        parts("0", 1);
        parts("1", 1);
        parts("a", 1);
        parts("b", 1);
        parts("c", 1);
        parts("(a)", 1);
        parts("!a", 2);
        parts("XFG!a", 5);
        parts("a&b", 3);
        parts("a&b&c&a", 7);
        parts("a|b|c", 5);
        parts("a>b>c>0", 7);
        parts("aUbRc", 5);
        parts("Fa>Gb|Xc&!1", 11);
        parts("((((a))))", 1);
        parts("(((a)))&((((b))))", 3);
        parts("!(X(F(G(a))))", 5);
        parts("a|a|a|a|a|a|a|a|!a", 18);
        parts("!!!!!!!!!!!!!!!!!a", 18);
        parts("a>a>a>a>a>a>a>a>!a", 18);
        parts("XXXXXa", 6);
        parts("aUbUcUaUbUc", 11);
        parts("XFGUa", -1);
        parts("XFG(aUb)Rc", 8);
    }

    private static void formulaRefuses() {
        String[] none = {"", "d", "A", "2", "~", "ab", "a1", "a&", "&a", "a|", "|a", "a>", ">a", "aU", "Ua", "aR", "Ra",
            "a&&b", "a||b", "a>>b", "aUUb", "a&|b", "aU&b", "!", "X", "F", "G", "a!", "aX", "aF", "a!b", "aXb", "!&a", "X|a",
            "(", ")", "()", "(a", "a)", "((a)", "(a))", "a(b)", "(a)b", "(a)(b)", ")a(", "(a&)", "(&a)", "!()", "a&()",
            "(((((a)))))", "((((())))", "((((()))))", "(((((", "((((((a))))))", "a&(((((b)))))", "XXXXXXa", "aUbUcUaUbUcUa", "XFGXFGa", "x", "f", "u"};
        for (String line : none) {
            LassoDesk desk = new LassoDesk();
            typeAll(desk, line);
            illegal("formula() of " + line, desk::formula);
            noFormula("states(), there is none still", desk::states);
            desk.type('b');
            due("the line was empty behind " + line, desk.formula(), 1);
        }
        LassoDesk desk = deskOf("a&b");
        illegal("the line is empty behind a formula", desk::formula);
    }

    private static void formulaStays() {
        LassoDesk desk = deskOf("Fa");
        due("can()", desk.can(), true);
        typeAll(desk, "XXXXXXb");
        illegal("six temporal parts", desk::formula);
        typeAll(desk, "Gb&Gc&");
        illegal("no formula", desk::formula);
        due("states() of Fa", desk.states(), 16);
        due("lasting() of Fa", desk.lasting(), 16);
        due("isAt(1) of Fa", desk.isAt(1), true);
        due("step(0) of Fa", desk.step(0), 1);
        typeAll(desk, "GFa");
        due("another formula", desk.formula(), 3);
        due("its states", desk.states(), 32);
        due("its lasting ones", desk.lasting(), 24);
        due("its first step", desk.step(0), 24);
        typeAll(desk, "a&!a");
        due("one that can't be", desk.formula(), 4);
        due("its states", desk.states(), 8);
        due("its walk", desk.stem(), LassoDesk.NONE);
    }

    // ---- 4

    private static void states() {
        promise = 4;
        due("a", deskOf("a").states(), 8);
        due("a&b>!c", deskOf("a&b>!c").states(), 8);
        due("Xa", deskOf("Xa").states(), 16);
        due("aUb", deskOf("aUb").states(), 16);
        due("aRb&Fa", deskOf("aRb&Fa").states(), 32);
        due("GFXa", deskOf("GFXa").states(), 64);
        due("XXXXa", deskOf("XXXXa").states(), 128);
        due("XFGaUbRc", deskOf("XFGaUbRc").states(), 256);
    }

    // ---- 5

    private static void isAtOrdinary() {
        promise = 5;
        everyState("0", s -> false);
        everyState("1", s -> true);
        everyState("a", s -> bit(s, 0));
        everyState("b", s -> bit(s, 1));
        everyState("c", s -> bit(s, 2));
        everyState("!a", s -> !bit(s, 0));
        everyState("a&b", s -> bit(s, 0) && bit(s, 1));
        everyState("b|c", s -> bit(s, 1) || bit(s, 2));
        everyState("a>c", s -> !bit(s, 0) || bit(s, 2));
        everyState("!(a&b)|c", s -> !(bit(s, 0) && bit(s, 1)) || bit(s, 2));
    }

    private static void isAtTemporal() {
        everyState("Xa", s -> bit(s, 3));
        everyState("Fa", s -> bit(s, 0) || bit(s, 3));
        everyState("Gb", s -> bit(s, 1) && bit(s, 3));
        everyState("aUb", s -> bit(s, 1) || bit(s, 0) && bit(s, 3));
        everyState("aRb", s -> bit(s, 1) && (bit(s, 0) || bit(s, 3)));
        everyState("XFa", s -> bit(s, 3));
        everyState("FXa", s -> bit(s, 4) || bit(s, 3));
        everyState("GFXGFa", s -> bit(s, 3) && (bit(s, 4) || bit(s, 5)));
        everyState("!XXXXXa", s -> !bit(s, 3));
        everyState("(Xa)>(Xb)&(Xc)", s -> !bit(s, 3) || bit(s, 4) && bit(s, 5));
    }

    private static void isAtPrecedence() {
        everyState("a>b>c", s -> !bit(s, 0) || !bit(s, 1) || bit(s, 2));
        everyState("(a>b)>c", s -> bit(s, 0) && !bit(s, 1) || bit(s, 2));
        everyState("a|b&c", s -> bit(s, 0) || bit(s, 1) && bit(s, 2));
        everyState("a&b|c", s -> bit(s, 0) && bit(s, 1) || bit(s, 2));
        everyState("(a|b)&c", s -> (bit(s, 0) || bit(s, 1)) && bit(s, 2));
        everyState("a|b>c", s -> !(bit(s, 0) || bit(s, 1)) || bit(s, 2));
        everyState("a>b|c", s -> !bit(s, 0) || bit(s, 1) || bit(s, 2));
        everyState("!a|b", s -> !bit(s, 0) || bit(s, 1));
        everyState("aUbRc", s -> bit(s, 2) && (bit(s, 1) || bit(s, 4)) || bit(s, 0) && bit(s, 3));
        everyState("(aUb)Rc", s -> bit(s, 2) && (bit(s, 1) || bit(s, 0) && bit(s, 3) || bit(s, 4)));
        everyState("aRbUc", s -> (bit(s, 2) || bit(s, 1) && bit(s, 4)) && (bit(s, 0) || bit(s, 3)));
        everyState("FaUGb", s -> bit(s, 1) && bit(s, 5) || (bit(s, 0) || bit(s, 3)) && bit(s, 4));
        everyState("F(aUb)", s -> bit(s, 1) || bit(s, 0) && bit(s, 4) || bit(s, 3));
        everyState("aUb&c", s -> (bit(s, 1) || bit(s, 0) && bit(s, 3)) && bit(s, 2));
        everyState("aU(b&c)", s -> bit(s, 1) && bit(s, 2) || bit(s, 0) && bit(s, 3));
        everyState("a|bUc", s -> bit(s, 0) || bit(s, 2) || bit(s, 1) && bit(s, 3));
        everyState("!aUb", s -> bit(s, 1) || !bit(s, 0) && bit(s, 3));
    }

    private static void everyState(String line, IntPredicate so) {
        LassoDesk desk = deskOf(line);
        for (int s = 0; s < desk.states(); s++) {
            due(line + " at " + s, desk.isAt(s), so.test(s));
        }
    }

    private static void isAtWrong() {
        LassoDesk desk = deskOf("Fa");
        outside("isAt(-1)", () -> desk.isAt(-1));
        outside("isAt(16)", () -> desk.isAt(16));
        outside("isAt(MIN_VALUE)", () -> desk.isAt(Integer.MIN_VALUE));
        outside("isAt(MAX_VALUE)", () -> desk.isAt(Integer.MAX_VALUE));
        due("isAt(15)", desk.isAt(15), true);
    }

    // ---- 6

    private static void leads() {
        promise = 6;
        LassoDesk next = deskOf("Xa");
        LassoDesk nextSome = deskOf("XFa");
        LassoDesk release = deskOf("aRb");
        for (int s = 0; s < 32; s++) {
            for (int t = 0; t < 32; t++) {
                if (s < 16 && t < 16) {
                    due("Xa " + s + " to " + t, next.leads(s, t), bit(s, 3) == bit(t, 0));
                    due("aRb " + s + " to " + t, release.leads(s, t), bit(s, 3) == (bit(t, 1) && (bit(t, 0) || bit(t, 3))));
                }
                boolean some = bit(t, 0) || bit(t, 4);
                due("XFa " + s + " to " + t, nextSome.leads(s, t), bit(s, 3) == some && bit(s, 4) == some);
            }
        }
        LassoDesk plain = deskOf("a");
        due("without temporal parts all lead to all", plain.leads(7, 0) && plain.leads(0, 7) && plain.leads(3, 3), true);
        outside("leads(-1, 0)", () -> next.leads(-1, 0));
        outside("leads(0, -1)", () -> next.leads(0, -1));
        outside("leads(16, 0)", () -> next.leads(16, 0));
        outside("leads(0, 16)", () -> next.leads(0, 16));
        outside("leads(MAX_VALUE, 0)", () -> next.leads(Integer.MAX_VALUE, 0));
    }

    // ---- 7, 8

    private static void lasts() {
        promise = 7;
        everyLasts("a", s -> true);
        everyLasts("Fa", s -> true);
        everyLasts("Ga", s -> true);
        everyLasts("aUb", s -> true);
        everyLasts("aRb", s -> true);
        everyLasts("XXa", s -> true);
        everyLasts("F0", s -> !bit(s, 3));
        everyLasts("G1", s -> bit(s, 3));
        everyLasts("aU0", s -> !bit(s, 3));
        everyLasts("aR1", s -> bit(s, 3));
        everyLasts("X1", s -> bit(s, 3));
        everyLasts("X0", s -> !bit(s, 3));
        everyLasts("X(a&!a)", s -> !bit(s, 3));
        everyLasts("Fa&G!a", s -> bit(s, 3) != bit(s, 4));
        everyLasts("XX0", s -> !bit(s, 3) && !bit(s, 4));
        LassoDesk desk = deskOf("Fa");
        outside("lasts(-1)", () -> desk.lasts(-1));
        outside("lasts(16)", () -> desk.lasts(16));
        outside("lasts(MIN_VALUE)", () -> desk.lasts(Integer.MIN_VALUE));
    }

    private static void everyLasts(String line, IntPredicate so) {
        LassoDesk desk = deskOf(line);
        for (int s = 0; s < desk.states(); s++) {
            due(line + " lasts " + s, desk.lasts(s), so.test(s));
        }
    }

    private static void lasting() {
        promise = 8;
        due("a", deskOf("a").lasting(), 8);
        due("Fa", deskOf("Fa").lasting(), 16);
        due("F0", deskOf("F0").lasting(), 8);
        due("Fa&G!a", deskOf("Fa&G!a").lasting(), 16);
        due("GFa", deskOf("GFa").lasting(), 24);
        due("XXXXXa", deskOf("XXXXXa").lasting(), 256);
        due("XXXXX0", deskOf("XXXXX0").lasting(), 8);
    }

    // ---- 9

    private static void promises() {
        promise = 9;
        due("a", deskOf("a").promises(), 0);
        due("XXXXXa", deskOf("XXXXXa").promises(), 0);
        due("Fa", deskOf("Fa").promises(), 1);
        due("Ga", deskOf("Ga").promises(), 1);
        due("aUb", deskOf("aUb").promises(), 1);
        due("aRb", deskOf("aRb").promises(), 1);
        due("XFXGa", deskOf("XFXGa").promises(), 2);
        due("FGaUbRc>Fc", deskOf("FGaUbRc>Fc").promises(), 5);
    }

    // ---- 10

    private static void can() {
        promise = 10;
        for (String line : new String[] {"a", "1", "!0", "Fa", "Ga", "GFa&GF!a", "FGa", "aU(b&!a)", "0Ra", "F0>a", "Xa&!a",
            "Ga&GX!a>b", "!(GFa>FGa)", "!aUa", "aRa"}) {
            due(line, deskOf(line).can(), true);
        }
        for (String line : new String[] {"0", "a&!a", "F0", "!G1", "GFa&FG!a", "FaRb&G!b", "Ga&F!a", "Xa&X!a", "aU0", "!(aR1)",
            "G(a>Xa)&a&F!a", "!(Ga>Fa)", "!(FFa>Fa)", "aUb&G!b", "G(a&X!a)", "!(aUb>Fb)", "G(a>X!a)&FGa"}) {
            due(line, deskOf(line).can(), false);
        }
    }

    // ---- 11, 12, 13

    private static void stemLoopStep() {
        promise = 13;
        walk("a", 1, 1, 0);
        walk("!a", 0, 0);
        walk("XXa", 3, 8, 16, 1, 0);
        walk("Fa", 1, 1, 0);
        walk("Ga", 0, 9);
        walk("!Fa", 0, 0);
        walk("GFa", 0, 24, 25);
        walk("Fa&Fb", 1, 3, 0);
        walk("G!a&GF!b", 0, 56);
        walk("GFa&GFb", 1, 120, 121, 122);
        walk("!G1", -1);
        walk("a&!a", -1);
    }

    /** How many states of a walk are its stem (-1 when there is no walk), and all its states. */
    private static void walk(String line, int stem, int... steps) {
        LassoDesk desk = deskOf(line);
        promise = 11;
        due(line + " stem", desk.stem(), stem < 0 ? LassoDesk.NONE : stem);
        promise = 12;
        due(line + " loop", desk.loop(), stem < 0 ? LassoDesk.NONE : steps.length - stem);
        promise = 13;
        for (int k = 0; k < steps.length; k++) {
            due(line + " step " + k, desk.step(k), steps[k]);
        }
        if (stem < 0) {
            noFormula(line + " step(0)", () -> desk.step(0));
            noFormula(line + " step(-1)", () -> desk.step(-1));
        } else {
            outside(line + " step behind the loop", () -> desk.step(steps.length));
        }
    }

    private static void stepWrong() {
        LassoDesk desk = deskOf("XXa");
        outside("step(-1)", () -> desk.step(-1));
        outside("step(4)", () -> desk.step(4));
        outside("step(MAX_VALUE)", () -> desk.step(Integer.MAX_VALUE));
        outside("step(MIN_VALUE)", () -> desk.step(Integer.MIN_VALUE));
    }

    // ---- 14

    private static void shape() {
        promise = 14;
        LassoDesk desk = new LassoDesk();
        desk.set(0, 6);
        desk.shape(8, 8);
        due("what it had stays", desk.letter(0), 6);
        for (int k = 1; k < 16; k++) {
            due("others are 0", desk.letter(k), 0);
            desk.set(k, k);
        }
        desk.shape(2, 3);
        wordIs(desk, 6, 1, 2, 3, 4, 2, 3, 4, 2);
        desk.shape(4, 1);
        wordIs(desk, 6, 1, 2, 3, 4, 4, 4);
        desk.shape(0, 5);
        wordIs(desk, 6, 1, 2, 3, 4, 6, 1);
        desk.shape(8, 8);
        wordIs(desk, 6, 1, 2, 3, 4, 0, 0, 0, 0, 0, 0, 0, 0, 0, 0, 0, 0);
        desk.shape(0, 1);
        wordIs(desk, 6, 6, 6);
        desk.shape(0, 8);
        wordIs(desk, 6, 0, 0, 0, 0, 0, 0, 0, 6);
    }

    private static void shapeWrong() {
        LassoDesk desk = new LassoDesk();
        desk.shape(1, 2);
        desk.set(0, 1);
        desk.set(1, 2);
        desk.set(2, 3);
        int[][] shapes = {{-1, 1}, {9, 1}, {0, 0}, {0, -1}, {0, 9}, {9, 9}, {Integer.MIN_VALUE, 1}, {1, Integer.MAX_VALUE}};
        for (int[] shape : shapes) {
            illegal("shape(" + shape[0] + ", " + shape[1] + ")", () -> desk.shape(shape[0], shape[1]));
        }
        wordIs(desk, 1, 2, 3, 2, 3);
    }

    private static void wordIs(LassoDesk desk, int... letters) {
        for (int k = 0; k < letters.length; k++) {
            due("letter " + k, desk.letter(k), letters[k]);
        }
    }

    // ---- 15

    private static void set() {
        promise = 15;
        LassoDesk desk = new LassoDesk();
        desk.shape(1, 2);
        due("set(0, 5)", desk.set(0, 5), 0);
        due("set(0, 3) answers what it was", desk.set(0, 3), 5);
        due("set(2, 15): the lowest three bits", desk.set(2, 15), 0);
        due("set(2, -1)", desk.set(2, -1), 7);
        due("set(2, 8)", desk.set(2, 8), 7);
        due("set(2, MIN_VALUE + 2)", desk.set(2, Integer.MIN_VALUE + 2), 0);
        due("set(1, -2)", desk.set(1, -2), 0);
        wordIs(desk, 3, 6, 2, 6, 2);
        outside("set(-1, 0)", () -> desk.set(-1, 0));
        outside("set(3, 0)", () -> desk.set(3, 0));
        outside("set(16, 0)", () -> desk.set(16, 0));
        outside("set(MAX_VALUE, 0)", () -> desk.set(Integer.MAX_VALUE, 0));
        outside("set(MIN_VALUE, 0)", () -> desk.set(Integer.MIN_VALUE, 0));
        wordIs(desk, 3, 6, 2, 6, 2);
        desk.shape(8, 8);
        due("set(15, 1)", desk.set(15, 1), 0);
    }

    // ---- 16

    private static void adopt() {
        promise = 16;
        LassoDesk desk = deskOf("XXa");
        desk.shape(8, 8);
        desk.set(15, 7);
        due("adopt()", desk.adopt(), true);
        wordIs(desk, 0, 0, 1, 0, 0, 0);
        outside("the word has the walk's shape", () -> desk.set(4, 7));
        due("the loop's letter", desk.set(3, 2), 0);
        wordIs(desk, 0, 0, 1, 2, 2, 2);
        desk.shape(8, 8);
        due("letters behind the walk's are gone", desk.letter(15), 0);
        adoptRefused("a&!a", -1, -1);
        adoptRefused("X((aU(Gc))RXc)", 9, 1);
        adoptRefused("X(X(Xc&aU(cUb))>b)", 3, 9);
        adoptTaken("bU((X(X(Xa)))Ra)", 8, 1);
        adoptTaken("cR(XX(bUc)Uc>a&b)", 1, 8);
    }

    private static void adoptRefused(String line, int stem, int loop) {
        LassoDesk desk = deskOf(line);
        due(line + " stem", desk.stem(), stem);
        due(line + " loop", desk.loop(), loop);
        desk.shape(1, 2);
        desk.set(0, 3);
        desk.set(2, 5);
        due("adopt() of " + line, desk.adopt(), false);
        wordIs(desk, 3, 0, 5, 0, 5);
    }

    private static void adoptTaken(String line, int stem, int loop) {
        LassoDesk desk = deskOf(line);
        due(line + " stem", desk.stem(), stem);
        due(line + " loop", desk.loop(), loop);
        due("adopt() of " + line, desk.adopt(), true);
        for (int k = 0; k < 3 * (stem + loop); k++) {
            int place = k < stem ? k : stem + (k - stem) % loop;
            due(line + " letter " + k, desk.letter(k), desk.step(place) & 7);
        }
        due(line + " is so", desk.holds(0), true);
    }

    // ---- 17

    private static void letter() {
        promise = 17;
        LassoDesk desk = new LassoDesk();
        desk.shape(3, 7);
        for (int k = 0; k < 10; k++) {
            desk.set(k, k % 8);
        }
        for (int k = 0; k < 100; k++) {
            due("letter " + k, desk.letter(k), (k < 3 ? k : 3 + (k - 3) % 7) % 8);
        }
        due("letter MAX_VALUE", desk.letter(Integer.MAX_VALUE), 8 % 8);
        due("letter MAX_VALUE - 1", desk.letter(Integer.MAX_VALUE - 1), 7);
        outside("letter(-1)", () -> desk.letter(-1));
        outside("letter(MIN_VALUE)", () -> desk.letter(Integer.MIN_VALUE));
    }

    // ---- 18: the word is 1 2 0 | 5 2 | 5 2 | ...

    private static void holdsOrdinary() {
        promise = 18;
        places("0", false, false, false, false, false);
        places("1", true, true, true, true, true);
        places("a", true, false, false, true, false);
        places("b", false, true, false, false, true);
        places("c", false, false, false, true, false);
        places("!a", false, true, true, false, true);
        places("a&c", false, false, false, true, false);
        places("a|b", true, true, false, true, true);
        places("a>c", false, true, true, true, true);
    }

    private static void holdsTemporal() {
        places("!!!!!!!!!!!!!!!!!a", false, true, true, false, true);
        places("a|a|a|a|a|a|a|a|!a", true, true, true, true, true);
        places("Xa", false, false, true, false, true);
        places("XXb", false, false, true, false, true);
        places("Fc", true, true, true, true, true);
        places("F(!a&!b)", true, true, true, false, false);
        places("G(a|b)", false, false, false, true, true);
        places("G(a>Xb)", true, true, true, true, true);
        places("aUb", true, true, false, true, true);
        places("(a|b)Uc", false, false, false, true, true);
        places("1Uc", true, true, true, true, true);
        places("aU0", false, false, false, false, false);
        places("aU1", true, true, true, true, true);
        places("0Ra", false, false, false, false, false);
        places("0R(a|b)", false, false, false, true, true);
        places("bR(a|b)", true, true, false, true, true);
        places("!aR!c", true, true, true, false, true);
        places("GFa&GFb", true, true, true, true, true);
        places("FGa", false, false, false, false, false);
        places("aUbU!a&!b", true, false, true, true, false);
        places("aU(bU(!a&!b))", true, true, true, false, false);
    }

    private static void places(String line, boolean... so) {
        LassoDesk desk = deskOf(line);
        int[] letters = {1, 2, 0, 5, 2};
        desk.shape(3, 2);
        for (int k = 0; k < letters.length; k++) {
            desk.set(k, letters[k]);
        }
        for (int k = 0; k < 40; k++) {
            due(line + " at place " + k, desk.holds(k), so[k < 3 ? k : 3 + (k - 3) % 2]);
        }
        due(line + " at place MAX_VALUE", desk.holds(Integer.MAX_VALUE), so[3]);
    }

    private static void holdsWrong() {
        LassoDesk desk = deskOf("a");
        outside("holds(-1)", () -> desk.holds(-1));
        outside("holds(MIN_VALUE)", () -> desk.holds(Integer.MIN_VALUE));
        due("on a new object's word", desk.holds(3), false);
        desk.set(0, 1);
        due("when its letter was set", desk.holds(3), true);
        desk.shape(0, 2);
        due("when it was shaped", desk.holds(3), false);
        typeAll(desk, "Fa");
        desk.formula();
        due("of another formula on the same word", desk.holds(3), true);
    }

    // ---- helpers

    private interface Call {
        Object answer();
    }

    private interface Act {
        void act();
    }

    private static LassoDesk deskOf(String line) {
        LassoDesk desk = new LassoDesk();
        typeAll(desk, line);
        desk.formula();
        return desk;
    }

    private static void typeAll(LassoDesk desk, String line) {
        for (int i = 0; i < line.length(); i++) {
            desk.type(line.charAt(i));
        }
    }

    private static void parts(String line, int count) {
        LassoDesk desk = new LassoDesk();
        typeAll(desk, line);
        if (count < 0) {
            illegal("formula() of " + line, desk::formula);
        } else {
            due("formula() of " + line, desk.formula(), count);
        }
    }

    private static int codes(int first, int second, int third, int fourth) {
        return first | second << 8 | third << 16 | fourth << 24;
    }

    private static boolean bit(int bits, int i) {
        return (bits >> i & 1) == 1;
    }

    private static void noFormula(String what, Call call) {
        thrown(what, IllegalStateException.class, call::answer);
    }

    private static void illegal(String what, Act act) {
        thrown(what, IllegalArgumentException.class, act);
    }

    private static void outside(String what, Act act) {
        thrown(what, IndexOutOfBoundsException.class, act);
    }

    private static void thrown(String what, Class<?> due, Act act) {
        String got = "nothing";
        try {
            act.act();
        } catch (RuntimeException e) {
            if (e.getClass() == due) {
                return;
            }
            got = e.toString();
        }
        wrong++;
        System.out.println("promise " + promise + ": " + what + " threw " + got + ", due is " + due.getSimpleName());
    }

    private static void due(String what, Object got, Object want) {
        if (!got.equals(want)) {
            wrong++;
            System.out.println("promise " + promise + ": " + what + " answered " + got + ", due is " + want);
        }
    }
}
