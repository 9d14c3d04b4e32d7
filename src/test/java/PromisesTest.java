/** Promises 1 to 18, one after the other: ordinary inputs, the edges that the document names, wrong inputs. */
public final class PromisesTest {
    public static void main(String[] args) {
        Due.test("promise 1", PromisesTest::newObject);
        Due.test("promise 2", PromisesTest::type);
        Due.test("promise 2", PromisesTest::typeLimit);
        Due.test("promise 2", PromisesTest::typeWrongCharacters);
        Due.test("promise 3", PromisesTest::formulaCountsParts);
        Due.test("promise 3", PromisesTest::formulaRefuses);
        Due.test("promise 3", PromisesTest::formulaStays);
        Due.test("promise 4", PromisesTest::states);
        Due.test("promise 5", PromisesTest::isAtOrdinary);
        Due.test("promise 5", PromisesTest::isAtTemporal);
        Due.test("promise 5", PromisesTest::isAtPrecedence);
        Due.test("promise 5", PromisesTest::isAtWrong);
        Due.test("promise 6", PromisesTest::leads);
        Due.test("promise 7", PromisesTest::lasts);
        Due.test("promise 8", PromisesTest::lasting);
        Due.test("promise 9", PromisesTest::promises);
        Due.test("promise 10", PromisesTest::can);
        Due.test("promises 11, 12 and 13", PromisesTest::stemLoopStep);
        Due.test("promise 13", PromisesTest::stepWrong);
        Due.test("promise 14", PromisesTest::shape);
        Due.test("promise 14", PromisesTest::shapeWrong);
        Due.test("promise 15", PromisesTest::set);
        Due.test("promise 16", PromisesTest::adopt);
        Due.test("promise 17", PromisesTest::letter);
        Due.test("promise 18", PromisesTest::holdsOrdinary);
        Due.test("promise 18", PromisesTest::holdsTemporal);
        Due.test("promise 18", PromisesTest::holdsWrong);
        Due.end();
    }

    // ---- 1

    private static void newObject() {
        LassoDesk desk = new LassoDesk();
        Due.noFormulaYet(desk);
        Due.due("letter(0)", desk.letter(0), 0);
        Due.due("letter(1000)", desk.letter(1000), 0);
        Due.outside("set(1, 7): one letter only", () -> desk.set(1, 7));
        Due.due("set(0, 1)", desk.set(0, 1), 0);
        Due.due("letter(17): the one letter is the loop", desk.letter(17), 1);
        Due.illegal("formula(): the line is empty", desk::formula);
        LassoDesk other = new LassoDesk();
        Due.due("letter(0) of another object", other.letter(0), 0);
    }

    // ---- 2

    private static void type() {
        LassoDesk desk = new LassoDesk();
        Due.due("type(F)", desk.type(Due.codes('F', 0, 0, 0)), true);
        Due.due("type(a|b)", desk.type(Due.codes('a', '|', 'b', 0)), true);
        Due.due("type(|c|a)", desk.type(Due.codes('|', 'c', '|', 'a')), true);
        Due.due("formula() of Fa|b|c|a", desk.formula(), 8);
        Due.due("at a state where only b is so", desk.isAt(2), true);
        Due.due("at a state where nothing is so", desk.isAt(0), false);
        desk.type(Due.codes('a', '>', 'b', 0));
        desk.formula();
        Due.due("the lowest byte is first: a>b at a alone", desk.isAt(1), false);
        Due.due("the lowest byte is first: a>b at b alone", desk.isAt(2), true);
        Due.due("type(0) puts nothing", desk.type(0), true);
        Due.illegal("so the line is empty", desk::formula);
        Due.due("what is behind a 0 is not looked at", desk.type(Due.codes('a', 0, 200, 32)), true);
        Due.due("and not put", desk.formula(), 1);
        Due.due("a 0 in front", desk.type(Due.codes(0, 'a', 'b', 31)), true);
        Due.illegal("puts nothing", desk::formula);
        Due.due("33 and 126 are characters", desk.type(Due.codes(33, 126, 33, 126)), true);
        Due.illegal("but no formula", desk::formula);
    }

    private static void typeLimit() {
        LassoDesk desk = new LassoDesk();
        for (int i = 0; i < 4; i++) {
            Due.due("four more", desk.type(Due.codes('!', '!', '!', '!')), true);
        }
        Due.due("16 + 3 are too many", desk.type(Due.codes('!', 'b', 'a', 0)), false);
        Due.due("16 + 4 are too many", desk.type(Due.codes('!', 'b', 'a', 'a')), false);
        Due.due("16 + 2 are not", desk.type(Due.codes('!', 'a', 0, 0)), true);
        Due.due("18 + 1 are too many", desk.type(Due.codes('a', 0, 0, 0)), false);
        Due.due("18 + 0 are not", desk.type(0), true);
        Due.illegal("a wrong character comes before too many", () -> desk.type(Due.codes('a', 32, 0, 0)));
        Due.due("formula(): nothing was changed", desk.formula(), 18);
        Due.due("seventeen times not a", desk.isAt(0), true);
        Due.due("seventeen times not a, at a", desk.isAt(1), false);
    }

    private static void typeWrongCharacters() {
        LassoDesk desk = new LassoDesk();
        desk.type(Due.codes('a', '&', 0, 0));
        for (int code : new int[] {1, 9, 31, 32, 127, 128, 200, 255}) {
            Due.illegal("first " + code, () -> desk.type(Due.codes(code, 'b', 'b', 'b')));
            Due.illegal("second " + code, () -> desk.type(Due.codes('b', code, 0, 0)));
            Due.illegal("third " + code, () -> desk.type(Due.codes('b', 'b', code, 0)));
            Due.illegal("fourth " + code, () -> desk.type(Due.codes('b', 'b', 'b', code)));
        }
        Due.illegal("type(-1)", () -> desk.type(-1));
        Due.illegal("type(MIN_VALUE + b)", () -> desk.type(Integer.MIN_VALUE | Due.codes('b', 'b', 'b', 0)));
        desk.type(Due.codes('b', 0, 0, 0));
        Due.due("formula(): the line had stayed", desk.formula(), 3);
    }

    // ---- 3

    private static void formulaCountsParts() {
        Due.formulaIs("0", 1);
        Due.formulaIs("1", 1);
        Due.formulaIs("a", 1);
        Due.formulaIs("b", 1);
        Due.formulaIs("c", 1);
        Due.formulaIs("(a)", 1);
        Due.formulaIs("!a", 2);
        Due.formulaIs("XFG!a", 5);
        Due.formulaIs("a&b", 3);
        Due.formulaIs("a&b&c&a", 7);
        Due.formulaIs("a|b|c", 5);
        Due.formulaIs("a>b>c>0", 7);
        Due.formulaIs("aUbRc", 5);
        Due.formulaIs("Fa>Gb|Xc&!1", 11);
        Due.formulaIs("((((a))))", 1);
        Due.formulaIs("(((a)))&((((b))))", 3);
        Due.formulaIs("!(X(F(G(a))))", 5);
        Due.formulaIs("a|a|a|a|a|a|a|a|!a", 18);
        Due.formulaIs("!!!!!!!!!!!!!!!!!a", 18);
        Due.formulaIs("a>a>a>a>a>a>a>a>!a", 18);
        Due.formulaIs("XXXXXa", 6);
        Due.formulaIs("aUbUcUaUbUc", 11);
        Due.noFormula("XFGUa");
        Due.formulaIs("XFG(aUb)Rc", 8);
    }

    private static void formulaRefuses() {
        String[] none = {"", "d", "A", "2", "~", "ab", "a1", "a&", "&a", "a|", "|a", "a>", ">a", "aU", "Ua", "aR", "Ra",
            "a&&b", "a||b", "a>>b", "aUUb", "a&|b", "aU&b", "!", "X", "F", "G", "a!", "aX", "aF", "a!b", "aXb", "!&a", "X|a",
            "(", ")", "()", "(a", "a)", "((a)", "(a))", "a(b)", "(a)b", "(a)(b)", ")a(", "(a&)", "(&a)", "!()", "a&()",
            "(((((a)))))", "((((())))", "((((()))))", "(((((", "((((((a))))))", "a&(((((b)))))", "XXXXXXa", "aUbUcUaUbUcUa", "XFGXFGa", "x", "f", "u"};
        for (String line : none) {
            LassoDesk desk = new LassoDesk();
            Due.typeAll(desk, line);
            Due.illegal("formula() of " + line, desk::formula);
            Due.noState("states(), there is none still", desk::states);
            desk.type('b');
            Due.due("the line was empty behind " + line, desk.formula(), 1);
        }
        LassoDesk desk = Due.deskOf("a&b");
        Due.illegal("the line is empty behind a formula", desk::formula);
    }

    private static void formulaStays() {
        LassoDesk desk = Due.deskOf("Fa");
        Due.due("can()", desk.can(), true);
        Due.typeAll(desk, "XXXXXXb");
        Due.illegal("six temporal parts", desk::formula);
        Due.typeAll(desk, "Gb&Gc&");
        Due.illegal("no formula", desk::formula);
        Due.due("states() of Fa", desk.states(), 16);
        Due.due("lasting() of Fa", desk.lasting(), 16);
        Due.due("isAt(1) of Fa", desk.isAt(1), true);
        Due.due("step(0) of Fa", desk.step(0), 1);
        Due.typeAll(desk, "GFa");
        Due.due("another formula", desk.formula(), 3);
        Due.due("its states", desk.states(), 32);
        Due.due("its lasting ones", desk.lasting(), 24);
        Due.due("its first step", desk.step(0), 24);
        Due.typeAll(desk, "a&!a");
        Due.due("one that can't be", desk.formula(), 4);
        Due.due("its states", desk.states(), 8);
        Due.due("its walk", desk.stem(), LassoDesk.NONE);
    }

    // ---- 4

    private static void states() {
        Due.due("a", Due.deskOf("a").states(), 8);
        Due.due("a&b>!c", Due.deskOf("a&b>!c").states(), 8);
        Due.due("Xa", Due.deskOf("Xa").states(), 16);
        Due.due("aUb", Due.deskOf("aUb").states(), 16);
        Due.due("aRb&Fa", Due.deskOf("aRb&Fa").states(), 32);
        Due.due("GFXa", Due.deskOf("GFXa").states(), 64);
        Due.due("XXXXa", Due.deskOf("XXXXa").states(), 128);
        Due.due("XFGaUbRc", Due.deskOf("XFGaUbRc").states(), 256);
    }

    // ---- 5

    private static void isAtOrdinary() {
        Due.everyIsAt("0", s -> false);
        Due.everyIsAt("1", s -> true);
        Due.everyIsAt("a", s -> Due.bit(s, 0));
        Due.everyIsAt("b", s -> Due.bit(s, 1));
        Due.everyIsAt("c", s -> Due.bit(s, 2));
        Due.everyIsAt("!a", s -> !Due.bit(s, 0));
        Due.everyIsAt("a&b", s -> Due.bit(s, 0) && Due.bit(s, 1));
        Due.everyIsAt("b|c", s -> Due.bit(s, 1) || Due.bit(s, 2));
        Due.everyIsAt("a>c", s -> !Due.bit(s, 0) || Due.bit(s, 2));
        Due.everyIsAt("!(a&b)|c", s -> !(Due.bit(s, 0) && Due.bit(s, 1)) || Due.bit(s, 2));
    }

    private static void isAtTemporal() {
        Due.everyIsAt("Xa", s -> Due.bit(s, 3));
        Due.everyIsAt("Fa", s -> Due.bit(s, 0) || Due.bit(s, 3));
        Due.everyIsAt("Gb", s -> Due.bit(s, 1) && Due.bit(s, 3));
        Due.everyIsAt("aUb", s -> Due.bit(s, 1) || Due.bit(s, 0) && Due.bit(s, 3));
        Due.everyIsAt("aRb", s -> Due.bit(s, 1) && (Due.bit(s, 0) || Due.bit(s, 3)));
        Due.everyIsAt("XFa", s -> Due.bit(s, 3));
        Due.everyIsAt("FXa", s -> Due.bit(s, 4) || Due.bit(s, 3));
        Due.everyIsAt("GFXGFa", s -> Due.bit(s, 3) && (Due.bit(s, 4) || Due.bit(s, 5)));
        Due.everyIsAt("!XXXXXa", s -> !Due.bit(s, 3));
        Due.everyIsAt("(Xa)>(Xb)&(Xc)", s -> !Due.bit(s, 3) || Due.bit(s, 4) && Due.bit(s, 5));
    }

    private static void isAtPrecedence() {
        Due.everyIsAt("a>b>c", s -> !Due.bit(s, 0) || !Due.bit(s, 1) || Due.bit(s, 2));
        Due.everyIsAt("(a>b)>c", s -> Due.bit(s, 0) && !Due.bit(s, 1) || Due.bit(s, 2));
        Due.everyIsAt("a|b&c", s -> Due.bit(s, 0) || Due.bit(s, 1) && Due.bit(s, 2));
        Due.everyIsAt("a&b|c", s -> Due.bit(s, 0) && Due.bit(s, 1) || Due.bit(s, 2));
        Due.everyIsAt("(a|b)&c", s -> (Due.bit(s, 0) || Due.bit(s, 1)) && Due.bit(s, 2));
        Due.everyIsAt("a|b>c", s -> !(Due.bit(s, 0) || Due.bit(s, 1)) || Due.bit(s, 2));
        Due.everyIsAt("a>b|c", s -> !Due.bit(s, 0) || Due.bit(s, 1) || Due.bit(s, 2));
        Due.everyIsAt("!a|b", s -> !Due.bit(s, 0) || Due.bit(s, 1));
        Due.everyIsAt("aUbRc", s -> Due.bit(s, 2) && (Due.bit(s, 1) || Due.bit(s, 4)) || Due.bit(s, 0) && Due.bit(s, 3));
        Due.everyIsAt("(aUb)Rc", s -> Due.bit(s, 2) && (Due.bit(s, 1) || Due.bit(s, 0) && Due.bit(s, 3) || Due.bit(s, 4)));
        Due.everyIsAt("aRbUc", s -> (Due.bit(s, 2) || Due.bit(s, 1) && Due.bit(s, 4)) && (Due.bit(s, 0) || Due.bit(s, 3)));
        Due.everyIsAt("FaUGb", s -> Due.bit(s, 1) && Due.bit(s, 5) || (Due.bit(s, 0) || Due.bit(s, 3)) && Due.bit(s, 4));
        Due.everyIsAt("F(aUb)", s -> Due.bit(s, 1) || Due.bit(s, 0) && Due.bit(s, 4) || Due.bit(s, 3));
        Due.everyIsAt("aUb&c", s -> (Due.bit(s, 1) || Due.bit(s, 0) && Due.bit(s, 3)) && Due.bit(s, 2));
        Due.everyIsAt("aU(b&c)", s -> Due.bit(s, 1) && Due.bit(s, 2) || Due.bit(s, 0) && Due.bit(s, 3));
        Due.everyIsAt("a|bUc", s -> Due.bit(s, 0) || Due.bit(s, 2) || Due.bit(s, 1) && Due.bit(s, 3));
        Due.everyIsAt("!aUb", s -> Due.bit(s, 1) || !Due.bit(s, 0) && Due.bit(s, 3));
    }

    private static void isAtWrong() {
        LassoDesk desk = Due.deskOf("Fa");
        Due.outside("isAt(-1)", () -> desk.isAt(-1));
        Due.outside("isAt(16)", () -> desk.isAt(16));
        Due.outside("isAt(MIN_VALUE)", () -> desk.isAt(Integer.MIN_VALUE));
        Due.outside("isAt(MAX_VALUE)", () -> desk.isAt(Integer.MAX_VALUE));
        Due.due("isAt(15)", desk.isAt(15), true);
    }

    // ---- 6

    private static void leads() {
        LassoDesk next = Due.deskOf("Xa");
        LassoDesk release = Due.deskOf("aRb");
        for (int s = 0; s < 32; s++) {
            LassoDesk nextSome = Due.deskOf("XFa");
            for (int t = 0; t < 32; t++) {
                if (s < 16 && t < 16) {
                    Due.due("Xa " + s + " to " + t, next.leads(s, t), Due.bit(s, 3) == Due.bit(t, 0));
                    Due.due("aRb " + s + " to " + t, release.leads(s, t), Due.bit(s, 3) == (Due.bit(t, 1) && (Due.bit(t, 0) || Due.bit(t, 3))));
                }
                boolean some = Due.bit(t, 0) || Due.bit(t, 4);
                Due.due("XFa " + s + " to " + t, nextSome.leads(s, t), Due.bit(s, 3) == some && Due.bit(s, 4) == some);
            }
        }
        LassoDesk plain = Due.deskOf("a");
        Due.due("without temporal parts all lead to all", plain.leads(7, 0) && plain.leads(0, 7) && plain.leads(3, 3), true);
        Due.outside("leads(-1, 0)", () -> next.leads(-1, 0));
        Due.outside("leads(0, -1)", () -> next.leads(0, -1));
        Due.outside("leads(16, 0)", () -> next.leads(16, 0));
        Due.outside("leads(0, 16)", () -> next.leads(0, 16));
        Due.outside("leads(MAX_VALUE, 0)", () -> next.leads(Integer.MAX_VALUE, 0));
    }

    // ---- 7, 8

    private static void lasts() {
        Due.everyLasts("a", s -> true);
        Due.everyLasts("Fa", s -> true);
        Due.everyLasts("Ga", s -> true);
        Due.everyLasts("aUb", s -> true);
        Due.everyLasts("aRb", s -> true);
        Due.everyLasts("XXa", s -> true);
        Due.everyLasts("F0", s -> !Due.bit(s, 3));
        Due.everyLasts("G1", s -> Due.bit(s, 3));
        Due.everyLasts("aU0", s -> !Due.bit(s, 3));
        Due.everyLasts("aR1", s -> Due.bit(s, 3));
        Due.everyLasts("X1", s -> Due.bit(s, 3));
        Due.everyLasts("X0", s -> !Due.bit(s, 3));
        Due.everyLasts("X(a&!a)", s -> !Due.bit(s, 3));
        Due.everyLasts("Fa&G!a", s -> Due.bit(s, 3) != Due.bit(s, 4));
        Due.everyLasts("XX0", s -> !Due.bit(s, 3) && !Due.bit(s, 4));
        LassoDesk desk = Due.deskOf("Fa");
        Due.outside("lasts(-1)", () -> desk.lasts(-1));
        Due.outside("lasts(16)", () -> desk.lasts(16));
        Due.outside("lasts(MIN_VALUE)", () -> desk.lasts(Integer.MIN_VALUE));
    }

    private static void lasting() {
        Due.due("a", Due.deskOf("a").lasting(), 8);
        Due.due("Fa", Due.deskOf("Fa").lasting(), 16);
        Due.due("F0", Due.deskOf("F0").lasting(), 8);
        Due.due("Fa&G!a", Due.deskOf("Fa&G!a").lasting(), 16);
        Due.due("GFa", Due.deskOf("GFa").lasting(), 24);
        Due.due("XXXXXa", Due.deskOf("XXXXXa").lasting(), 256);
        Due.due("XXXXX0", Due.deskOf("XXXXX0").lasting(), 8);
    }

    // ---- 9

    private static void promises() {
        Due.due("a", Due.deskOf("a").promises(), 0);
        Due.due("XXXXXa", Due.deskOf("XXXXXa").promises(), 0);
        Due.due("Fa", Due.deskOf("Fa").promises(), 1);
        Due.due("Ga", Due.deskOf("Ga").promises(), 1);
        Due.due("aUb", Due.deskOf("aUb").promises(), 1);
        Due.due("aRb", Due.deskOf("aRb").promises(), 1);
        Due.due("XFXGa", Due.deskOf("XFXGa").promises(), 2);
        Due.due("FGaUbRc>Fc", Due.deskOf("FGaUbRc>Fc").promises(), 5);
    }

    // ---- 10

    private static void can() {
        for (String line : new String[] {"a", "1", "!0", "Fa", "Ga", "GFa&GF!a", "FGa", "aU(b&!a)", "0Ra", "F0>a", "Xa&!a",
            "Ga&GX!a>b", "!(GFa>FGa)", "!aUa", "aRa"}) {
            Due.due(line, Due.deskOf(line).can(), true);
        }
        for (String line : new String[] {"0", "a&!a", "F0", "!G1", "GFa&FG!a", "FaRb&G!b", "Ga&F!a", "Xa&X!a", "aU0", "!(aR1)",
            "G(a>Xa)&a&F!a", "!(Ga>Fa)", "!(FFa>Fa)", "aUb&G!b", "G(a&X!a)", "!(aUb>Fb)", "G(a>X!a)&FGa"}) {
            Due.due(line, Due.deskOf(line).can(), false);
        }
    }

    // ---- 11, 12, 13

    private static void stemLoopStep() {
        Due.walkIs("a", 1, 1, 0);
        Due.walkIs("!a", 0, 0);
        Due.walkIs("XXa", 3, 8, 16, 1, 0);
        Due.walkIs("Fa", 1, 1, 0);
        Due.walkIs("Ga", 0, 9);
        Due.walkIs("!Fa", 0, 0);
        Due.walkIs("GFa", 0, 24, 25);
        Due.walkIs("Fa&Fb", 1, 3, 0);
        Due.walkIs("G!a&GF!b", 0, 56);
        Due.walkIs("GFa&GFb", 1, 120, 121, 122);
        Due.noWalk(Due.deskOf("!G1"), "!G1");
        Due.noWalk(Due.deskOf("a&!a"), "a&!a");
    }

    private static void stepWrong() {
        LassoDesk desk = Due.deskOf("XXa");
        Due.outside("step(-1)", () -> desk.step(-1));
        Due.outside("step(4)", () -> desk.step(4));
        Due.outside("step(MAX_VALUE)", () -> desk.step(Integer.MAX_VALUE));
        Due.outside("step(MIN_VALUE)", () -> desk.step(Integer.MIN_VALUE));
    }

    // ---- 14

    private static void shape() {
        LassoDesk desk = new LassoDesk();
        desk.set(0, 6);
        desk.shape(8, 8);
        Due.due("what it had stays", desk.letter(0), 6);
        for (int k = 1; k < 16; k++) {
            Due.due("others are 0", desk.letter(k), 0);
            desk.set(k, k);
        }
        desk.shape(2, 3);
        lettersAre(desk, 6, 1, 2, 3, 4, 2, 3, 4, 2);
        desk.shape(4, 1);
        lettersAre(desk, 6, 1, 2, 3, 4, 4, 4);
        desk.shape(0, 5);
        lettersAre(desk, 6, 1, 2, 3, 4, 6, 1);
        desk.shape(8, 8);
        lettersAre(desk, 6, 1, 2, 3, 4, 0, 0, 0, 0, 0, 0, 0, 0, 0, 0, 0, 0);
        desk.shape(0, 1);
        lettersAre(desk, 6, 6, 6);
        desk.shape(0, 8);
        lettersAre(desk, 6, 0, 0, 0, 0, 0, 0, 0, 6);
    }

    private static void shapeWrong() {
        LassoDesk desk = new LassoDesk();
        desk.shape(1, 2);
        desk.set(0, 1);
        desk.set(1, 2);
        desk.set(2, 3);
        int[][] shapes = {{-1, 1}, {9, 1}, {0, 0}, {0, -1}, {0, 9}, {9, 9}, {Integer.MIN_VALUE, 1}, {1, Integer.MAX_VALUE}};
        for (int[] shape : shapes) {
            Due.illegal("shape(" + shape[0] + ", " + shape[1] + ")", () -> desk.shape(shape[0], shape[1]));
        }
        lettersAre(desk, 1, 2, 3, 2, 3);
    }

    private static void lettersAre(LassoDesk desk, int... letters) {
        for (int k = 0; k < letters.length; k++) {
            Due.due("letter " + k, desk.letter(k), letters[k]);
        }
    }

    // ---- 15

    private static void set() {
        LassoDesk desk = new LassoDesk();
        desk.shape(1, 2);
        Due.due("set(0, 5)", desk.set(0, 5), 0);
        Due.due("set(0, 3) answers what it was", desk.set(0, 3), 5);
        Due.due("set(2, 15): the lowest three bits", desk.set(2, 15), 0);
        Due.due("set(2, -1)", desk.set(2, -1), 7);
        Due.due("set(2, 8)", desk.set(2, 8), 7);
        Due.due("set(2, MIN_VALUE + 2)", desk.set(2, Integer.MIN_VALUE + 2), 0);
        Due.due("set(1, -2)", desk.set(1, -2), 0);
        lettersAre(desk, 3, 6, 2, 6, 2);
        Due.outside("set(-1, 0)", () -> desk.set(-1, 0));
        Due.outside("set(3, 0)", () -> desk.set(3, 0));
        Due.outside("set(16, 0)", () -> desk.set(16, 0));
        Due.outside("set(MAX_VALUE, 0)", () -> desk.set(Integer.MAX_VALUE, 0));
        Due.outside("set(MIN_VALUE, 0)", () -> desk.set(Integer.MIN_VALUE, 0));
        lettersAre(desk, 3, 6, 2, 6, 2);
        desk.shape(8, 8);
        Due.due("set(15, 1)", desk.set(15, 1), 0);
    }

    // ---- 16

    private static void adopt() {
        LassoDesk desk = Due.deskOf("XXa");
        desk.shape(8, 8);
        desk.set(15, 7);
        Due.due("adopt()", desk.adopt(), true);
        lettersAre(desk, 0, 0, 1, 0, 0, 0);
        Due.outside("the word has the walk's shape", () -> desk.set(4, 7));
        Due.due("the loop's letter", desk.set(3, 2), 0);
        lettersAre(desk, 0, 0, 1, 2, 2, 2);
        desk.shape(8, 8);
        Due.due("letters behind the walk's are gone", desk.letter(15), 0);
        adoptRefused("a&!a", -1, -1);
        adoptRefused("X((aU(Gc))RXc)", 9, 1);
        adoptRefused("X(X(Xc&aU(cUb))>b)", 3, 9);
        adoptTaken("bU((X(X(Xa)))Ra)", 8, 1);
        adoptTaken("cR(XX(bUc)Uc>a&b)", 1, 8);
    }

    private static void adoptRefused(String line, int stem, int loop) {
        LassoDesk desk = Due.deskOf(line);
        Due.due(line + " stem", desk.stem(), stem);
        Due.due(line + " loop", desk.loop(), loop);
        desk.shape(1, 2);
        desk.set(0, 3);
        desk.set(2, 5);
        Due.due("adopt() of " + line, desk.adopt(), false);
        lettersAre(desk, 3, 0, 5, 0, 5);
    }

    private static void adoptTaken(String line, int stem, int loop) {
        LassoDesk desk = Due.deskOf(line);
        Due.due(line + " stem", desk.stem(), stem);
        Due.due(line + " loop", desk.loop(), loop);
        Due.due("adopt() of " + line, desk.adopt(), true);
        for (int k = 0; k < 3 * (stem + loop); k++) {
            int place = k < stem ? k : stem + (k - stem) % loop;
            Due.due(line + " letter " + k, desk.letter(k), desk.step(place) & 7);
        }
        Due.due(line + " is so", desk.holds(0), true);
    }

    // ---- 17

    private static void letter() {
        LassoDesk desk = new LassoDesk();
        desk.shape(3, 7);
        for (int k = 0; k < 10; k++) {
            desk.set(k, k % 8);
        }
        for (int k = 0; k < 100; k++) {
            Due.due("letter " + k, desk.letter(k), (k < 3 ? k : 3 + (k - 3) % 7) % 8);
        }
        Due.due("letter MAX_VALUE", desk.letter(Integer.MAX_VALUE), 8 % 8);
        Due.due("letter MAX_VALUE - 1", desk.letter(Integer.MAX_VALUE - 1), 7);
        Due.outside("letter(-1)", () -> desk.letter(-1));
        Due.outside("letter(MIN_VALUE)", () -> desk.letter(Integer.MIN_VALUE));
    }

    // ---- 18: the word is 1 2 0 | 5 2 | 5 2 | ...

    private static void holdsOrdinary() {
        places("0", false, false, false, false, false);
        places("1", true, true, true, true, true);
        places("a", true, false, false, true, false);
        places("b", false, true, false, false, true);
        places("c", false, false, false, true, false);
        places("!a", false, true, true, false, true);
        places("a&c", false, false, false, true, false);
        places("a|b", true, true, false, true, true);
        places("a>c", false, true, true, true, true);
    }

    private static void holdsTemporal() {
        places("!!!!!!!!!!!!!!!!!a", false, true, true, false, true);
        places("a|a|a|a|a|a|a|a|!a", true, true, true, true, true);
        places("Xa", false, false, true, false, true);
        places("XXb", false, false, true, false, true);
        places("Fc", true, true, true, true, true);
        places("F(!a&!b)", true, true, true, false, false);
        places("G(a|b)", false, false, false, true, true);
        places("G(a>Xb)", true, true, true, true, true);
        places("aUb", true, true, false, true, true);
        places("(a|b)Uc", false, false, false, true, true);
        places("1Uc", true, true, true, true, true);
        places("aU0", false, false, false, false, false);
        places("aU1", true, true, true, true, true);
        places("0Ra", false, false, false, false, false);
        places("0R(a|b)", false, false, false, true, true);
        places("bR(a|b)", true, true, false, true, true);
        places("!aR!c", true, true, true, false, true);
        places("GFa&GFb", true, true, true, true, true);
        places("FGa", false, false, false, false, false);
        places("aUbU!a&!b", true, false, true, true, false);
        places("aU(bU(!a&!b))", true, true, true, false, false);
    }

    private static void places(String line, boolean... so) {
        LassoDesk desk = Due.deskOf(line);
        int[] letters = {1, 2, 0, 5, 2};
        desk.shape(3, 2);
        for (int k = 0; k < letters.length; k++) {
            desk.set(k, letters[k]);
        }
        for (int k = 0; k < 40; k++) {
            Due.due(line + " at place " + k, desk.holds(k), so[k < 3 ? k : 3 + (k - 3) % 2]);
        }
        Due.due(line + " at place MAX_VALUE", desk.holds(Integer.MAX_VALUE), so[3]);
    }

    private static void holdsWrong() {
        LassoDesk desk = Due.deskOf("a");
        Due.outside("holds(-1)", () -> desk.holds(-1));
        Due.outside("holds(MIN_VALUE)", () -> desk.holds(Integer.MIN_VALUE));
        Due.due("on a new object's word", desk.holds(3), false);
        desk.set(0, 1);
        Due.due("when its letter was set", desk.holds(3), true);
        desk.shape(0, 2);
        Due.due("when it was shaped", desk.holds(3), false);
        Due.typeAll(desk, "Fa");
        desk.formula();
        Due.due("of another formula on the same word", desk.holds(3), true);
    }
}
