/**
 * The sentences of the document about the line and its reading that name a boundary case, in their
 * order, each with a test of its own: "Terms", first paragraph, and promises 1 to 3.
 */
public final class LineBoundariesTest {
    private static final String ALL_18 = "a|a|a|a|a|a|a|a|!a";

    public static void main(String[] args) {
        Due.test("An object is used for at most 512 calls", LineBoundariesTest::usedFor512Calls);
        Due.test("a LINE that is typed, of at most 18 characters", LineBoundariesTest::lineOf18);
        Due.test("A line is a FORMULA (no blanks)", LineBoundariesTest::noBlanks);
        Due.test("a CHAIN: an EITHER, or an EITHER, > and a CHAIN", LineBoundariesTest::chain);
        Due.test("An either is one or more BOTHS with | between", LineBoundariesTest::either);
        Due.test("a both is one or more LONGS with & between", LineBoundariesTest::both);
        Due.test("a long is a SIMPLE, or a simple, U or R, and a long", LineBoundariesTest::longs);
        Due.test("a simple is 0, 1, a, b, c", LineBoundariesTest::simpleOfOneCharacter);
        Due.test("a chain in round brackets", LineBoundariesTest::bracketsRoundAChain);
        Due.test("round brackets (at most four deep)", LineBoundariesTest::fourBracketsDeep);
        Due.test("or !, X, F or G and a simple", LineBoundariesTest::signAndSimple);
        Due.test("Each sign (but brackets) and each 0, 1, a, b, c is a PART", LineBoundariesTest::partsCounted);
        Due.test("X, F, G, U and R are TEMPORAL ones: at most 5 in a line", LineBoundariesTest::fiveTemporals);
        Due.test("numbered from 0 as they stand in it", LineBoundariesTest::temporalsNumbered);
        Due.test("A new object: There is no formula", LineBoundariesTest::newHasNoFormula);
        Due.test("A new object: the line is empty", LineBoundariesTest::newLineIsEmpty);
        Due.test("the given word has no stem and a loop of one letter 0", LineBoundariesTest::newWord);
        Due.test("the bytes of four, the lowest first", LineBoundariesTest::lowestByteFirst);
        Due.test("up to the first that is 0", LineBoundariesTest::upToTheFirstZero);
        Due.test("are put at the end of the line: true", LineBoundariesTest::putAtTheEnd);
        Due.test("False when it would have more than 18", LineBoundariesTest::falseBeyond18);
        Due.test("False, changing nothing", LineBoundariesTest::falseChangesNothing);
        Due.test("IllegalArgumentException when one of them is not 33 .. 126", LineBoundariesTest::wrongCharacter);
        Due.test("IllegalArgumentException, before that", LineBoundariesTest::wrongCharacterBeforeTooMany);
        Due.test("type: an exception changes nothing", LineBoundariesTest::wrongCharacterChangesNothing);
        Due.test("formula: The line is empty then", LineBoundariesTest::lineIsEmptyThen);
        Due.test("The line is empty then, also when an exception comes", LineBoundariesTest::lineIsEmptyBehindAnException);
        Due.test("IllegalArgumentException when it is none", LineBoundariesTest::lineThatIsNone);
        Due.test("IllegalArgumentException when it has more than 5 temporal parts", LineBoundariesTest::sixTemporals);
        Due.test("the formula stays", LineBoundariesTest::formulaStays);
        Due.end();
    }

    // ---- What it is

    private static void usedFor512Calls() {
        LassoDesk desk = new LassoDesk();
        for (int call = 1; call <= 506; call += 11) {
            Due.due("type", desk.type(Due.pack("XXXX")), true);
            Due.due("type", desk.type(Due.pack("X!a")), true);
            Due.due("formula()", desk.formula(), 7);
            Due.due("lasting()", desk.lasting(), 256);
            Due.due("step(5)", desk.step(5), 0);
            desk.shape(8, 8);
            Due.due("adopt()", desk.adopt(), true);
            Due.due("set(0, 1)", desk.set(0, 1), 0);
            Due.due("letter(0)", desk.letter(0), 1);
            Due.due("holds(0)", desk.holds(0), true);
            Due.due("can()", desk.can(), true);
        }
        Due.due("call 507", desk.lasts(255), true);
        Due.due("call 508", desk.isAt(255), true);
        Due.due("call 509", desk.leads(0, 1), true);
        Due.due("call 510", desk.type('a'), true);
        Due.due("call 511", desk.formula(), 1);
        Due.due("call 512", desk.holds(0), true);
    }

    // ---- Terms

    private static void lineOf18() {
        Due.formulaIs(ALL_18, 18);
        Due.formulaIs("!!!!!!!!!!!!!!!!!a", 18);
        Due.formulaIs("!!!!!!!!!!!!!!!!a", 17);
        LassoDesk desk = new LassoDesk();
        Due.typeAll(desk, "!!!!!!!!!!!!!!!!!!");
        Due.due("a 19th character", desk.type('a'), false);
        Due.illegal("18 signs without an end", desk::formula);
        LassoDesk longest = Due.deskOf("!!!!!!!!!!!!!!!!!a");
        Due.due("isAt(0) of the longest", longest.isAt(0), true);
        Due.due("lasting() of the longest", longest.lasting(), 8);
        Due.due("step(0) of the longest", longest.step(0), 0);
        Due.due("holds(0) of the longest", longest.holds(0), true);
        longest.set(0, 1);
        Due.due("holds(0) of the longest, at a", longest.holds(0), false);
    }

    private static void noBlanks() {
        LassoDesk desk = new LassoDesk();
        Due.illegal("a blank", () -> desk.type(Due.pack(" ")));
        Due.illegal("a and a blank", () -> desk.type(Due.pack("a ")));
        Due.illegal("a& and a blank", () -> desk.type(Due.pack("a& ")));
        Due.illegal("a&b and a blank", () -> desk.type(Due.pack("a&b ")));
        Due.illegal("formula(): nothing stands in the line", desk::formula);
    }

    private static void chain() {
        Due.formulaIs("a|b", 3);
        Due.formulaIs("a>b", 3);
        Due.formulaIs("a|b>b|c>c&a", 11);
        Due.formulaIs("a>a>a>a>a>a>a>a>!a", 18);
        noFormulas(">", ">a", "a>", "a>>b", "a>b>", ">a>b", "a>|b", "a|>b", "(a>)", "(>a)");
        Due.due("a>b>c is a>(b>c), at nothing", Due.deskOf("a>b>c").isAt(0), true);
        Due.due("(a>b)>c at nothing", Due.deskOf("(a>b)>c").isAt(0), false);
    }

    private static void either() {
        Due.formulaIs("b&c", 3);
        Due.formulaIs("a|b", 3);
        Due.formulaIs("a|b&c|c", 7);
        Due.formulaIs("0|0|0|0|0|0|0|0|!0", 18);
        noFormulas("|", "|a", "a|", "a||b", "a|b|", "|a|b", "a|&b", "a|Ub", "(a|)", "(|a)");
        Due.due("a|b>c is (a|b)>c, at a", Due.deskOf("a|b>c").isAt(1), false);
        Due.due("a|(b>c) at a", Due.deskOf("a|(b>c)").isAt(1), true);
    }

    private static void both() {
        Due.formulaIs("aUb", 3);
        Due.formulaIs("a&b", 3);
        Due.formulaIs("a&bUc&c", 7);
        Due.formulaIs("1&1&1&1&1&1&1&1&!1", 18);
        noFormulas("&", "&a", "a&", "a&&b", "a&b&", "&a&b", "a&|b", "a&Rb", "(a&)", "(&a)");
        Due.due("a|b&c is a|(b&c), at a", Due.deskOf("a|b&c").isAt(1), true);
        Due.due("(a|b)&c at a", Due.deskOf("(a|b)&c").isAt(1), false);
        Due.due("a&b|c is (a&b)|c, at c", Due.deskOf("a&b|c").isAt(4), true);
        Due.due("a&(b|c) at c", Due.deskOf("a&(b|c)").isAt(4), false);
    }

    private static void longs() {
        Due.formulaIs("!a", 2);
        Due.formulaIs("aUb", 3);
        Due.formulaIs("aRb", 3);
        Due.formulaIs("aUbRcUaRbUc", 11);
        noFormulas("U", "R", "Ua", "aU", "Ra", "aR", "aUUb", "aRRb", "aURb", "aU&b", "aUbR", "UaRb", "(aU)", "(Ra)", "!Ua");
        Due.due("aUb&c is (aUb)&c, at a with U expected", Due.deskOf("aUb&c").isAt(1 | 8), false);
        Due.due("aU(b&c) there", Due.deskOf("aU(b&c)").isAt(1 | 8), true);
        Due.due("aUbRc is aU(bRc), at a with U expected", Due.deskOf("aUbRc").isAt(1 | 8), true);
        Due.due("(aUb)Rc there", Due.deskOf("(aUb)Rc").isAt(1 | 8), false);
        Due.due("aRbUc is aR(bUc), at c", Due.deskOf("aRbUc").isAt(4), false);
        Due.due("(aRb)Uc there", Due.deskOf("(aRb)Uc").isAt(4), true);
    }

    private static void simpleOfOneCharacter() {
        for (int code = 33; code <= 126; code++) {
            String line = "" + (char) code;
            if ("01abc".indexOf(code) >= 0) {
                Due.formulaIs(line, 1);
                Due.formulaIs("a&!" + line, 4);
            } else {
                noFormulas(line, "a" + line, "a&!" + line);
            }
            noFormulas(line + "a" + line, "a" + line + line);
        }
        noFormulas("aa", "a0", "01", "abc", "a!b", "aXb");
    }

    private static void bracketsRoundAChain() {
        Due.formulaIs("(a>b)", 3);
        Due.formulaIs("(a)|(b)|(c)|(a)|b", 9);
        noFormulas("(", ")", "()", "(a", "a)", "((a)", "(a))", ")a(", ")(", "(a&)", "(&a)", "!()", "a()", "a&()", "()a", "a(b)",
            "(a)b", "(a)(b)", "(a>b", "((((", "((((a", "((((a)))", "((((a)))))", "((((((((((((((((((", "))))))))))))))))))");
    }

    private static void fourBracketsDeep() {
        Due.formulaIs("(((a)))", 1);
        Due.formulaIs("((((a))))", 1);
        Due.formulaIs("((((a>b|c&aUb))))", 9);
        Due.formulaIs("!(X(F(G(a))))", 5);
        Due.formulaIs("(((a)))&((((b))))", 3);
        Due.formulaIs("((((a))))|(((b)))", 3);
        Due.formulaIs("(a|(b|(c|(a))))", 7);
        Due.formulaIs("((((a)|(b))))", 3);
        noFormulas("(((((a)))))", "((((((a))))))", "((((((((a))))))))", "!(X(F(G((a)))))", "!(!(!(!(!(a)))))", "a&(((((b)))))", "(((((a)))))&b",
            "(a|(b|(c|((a)))))", "((a)|((((b)))))", "(((((a)|b))))", "((((())))", "((((()))))", "(((((");
    }

    private static void signAndSimple() {
        for (String sign : new String[] {"!", "X", "F", "G"}) {
            Due.formulaIs(sign + "a", 2);
            Due.formulaIs(sign + "(a)", 2);
            Due.formulaIs(sign + sign + "!a", 4);
            noFormulas(sign, sign + sign, "a" + sign, "a" + sign + "b", sign + "&a", sign + ")", "(" + sign + ")", sign + "Ua");
        }
        Due.due("!a&b is (!a)&b, at nothing", Due.deskOf("!a&b").isAt(0), false);
        Due.due("!a|b is (!a)|b, at b", Due.deskOf("!a|b").isAt(2), true);
        Due.due("!a>b is (!a)>b, at a", Due.deskOf("!a>b").isAt(1), true);
        Due.due("!aUb is (!a)Ub, at b", Due.deskOf("!aUb").isAt(2), true);
        Due.due("FaUb is (Fa)Ub, at a with F expected", Due.deskOf("FaUb").isAt(1 | 8), false);
        Due.due("XaRb is (Xa)Rb, with X expected", Due.deskOf("XaRb").isAt(8), false);
        Due.due("Ga>b is (Ga)>b, at nothing", Due.deskOf("Ga>b").isAt(0), true);
    }

    private static void partsCounted() {
        Due.formulaIs("c", 1);
        Due.formulaIs("((((c))))", 1);
        Due.formulaIs("c&c", 3);
        Due.formulaIs("(c)&(c)", 3);
        Due.formulaIs("0&1|a>bUc", 9);
        Due.formulaIs("!0RX1", 5);
        Due.formulaIs("!XFGcUbR0&1|a>!c", 16);
        Due.formulaIs(ALL_18, 18);
    }

    private static void fiveTemporals() {
        for (String sign : new String[] {"X", "F", "G"}) {
            Due.formulaIs(sign.repeat(5) + "a", 6);
            noFormulas(sign.repeat(6) + "a", sign.repeat(17) + "a");
            Due.formulaIs("!!!" + sign.repeat(5) + "!!!a", 12);
        }
        for (String sign : new String[] {"U", "R"}) {
            Due.formulaIs("a" + (sign + "b").repeat(5), 11);
            noFormulas("a" + (sign + "b").repeat(6));
        }
        Due.formulaIs("XFGaUbRc", 8);
        noFormulas("XFGaUbRXc", "XFGaUbRFc", "XFGaUbRGc", "XFGaUbUbRc", "XFGaUbRcRc", "Xa&Xb&Xc&Xa&Xb&Xc");
    }

    private static void temporalsNumbered() {
        String five = "XaUFbRGc";
        LassoDesk desk = Due.deskOf(five);
        for (int s = 0; s < 256; s++) {
            boolean some = Due.bit(s, 1) || Due.bit(s, 5);
            boolean always = Due.bit(s, 2) && Due.bit(s, 7);
            boolean release = always && (some || Due.bit(s, 6));
            Due.due(five + " at " + s, desk.isAt(s), release || Due.bit(s, 3) && Due.bit(s, 4));
        }
        LassoDesk inBrackets = Due.deskOf("!(Xa>(Xb>Xc))");
        for (int s = 0; s < 64; s++) {
            Due.due("!(Xa>(Xb>Xc)) at " + s, inBrackets.isAt(s), Due.bit(s, 3) && Due.bit(s, 4) && !Due.bit(s, 5));
        }
        LassoDesk next = Due.deskOf("Xa&Xb&Xc&X!a&X!b");
        for (int to = 0; to < 8; to++) {
            int from = (to | (~to & 3) << 3) << 3;
            Due.due("leads(" + from + ", " + to + ")", next.leads(from, to), true);
            for (int i = 3; i < 8; i++) {
                Due.due("leads, but for bit " + i, next.leads(from ^ 1 << i, to), false);
            }
        }
    }

    // ---- Promise 1

    private static void newHasNoFormula() {
        Due.noFormulaYet(new LassoDesk());
        LassoDesk desk = new LassoDesk();
        desk.type('a');
        Due.noFormulaYet(desk);
        Due.deskOf("Fa");
        Due.noFormulaYet(new LassoDesk());
    }

    private static void newLineIsEmpty() {
        Due.illegal("formula()", () -> new LassoDesk().formula());
        Due.lineIsEmpty(new LassoDesk());
        new LassoDesk().type('!');
        Due.lineIsEmpty(new LassoDesk());
    }

    private static void newWord() {
        Due.wordIs(new LassoDesk(), 0, 0);
        LassoDesk desk = new LassoDesk();
        Due.due("letter(MAX_VALUE)", desk.letter(Integer.MAX_VALUE), 0);
        Due.outside("set(1, 1)", () -> desk.set(1, 1));
        Due.due("set(0, 5)", desk.set(0, 5), 0);
        Due.wordIs(desk, 0, 5);
        Due.wordIs(new LassoDesk(), 0, 0);
    }

    // ---- Promise 2

    private static void lowestByteFirst() {
        LassoDesk desk = new LassoDesk();
        Due.due("type(0x00623E61)", desk.type(0x00623E61), true);
        Due.due("formula()", desk.formula(), 3);
        Due.due("a>b at a", desk.isAt(1), false);
        Due.due("a>b at b", desk.isAt(2), true);
        Due.due("type(0x623E6121)", desk.type(0x623E6121), true);
        Due.due("formula()", desk.formula(), 4);
        Due.due("!a>b at a", desk.isAt(1), true);
        Due.due("!a>b at nothing", desk.isAt(0), false);
    }

    private static void upToTheFirstZero() {
        int[] wrong = {1, 32, 127, 128, 255, 'b'};
        for (int code : wrong) {
            typedParts(0, Due.codes('a', 0, code, code), 1);
            typedParts(0, Due.codes('!', 'a', 0, code), 2);
            typedParts('a', Due.codes(0, code, code, code), 1);
            typedParts('a', Due.codes(0, 0, code, 0), 1);
        }
        typedParts(0, Due.codes('a', '&', 'b', 0), 3);
        typedParts(0, Due.codes('!', '!', '!', 'a'), 4);
        typedParts('a', 0, 1);
        Due.illegal("formula() when 0 alone was typed", () -> {
            LassoDesk desk = new LassoDesk();
            Due.due("type(0)", desk.type(0), true);
            desk.formula();
        });
    }

    private static void typedParts(int first, int second, int parts) {
        LassoDesk desk = new LassoDesk();
        Due.due("type(" + first + ")", desk.type(first), true);
        Due.due("type(" + second + ")", desk.type(second), true);
        Due.due("formula() behind type(" + first + ") and type(" + second + ")", desk.formula(), parts);
    }

    private static void putAtTheEnd() {
        String line = "Fa>GbU!c|X1&(bRa)";
        boolean[] so = new boolean[256];
        LassoDesk byFour = Due.deskOf(line);
        for (int s = 0; s < 256; s++) {
            so[s] = byFour.isAt(s);
        }
        for (int size = 1; size <= 3; size++) {
            LassoDesk desk = new LassoDesk();
            for (int i = 0; i < line.length(); i += size) {
                Due.due("type", desk.type(Due.pack(line.substring(i, Math.min(i + size, line.length())))), true);
            }
            Due.due("formula() typed by " + size, desk.formula(), 15);
            for (int s = 0; s < 256; s++) {
                Due.due("isAt(" + s + ") typed by " + size, desk.isAt(s), so[s]);
            }
        }
    }

    private static void falseBeyond18() {
        for (int had = 0; had <= 18; had++) {
            for (int more = 0; more <= 4; more++) {
                LassoDesk desk = new LassoDesk();
                Due.typeAll(desk, "!".repeat(had));
                Due.due(more + " behind " + had, desk.type(Due.pack("!".repeat(more))), had + more <= 18);
            }
        }
    }

    private static void falseChangesNothing() {
        LassoDesk desk = Due.deskOf("Fb");
        Due.typeAll(desk, "a&a&a&a&a&a&a&a&");
        Due.due("16 and 3", desk.type(Due.pack("b|c")), false);
        Due.due("16 and 4", desk.type(Due.pack("b|c|")), false);
        Due.due("the formula is the old one", desk.states(), 16);
        Due.due("16 and 2", desk.type(Due.pack("!a")), true);
        Due.due("18 and 1", desk.type('c'), false);
        Due.due("18 and 4", desk.type(Due.pack("aaaa")), false);
        Due.due("formula()", desk.formula(), 18);
        Due.due("isAt(1)", desk.isAt(1), false);
        Due.lineIsEmpty(desk);
    }

    private static void wrongCharacter() {
        for (int code = 1; code <= 255; code++) {
            int[] fours = {Due.codes(code, 0, 0, 0), Due.codes(code, 'a', 'a', 'a'), Due.codes('a', code, 'a', 0), Due.codes('a', 'a', code, 0),
                Due.codes('a', 'a', 'a', code)};
            for (int four : fours) {
                LassoDesk desk = new LassoDesk();
                if (code >= 33 && code <= 126) {
                    Due.due("type(" + four + ")", desk.type(four), true);
                } else {
                    Due.illegal("type(" + four + ")", () -> desk.type(four));
                }
            }
        }
        Due.illegal("type(-1)", () -> new LassoDesk().type(-1));
        Due.illegal("type(MIN_VALUE + a)", () -> new LassoDesk().type(Integer.MIN_VALUE | Due.pack("aaa")));
        Due.due("type(MIN_VALUE)", new LassoDesk().type(Integer.MIN_VALUE), true);
    }

    private static void wrongCharacterBeforeTooMany() {
        LassoDesk desk = new LassoDesk();
        Due.typeAll(desk, "!!!!!!!!!!!!!!!!!");
        for (int code : new int[] {1, 32, 127, 255}) {
            Due.illegal("17 and two", () -> desk.type(Due.codes('a', code, 0, 0)));
            Due.illegal("17 and four", () -> desk.type(Due.codes('a', 'a', 'a', code)));
        }
        Due.due("17 and one", desk.type('a'), true);
        Due.illegal("18 and one", () -> desk.type(32));
        Due.illegal("18 and four", () -> desk.type(Due.codes('a', 'a', 'a', 127)));
        Due.due("formula()", desk.formula(), 18);
    }

    private static void wrongCharacterChangesNothing() {
        LassoDesk desk = Due.deskOf("Fb");
        Due.typeAll(desk, "a&");
        Due.illegal("b and a blank", () -> desk.type(Due.pack("b ")));
        Due.illegal("b|c and 127", () -> desk.type(Due.codes('b', '|', 'c', 127)));
        Due.due("the formula is the old one", desk.states(), 16);
        Due.due("b", desk.type('b'), true);
        Due.due("formula()", desk.formula(), 3);
        Due.due("a&b at b", desk.isAt(2), false);
        Due.due("a&b at a and b", desk.isAt(3), true);
    }

    // ---- Promise 3

    private static void lineIsEmptyThen() {
        LassoDesk desk = Due.deskOf("a&b");
        Due.illegal("formula() again", desk::formula);
        Due.lineIsEmpty(Due.deskOf("a&b"));
        Due.lineIsEmpty(Due.deskOf(ALL_18));
        LassoDesk another = Due.deskOf("a");
        another.type('b');
        Due.due("b behind a", another.formula(), 1);
        Due.due("b at a", another.isAt(1), false);
    }

    private static void lineIsEmptyBehindAnException() {
        for (String line : new String[] {"", "aa", "!", "a&", "(a", "XXXXXXa", "XXXXXX", "(((((a)))))", "!!!!!!!!!!!!!!!!!!", "aUaUaUaUaUaUaUaUa"}) {
            LassoDesk desk = Due.deskOf("Fb");
            Due.typeAll(desk, line);
            Due.illegal("formula() of " + line, desk::formula);
            Due.lineIsEmpty(desk);
        }
    }

    private static void lineThatIsNone() {
        noFormulas("", "ab", "a&", "d", "A", "x", "f", "u", "2", "~", "a1", "~a", "a=b", "a<b", "a->b", "[a]", "{a}");
        LassoDesk desk = new LassoDesk();
        Due.illegal("formula() of an empty line", desk::formula);
        desk.type('&');
        Due.illegal("formula() of &", desk::formula);
        Due.noFormulaYet(desk);
    }

    private static void sixTemporals() {
        LassoDesk desk = new LassoDesk();
        Due.typeAll(desk, "XXXXXXa");
        Due.illegal("formula() of six", desk::formula);
        Due.noFormulaYet(desk);
        Due.typeAll(desk, "XXXXXa");
        Due.due("formula() of five", desk.formula(), 6);
        Due.due("states() of five", desk.states(), 256);
        Due.typeAll(desk, "FGXFGXFGXFGXFGXFGa");
        Due.illegal("formula() of seventeen", desk::formula);
        Due.due("states() of five still", desk.states(), 256);
    }

    private static void formulaStays() {
        for (String line : new String[] {"XXXXXXa", "GFGFGFb", "aUbUcUaUbUcUa", "", "a&b)", "Gb&Gc&", "b|(F", "(((((a)))))", "0&&1"}) {
            for (String stays : new String[] {"a", "F0", "GFa&GFb", "XXXXXa"}) {
                LassoDesk desk = Due.deskOf(stays);
                Due.giveWord(desk, 1, 1, 2, 5);
                LassoDesk twin = Due.deskOf(stays);
                Due.giveWord(twin, 1, 1, 2, 5);
                Due.typeAll(desk, line);
                Due.illegal("formula() of " + line + " behind " + stays, desk::formula);
                Due.sameAnswers(desk, twin);
            }
        }
    }

    private static void noFormulas(String... lines) {
        for (String line : lines) {
            Due.noFormula(line);
        }
    }
}
