/**
 * The sentences of the document about the walk that name a boundary case, in their order, each with
 * a test of its own: "Terms", THE WALK, and promises 10 to 13 and 16.
 */
public final class WalkBoundariesTest {
    public static void main(String[] args) {
        Due.test("THE WALK begins, when there is a state that lasts and at which the whole formula is so",
            WalkBoundariesTest::noStateToBeginAt);
        Due.test("at the least such one", WalkBoundariesTest::beginsAtTheLeast);
        Due.test("with DUTY 0", WalkBoundariesTest::beginsWithDuty0);
        Due.test("as long as the promise that is the duty is not open there", WalkBoundariesTest::dutyNotOpen);
        Due.test("or is kept there", WalkBoundariesTest::dutyKept);
        Due.test("as long as ..., the duty becomes the next one", WalkBoundariesTest::dutyGoesOnAsLongAs);
        Due.test("the duty becomes the next one", WalkBoundariesTest::dutyBecomesTheNext);
        Due.test("(behind the last one 0)", WalkBoundariesTest::behindTheLastOne0);
        Due.test("when that holds for all promises the duty stays as it was when the state was come to",
            WalkBoundariesTest::dutyStaysWhenAllHold);
        Due.test("(or there is none) the duty stays as it was", WalkBoundariesTest::noPromiseAtAll);
        Due.test("that has the fewest steps to one where the promise is kept", WalkBoundariesTest::fewestSteps);
        Due.test("steps (within lasting states)", WalkBoundariesTest::stepsWithinLastingStates);
        Due.test("the least of several", WalkBoundariesTest::leastOfSeveral);
        Due.test("otherwise to the least lasting one to which it leads", WalkBoundariesTest::otherwiseTheLeastLasting);
        Due.test("As soon as a state and a duty come again, the walk ends", WalkBoundariesTest::stateAndDutyComeAgain);
        Due.test("a duty (as it is when the walk goes on from there)", WalkBoundariesTest::dutyAsTheWalkGoesOn);
        Due.test("the states before the first of the two are the STEM, those from the first to before the second are the LOOP",
            WalkBoundariesTest::stemAndLoop);
        Due.test("Its letters, the loop again and again, are a word on which the formula is so",
            WalkBoundariesTest::formulaIsSoOnItsLetters);
        Due.test("can: Whether there is a walk", WalkBoundariesTest::canOrNot);
        Due.test("can: IllegalStateException when there is no formula", WalkBoundariesTest::canWithoutFormula);
        Due.test("stem: NONE when there is no walk", WalkBoundariesTest::stemNone);
        Due.test("stem: IllegalStateException when there is no formula", WalkBoundariesTest::stemWithoutFormula);
        Due.test("loop: NONE when there is no walk", WalkBoundariesTest::loopNone);
        Due.test("loop: IllegalStateException when there is no formula", WalkBoundariesTest::loopWithoutFormula);
        Due.test("step: State k (from 0) of the walk, stem and loop", WalkBoundariesTest::stepFrom0);
        Due.test("step: IllegalStateException when there is no formula", WalkBoundariesTest::stepWithoutFormula);
        Due.test("step: IllegalStateException when there is no walk", WalkBoundariesTest::stepWithoutWalk);
        Due.test("step: IndexOutOfBoundsException when it has not so many", WalkBoundariesTest::stepHasNotSoMany);
        Due.test("adopt: The letters of the walk become the given word: true", WalkBoundariesTest::adoptTakesTheLetters);
        Due.test("adopt: false when there is no walk", WalkBoundariesTest::adoptWithoutWalk);
        Due.test("adopt: false when its stem is too long", WalkBoundariesTest::adoptStemTooLong);
        Due.test("adopt: false when its loop is too long", WalkBoundariesTest::adoptLoopTooLong);
        Due.test("adopt: false, changing nothing", WalkBoundariesTest::adoptFalseChangesNothing);
        Due.test("adopt: IllegalStateException when there is no formula", WalkBoundariesTest::adoptWithoutFormula);
        Due.test("the walk of XXa, asked for at once", WalkBoundariesTest::firstCallBehindFormula);
        Due.end();
    }

    // ---- THE WALK

    private static void noStateToBeginAt() {
        LassoDesk so = Due.deskOf("F0");
        Due.due("F0 is so at 8", so.isAt(8), true);
        Due.due("8 does not last", so.lasts(8), false);
        Due.due("0 lasts", so.lasts(0), true);
        Due.due("F0 is not so at 0", so.isAt(0), false);
        Due.noWalk(so, "F0");
        for (String line : new String[] {"0", "a&!a", "X0", "!G1", "aU0", "!(aR1)", "Ga&F!a", "GFa&FG!a", "FX0"}) {
            Due.noWalk(Due.deskOf(line), line);
        }
    }

    private static void beginsAtTheLeast() {
        Due.walkIs("1", 0, 0);
        Due.walkIs("a", 1, 1, 0);
        Due.walkIs("c", 1, 4, 0);
        Due.walkIs("a&b&c", 1, 7, 0);
        Due.due("F1 is so at 0, which does not last", Due.deskOf("F1").isAt(0), true);
        Due.walkIs("F1", 0, 8);
        Due.due("the last one of all", Due.deskOf("XXXXX1&a&b&c").step(0), 255);
    }

    private static void beginsWithDuty0() {
        Due.walkIs("FG!a", 2, 8, 25, 24);
        Due.walkIs("FXG!b", 2, 8, 58, 56);
    }

    private static void dutyNotOpen() {
        Due.walkIs("aUc", 1, 4, 0);
        Due.walkIs("!Fa", 0, 0);
        Due.walkIs("Ga", 0, 9);
        Due.walkIs("!F(a|b|c)", 0, 0);
        Due.walkIs("G(a&b&c)", 0, 15);
    }

    private static void dutyKept() {
        Due.walkIs("0Uc", 1, 4, 0);
        Due.walkIs("Fa", 1, 1, 0);
        Due.walkIs("GFa", 0, 24, 25);
    }

    private static void dutyGoesOnAsLongAs() {
        Due.walkIs("FGFa", 0, 56, 57);
        Due.walkIs("GFFa", 0, 56, 57);
    }

    private static void dutyBecomesTheNext() {
        Due.walkIs("GFbUGc", 3, 56, 58, 120, 124, 126);
        Due.walkIs("FXcUGc", 4, 40, 56, 44, 120, 124);
        Due.walkIs("GaRFXa", 1, 48, 112, 49);
    }

    private static void behindTheLastOne0() {
        Due.walkIs("aR!Ga", 3, 1, 0, 16, 17);
        Due.walkIs("GFa|Ga", 0, 24, 25);
        Due.walkIs("GFaUXb", 4, 56, 57, 88, 27, 24, 25);
    }

    private static void dutyStaysWhenAllHold() {
        Due.walkIs("GFa&a", 1, 25, 24, 25);
        Due.walkIs("GFaRa", 1, 25, 24, 56, 25);
        Due.walkIs("FGa", 2, 8, 24, 25);
        Due.walkIs("GGa", 0, 25);
    }

    private static void noPromiseAtAll() {
        Due.walkIs("!a", 0, 0);
        Due.walkIs("Xa", 2, 8, 1, 0);
        Due.walkIs("XXa", 3, 8, 16, 1, 0);
        Due.walkIs("XXXXXa", 6, 8, 16, 32, 64, 128, 1, 0);
    }

    private static void fewestSteps() {
        Due.walkIs("FXa", 3, 8, 16, 1, 0);
        Due.walkIs("FGa", 2, 8, 24, 25);
        Due.walkIs("GFc", 0, 24, 28);
    }

    private static void stepsWithinLastingStates() {
        Due.walkIs("XGFaRa", 1, 57, 56, 120, 57);
        Due.walkIs("F(a&XGa)", 2, 8, 56, 57);
        Due.walkIs("F(XX0|Ga)", 2, 8, 72, 73);
        Due.walkIs("FGa|GXa", 3, 8, 40, 120, 121);
    }

    private static void leastOfSeveral() {
        Due.walkIs("GFb", 0, 24, 26);
        Due.walkIs("GF(a|b)", 0, 24, 25);
        Due.walkIs("GFa&GFb", 1, 120, 121, 122);
    }

    private static void otherwiseTheLeastLasting() {
        Due.walkIs("a&b", 1, 3, 0);
        Due.due("X1: 8 leads to 0, which does not last", Due.deskOf("X1").leads(8, 0), true);
        Due.walkIs("X1", 0, 8);
        Due.walkIs("FF1", 0, 24);
        Due.walkIs("XXXXX1", 0, 248);
    }

    private static void stateAndDutyComeAgain() {
        Due.walkIs("GFb&b", 1, 26, 24, 26);
        Due.walkIs("c&GFc", 1, 28, 24, 28);
        Due.walkIs("GFcRc", 1, 28, 24, 56, 28);
    }

    private static void dutyAsTheWalkGoesOn() {
        Due.walkIs("GFa", 0, 24, 25);
        Due.walkIs("FGFc", 0, 56, 60);
    }

    private static void stemAndLoop() {
        Due.walkIs("1", 0, 0);
        Due.walkIs("a", 1, 1, 0);
        lengths("G(XXXXb|b)", 0, 8);
        lengths("!F!(F(aRb)UbRa)", 0, 10);
        lengths("FcUcRXXc", 10, 1);
        lengths("cR(XX(X(Xc))>c)", 10, 3);
    }

    private static void lengths(String line, int stem, int loop) {
        LassoDesk desk = Due.deskOf(line);
        Due.due(line + " stem", desk.stem(), stem);
        Due.due(line + " loop", desk.loop(), loop);
        for (int k = 0; k + 1 < stem + loop; k++) {
            Due.due(line + " leads on from " + k, desk.leads(desk.step(k), desk.step(k + 1)), true);
        }
        Due.due(line + " leads round", desk.leads(desk.step(stem + loop - 1), desk.step(stem)), true);
    }

    private static void formulaIsSoOnItsLetters() {
        for (String line : new String[] {"1", "a&!b", "XXXXXa", "Fa", "Ga", "aU(b&!a)", "aRb&F!b", "GFa&GFb&Fc", "!(GFa>FGa)", "FaUbRXXb",
            "G(XXXXb|b)", "G(a>Xb)&GF(a&c)"}) {
            LassoDesk desk = Due.deskOf(line);
            Due.due("adopt() of " + line, desk.adopt(), true);
            Due.due(line + " on its word", desk.holds(0), true);
        }
    }

    // ---- Promises 10 to 13

    private static void canOrNot() {
        Due.due("1", Due.deskOf("1").can(), true);
        Due.due("0", Due.deskOf("0").can(), false);
        LassoDesk desk = Due.deskOf("a&!a");
        Due.due("a&!a", desk.can(), false);
        Due.typeAll(desk, "a");
        desk.formula();
        Due.due("a behind a&!a", desk.can(), true);
        Due.typeAll(desk, "F0");
        desk.formula();
        Due.due("F0 behind a", desk.can(), false);
    }

    private static void canWithoutFormula() {
        Due.noState("can()", () -> new LassoDesk().can());
        Due.noState("can() behind a refused line", () -> Due.refused().can());
    }

    private static void stemNone() {
        Due.due("0", Due.deskOf("0").stem(), -1);
        Due.due("F0", Due.deskOf("F0").stem(), LassoDesk.NONE);
        Due.due("Ga, an empty stem", Due.deskOf("Ga").stem(), 0);
        LassoDesk desk = Due.deskOf("XXa");
        Due.due("XXa", desk.stem(), 3);
        Due.typeAll(desk, "a&!a");
        desk.formula();
        Due.due("a&!a behind XXa", desk.stem(), LassoDesk.NONE);
    }

    private static void stemWithoutFormula() {
        Due.noState("stem()", () -> new LassoDesk().stem());
        Due.noState("stem() behind a refused line", () -> Due.refused().stem());
    }

    private static void loopNone() {
        Due.due("0", Due.deskOf("0").loop(), -1);
        Due.due("F0", Due.deskOf("F0").loop(), LassoDesk.NONE);
        Due.due("Ga, the shortest loop", Due.deskOf("Ga").loop(), 1);
        LassoDesk desk = Due.deskOf("GFa");
        Due.due("GFa", desk.loop(), 2);
        Due.typeAll(desk, "a&!a");
        desk.formula();
        Due.due("a&!a behind GFa", desk.loop(), LassoDesk.NONE);
    }

    private static void loopWithoutFormula() {
        Due.noState("loop()", () -> new LassoDesk().loop());
        Due.noState("loop() behind a refused line", () -> Due.refused().loop());
    }

    private static void stepFrom0() {
        LassoDesk desk = Due.deskOf("GFa&GFb");
        Due.due("step(0), the stem", desk.step(0), 120);
        Due.due("step(1), the loop", desk.step(1), 121);
        Due.due("step(2), the loop's last", desk.step(2), 122);
    }

    private static void stepWithoutFormula() {
        for (int k : new int[] {0, 1, -1, Integer.MIN_VALUE, Integer.MAX_VALUE}) {
            Due.noState("step(" + k + ")", () -> new LassoDesk().step(k));
            Due.noState("step(" + k + ") behind a refused line", () -> Due.refused().step(k));
        }
    }

    private static void stepWithoutWalk() {
        for (int k : new int[] {0, 1, -1, Integer.MIN_VALUE, Integer.MAX_VALUE}) {
            Due.noState("0 step(" + k + ")", () -> Due.deskOf("0").step(k));
            Due.noState("F0 step(" + k + ")", () -> Due.deskOf("F0").step(k));
        }
        LassoDesk desk = Due.deskOf("XXa");
        desk.step(3);
        Due.typeAll(desk, "a&!a");
        desk.formula();
        Due.noState("a&!a behind XXa step(0)", () -> desk.step(0));
    }

    private static void stepHasNotSoMany() {
        LassoDesk one = Due.deskOf("1");
        Due.due("step(0) of one", one.step(0), 0);
        for (int k : new int[] {1, 2, -1, Integer.MIN_VALUE, Integer.MAX_VALUE}) {
            Due.outside("step(" + k + ") of one", () -> one.step(k));
        }
        LassoDesk four = Due.deskOf("XXa");
        Due.due("step(3) of four", four.step(3), 0);
        Due.outside("step(4) of four", () -> four.step(4));
        Due.outside("step(-1) of four", () -> four.step(-1));
        LassoDesk thirteen = Due.deskOf("cR(XX(X(Xc))>c)");
        thirteen.step(12);
        Due.outside("step(13) of thirteen", () -> thirteen.step(13));
        Due.typeAll(thirteen, "a");
        thirteen.formula();
        Due.outside("step(2) of two, behind thirteen", () -> thirteen.step(2));
    }

    // ---- Promise 16

    private static void adoptTakesTheLetters() {
        LassoDesk desk = Due.deskOf("XXa");
        Due.giveWord(desk, 8, 7, 7, 7, 7, 7, 7, 7, 7, 7, 7, 7, 7, 7, 7, 7, 7);
        Due.due("adopt()", desk.adopt(), true);
        Due.wordIs(desk, 3, 0, 0, 1, 0);
        desk.shape(8, 8);
        Due.wordIs(desk, 8, 0, 0, 1, 0, 0, 0, 0, 0, 0, 0, 0, 0, 0, 0, 0, 0);
        LassoDesk shortest = Due.deskOf("G(a&c)");
        Due.due("adopt() of a loop alone", shortest.adopt(), true);
        Due.wordIs(shortest, 0, 5);
        LassoDesk longer = Due.deskOf("GFa&GFb");
        Due.due("adopt() behind one letter", longer.adopt(), true);
        Due.wordIs(longer, 1, 0, 1, 2);
        Due.due("adopt() again", longer.adopt(), true);
        Due.wordIs(longer, 1, 0, 1, 2);
        Due.typeAll(longer, "a");
        longer.formula();
        Due.due("adopt() of a shorter walk", longer.adopt(), true);
        Due.wordIs(longer, 1, 1, 0);
        longer.shape(2, 2);
        Due.wordIs(longer, 2, 1, 0, 0, 0);
    }

    private static void adoptWithoutWalk() {
        Due.due("0", Due.deskOf("0").adopt(), false);
        Due.due("F0", Due.deskOf("F0").adopt(), false);
        LassoDesk desk = Due.deskOf("a");
        Due.due("a", desk.adopt(), true);
        Due.typeAll(desk, "a&!a");
        desk.formula();
        Due.due("a&!a behind a", desk.adopt(), false);
        Due.wordIs(desk, 1, 1, 0);
    }

    private static void adoptStemTooLong() {
        adopted("FcUcRXc", 7, 1, true);
        adopted("FaUbRXXb", 8, 1, true);
        adopted("bUX(Xc)R(!(aUc))", 8, 6, true);
        adopted("FcUXXcRc", 9, 1, false);
        adopted("X(XXX(aUc)>c)", 9, 2, false);
        adopted("FcUcRXXc", 10, 1, false);
    }

    private static void adoptLoopTooLong() {
        adopted("GF(XXXb|b)", 0, 7, true);
        adopted("G(XXXXb|b)", 0, 8, true);
        adopted("(XXb)R!(aU(cUb))", 3, 8, true);
        adopted("G(XXc>c|bUaR!c)", 0, 9, false);
        adopted("X(!Xb)R(!(cUaRb))", 4, 9, false);
        adopted("!F!(F(aRb)UbRa)", 0, 10, false);
    }

    private static void adopted(String line, int stem, int loop, boolean fits) {
        LassoDesk desk = Due.deskOf(line);
        Due.due(line + " stem", desk.stem(), stem);
        Due.due(line + " loop", desk.loop(), loop);
        Due.due("adopt() of " + line, desk.adopt(), fits);
        if (fits) {
            int[] letters = new int[stem + loop];
            for (int k = 0; k < letters.length; k++) {
                letters[k] = desk.step(k) & 7;
            }
            Due.wordIs(desk, stem, letters);
            Due.due(line + " on its word", desk.holds(0), true);
        } else {
            Due.wordIs(desk, 0, 0);
        }
    }

    private static void adoptFalseChangesNothing() {
        for (String line : new String[] {"0", "F0", "FcUXXcRc", "G(XXc>c|bUaR!c)"}) {
            LassoDesk desk = Due.deskOf(line);
            LassoDesk twin = Due.deskOf(line);
            Due.giveWord(desk, 1, 3, 0, 5);
            Due.giveWord(twin, 1, 3, 0, 5);
            Due.due("adopt() of " + line, desk.adopt(), false);
            Due.sameAnswers(desk, twin);
            Due.wordIs(desk, 1, 3, 0, 5);
            Due.lineIsEmpty(desk);
        }
    }

    private static void adoptWithoutFormula() {
        LassoDesk desk = new LassoDesk();
        Due.giveWord(desk, 1, 3, 0, 5);
        Due.noState("adopt()", desk::adopt);
        Due.wordIs(desk, 1, 3, 0, 5);
        Due.noState("adopt() behind a refused line", () -> Due.refused().adopt());
    }

    /** Whichever call comes first behind formula(), its answer is the same. */
    private static void firstCallBehindFormula() {
        Due.due("lasts(31)", Due.deskOf("XXa").lasts(31), true);
        Due.due("lasting()", Due.deskOf("XXa").lasting(), 32);
        Due.due("can()", Due.deskOf("XXa").can(), true);
        Due.due("stem()", Due.deskOf("XXa").stem(), 3);
        Due.due("loop()", Due.deskOf("XXa").loop(), 1);
        Due.due("step(2)", Due.deskOf("XXa").step(2), 1);
        Due.due("adopt()", Due.deskOf("XXa").adopt(), true);
    }
}
