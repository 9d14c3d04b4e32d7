/**
 * The sentences of the document about the walk that name a boundary case, in their order, each with
 * a test of its own: "Terms", THE WALK, and promises 10 to 13 and 16.
 */
public final class WalkBoundariesTest {
    public static void main(String[] args) {
        noStateToBeginAt();
        beginsAtTheLeast();
        beginsWithDuty0();
        dutyNotOpen();
        dutyKept();
        dutyGoesOnAsLongAs();
        dutyBecomesTheNext();
        behindTheLastOne0();
        dutyStaysWhenAllHold();
        noPromiseAtAll();
        fewestSteps();
        stepsWithinLastingStates();
        leastOfSeveral();
        otherwiseTheLeastLasting();
        stateAndDutyComeAgain();
        dutyAsTheWalkGoesOn();
        stemAndLoop();
        formulaIsSoOnItsLetters();
        canOrNot();
        canWithoutFormula();
        stemNone();
        stemWithoutFormula();
        loopNone();
        loopWithoutFormula();
        stepFrom0();
        stepWithoutFormula();
        stepWithoutWalk();
        stepHasNotSoMany();
        adoptTakesTheLetters();
        adoptWithoutWalk();
        adoptStemTooLong();
        adoptLoopTooLong();
        adoptFalseChangesNothing();
        adoptWithoutFormula();
        firstCallBehindFormula();
        Due.end();
    }

    // ---- THE WALK

    private static void noStateToBeginAt() {
        Due.sentence("THE WALK begins, when there is a state that lasts and at which the whole formula is so");
        LassoDesk so = Due.deskOf("F0");
        Due.due("F0 is so at 8", so.isAt(8), true);
        Due.due("8 does not last", so.lasts(8), false);
        Due.due("0 lasts", so.lasts(0), true);
        Due.due("F0 is not so at 0", so.isAt(0), false);
        Due.noWalk(so, "F0");
        for (String line : new String[] {"0", "a&!a", "X0", "!G1", "aU0", "!(aR1)", "Ga&F!a", "GFa&FG!a", "FX0"}) {
            Due.noWalk(Due.deskOf(line), line);
        }
    }

    private static void beginsAtTheLeast() {
        Due.sentence("at the least such one");
        Due.walkIs("1", 0, 0);
        Due.walkIs("a", 1, 1, 0);
        Due.walkIs("c", 1, 4, 0);
        Due.walkIs("a&b&c", 1, 7, 0);
        Due.due("F1 is so at 0, which does not last", Due.deskOf("F1").isAt(0), true);
        Due.walkIs("F1", 0, 8);
        Due.due("the last one of all", Due.deskOf("XXXXX1&a&b&c").step(0), 255);
    }

    private static void beginsWithDuty0() {
        Due.sentence("with DUTY 0");
        Due.walkIs("FG!a", 2, 8, 25, 24);
        Due.walkIs("FXG!b", 2, 8, 58, 56);
    }

    private static void dutyNotOpen() {
        Due.sentence("as long as the promise that is the duty is not open there");
        Due.walkIs("aUc", 1, 4, 0);
        Due.walkIs("!Fa", 0, 0);
        Due.walkIs("Ga", 0, 9);
    }

    private static void dutyKept() {
        Due.sentence("or is kept there");
        Due.walkIs("0Uc", 1, 4, 0);
        Due.walkIs("Fa", 1, 1, 0);
        Due.walkIs("GFa", 0, 24, 25);
    }

    private static void dutyGoesOnAsLongAs() {
        Due.sentence("as long as ..., the duty becomes the next one");
        Due.walkIs("FGFa", 0, 56, 57);
        Due.walkIs("GFFa", 0, 56, 57);
    }

    private static void dutyBecomesTheNext() {
        Due.sentence("the duty becomes the next one");
        Due.walkIs("GFbUGc", 3, 56, 58, 120, 124, 126);
        Due.walkIs("FXcUGc", 4, 40, 56, 44, 120, 124);
        Due.walkIs("GaRFXa", 1, 48, 112, 49);
    }

    private static void behindTheLastOne0() {
        Due.sentence("(behind the last one 0)");
        Due.walkIs("aR!Ga", 3, 1, 0, 16, 17);
        Due.walkIs("GFa|Ga", 0, 24, 25);
        Due.walkIs("GFaUXb", 4, 56, 57, 88, 27, 24, 25);
    }

    private static void dutyStaysWhenAllHold() {
        Due.sentence("when that holds for all promises the duty stays as it was when the state was come to");
        Due.walkIs("GFa&a", 1, 25, 24, 25);
        Due.walkIs("GFaRa", 1, 25, 24, 56, 25);
        Due.walkIs("FGa", 2, 8, 24, 25);
        Due.walkIs("GGa", 0, 25);
    }

    private static void noPromiseAtAll() {
        Due.sentence("(or there is none) the duty stays as it was");
        Due.walkIs("!a", 0, 0);
        Due.walkIs("Xa", 2, 8, 1, 0);
        Due.walkIs("XXa", 3, 8, 16, 1, 0);
        Due.walkIs("XXXXXa", 6, 8, 16, 32, 64, 128, 1, 0);
    }

    private static void fewestSteps() {
        Due.sentence("that has the fewest steps to one where the promise is kept");
        Due.walkIs("FXa", 3, 8, 16, 1, 0);
        Due.walkIs("FGa", 2, 8, 24, 25);
        Due.walkIs("GFc", 0, 24, 28);
    }

    private static void stepsWithinLastingStates() {
        Due.sentence("steps (within lasting states)");
        Due.walkIs("XGFaRa", 1, 57, 56, 120, 57);
        Due.walkIs("F(a&XGa)", 2, 8, 56, 57);
        Due.walkIs("F(XX0|Ga)", 2, 8, 72, 73);
        Due.walkIs("FGa|GXa", 3, 8, 40, 120, 121);
    }

    private static void leastOfSeveral() {
        Due.sentence("the least of several");
        Due.walkIs("GFb", 0, 24, 26);
        Due.walkIs("GF(a|b)", 0, 24, 25);
        Due.walkIs("GFa&GFb", 1, 120, 121, 122);
    }

    private static void otherwiseTheLeastLasting() {
        Due.sentence("otherwise to the least lasting one to which it leads");
        Due.walkIs("a&b", 1, 3, 0);
        Due.due("X1: 8 leads to 0, which does not last", Due.deskOf("X1").leads(8, 0), true);
        Due.walkIs("X1", 0, 8);
        Due.walkIs("FF1", 0, 24);
        Due.walkIs("XXXXX1", 0, 248);
    }

    private static void stateAndDutyComeAgain() {
        Due.sentence("As soon as a state and a duty come again, the walk ends");
        Due.walkIs("GFb&b", 1, 26, 24, 26);
        Due.walkIs("c&GFc", 1, 28, 24, 28);
        Due.walkIs("GFcRc", 1, 28, 24, 56, 28);
    }

    private static void dutyAsTheWalkGoesOn() {
        Due.sentence("a duty (as it is when the walk goes on from there)");
        Due.walkIs("GFa", 0, 24, 25);
        Due.walkIs("FGFc", 0, 56, 60);
    }

    private static void stemAndLoop() {
        Due.sentence("the states before the first of the two are the STEM, those from the first to before the second are the LOOP");
        Due.walkIs("1", 0, 0);
        Due.walkIs("a", 1, 1, 0);
        lengths("G(XXXXb|b)", 0, 8);
        lengths("!F!(F(aRb)UbRa)", 0, 10);
        lengths("FcUcRXXc", 10, 1);
        lengths("cR(XX(X(Xc))>c)", 10, 3);
    }

    private static void lengths(String line, int stem, int loop) {
        LassoDesk desk = Due.deskOf(line);
        Due.due(line + " stem", desk.stem(), stem);
        Due.due(line + " loop", desk.loop(), loop);
        for (int k = 0; k + 1 < stem + loop; k++) {
            Due.due(line + " leads on from " + k, desk.leads(desk.step(k), desk.step(k + 1)), true);
        }
        Due.due(line + " leads round", desk.leads(desk.step(stem + loop - 1), desk.step(stem)), true);
    }

    private static void formulaIsSoOnItsLetters() {
        Due.sentence("Its letters, the loop again and again, are a word on which the formula is so");
        for (String line : new String[] {"1", "a&!b", "XXXXXa", "Fa", "Ga", "aU(b&!a)", "aRb&F!b", "GFa&GFb&Fc", "!(GFa>FGa)", "FaUbRXXb",
            "G(XXXXb|b)", "G(a>Xb)&GF(a&c)"}) {
            LassoDesk desk = Due.deskOf(line);
            Due.due("adopt() of " + line, desk.adopt(), true);
            Due.due(line + " on its word", desk.holds(0), true);
        }
    }

    // ---- Promises 10 to 13

    private static void canOrNot() {
        Due.sentence("can: Whether there is a walk");
        Due.due("1", Due.deskOf("1").can(), true);
        Due.due("0", Due.deskOf("0").can(), false);
        LassoDesk desk = Due.deskOf("a&!a");
        Due.due("a&!a", desk.can(), false);
        Due.typeAll(desk, "a");
        desk.formula();
        Due.due("a behind a&!a", desk.can(), true);
        Due.typeAll(desk, "F0");
        desk.formula();
        Due.due("F0 behind a", desk.can(), false);
    }

    private static void canWithoutFormula() {
        Due.sentence("can: IllegalStateException when there is no formula");
        Due.noState("can()", () -> new LassoDesk().can());
        Due.noState("can() behind a refused line", () -> refused().can());
    }

    private static void stemNone() {
        Due.sentence("stem: NONE when there is no walk");
        Due.due("0", Due.deskOf("0").stem(), -1);
        Due.due("F0", Due.deskOf("F0").stem(), LassoDesk.NONE);
        Due.due("Ga, an empty stem", Due.deskOf("Ga").stem(), 0);
        LassoDesk desk = Due.deskOf("XXa");
        Due.due("XXa", desk.stem(), 3);
        Due.typeAll(desk, "a&!a");
        desk.formula();
        Due.due("a&!a behind XXa", desk.stem(), LassoDesk.NONE);
    }

    private static void stemWithoutFormula() {
        Due.sentence("stem: IllegalStateException when there is no formula");
        Due.noState("stem()", () -> new LassoDesk().stem());
        Due.noState("stem() behind a refused line", () -> refused().stem());
    }

    private static void loopNone() {
        Due.sentence("loop: NONE when there is no walk");
        Due.due("0", Due.deskOf("0").loop(), -1);
        Due.due("F0", Due.deskOf("F0").loop(), LassoDesk.NONE);
        Due.due("Ga, the shortest loop", Due.deskOf("Ga").loop(), 1);
        LassoDesk desk = Due.deskOf("GFa");
        Due.due("GFa", desk.loop(), 2);
        Due.typeAll(desk, "a&!a");
        desk.formula();
        Due.due("a&!a behind GFa", desk.loop(), LassoDesk.NONE);
    }

    private static void loopWithoutFormula() {
        Due.sentence("loop: IllegalStateException when there is no formula");
        Due.noState("loop()", () -> new LassoDesk().loop());
        Due.noState("loop() behind a refused line", () -> refused().loop());
    }

    private static void stepFrom0() {
        Due.sentence("step: State k (from 0) of the walk, stem and loop");
        LassoDesk desk = Due.deskOf("GFa&GFb");
        Due.due("step(0), the stem", desk.step(0), 120);
        Due.due("step(1), the loop", desk.step(1), 121);
        Due.due("step(2), the loop's last", desk.step(2), 122);
    }

    private static void stepWithoutFormula() {
        Due.sentence("step: IllegalStateException when there is no formula");
        for (int k : new int[] {0, 1, -1, Integer.MIN_VALUE, Integer.MAX_VALUE}) {
            Due.noState("step(" + k + ")", () -> new LassoDesk().step(k));
            Due.noState("step(" + k + ") behind a refused line", () -> refused().step(k));
        }
    }

    private static void stepWithoutWalk() {
        Due.sentence("step: IllegalStateException when there is no walk");
        for (int k : new int[] {0, 1, -1, Integer.MIN_VALUE, Integer.MAX_VALUE}) {
            Due.noState("0 step(" + k + ")", () -> Due.deskOf("0").step(k));
            Due.noState("F0 step(" + k + ")", () -> Due.deskOf("F0").step(k));
        }
        LassoDesk desk = Due.deskOf("XXa");
        desk.step(3);
        Due.typeAll(desk, "a&!a");
        desk.formula();
        Due.noState("a&!a behind XXa step(0)", () -> desk.step(0));
    }

    private static void stepHasNotSoMany() {
        Due.sentence("step: IndexOutOfBoundsException when it has not so many");
        LassoDesk one = Due.deskOf("1");
        Due.due("step(0) of one", one.step(0), 0);
        for (int k : new int[] {1, 2, -1, Integer.MIN_VALUE, Integer.MAX_VALUE}) {
            Due.outside("step(" + k + ") of one", () -> one.step(k));
        }
        LassoDesk four = Due.deskOf("XXa");
        Due.due("step(3) of four", four.step(3), 0);
        Due.outside("step(4) of four", () -> four.step(4));
        Due.outside("step(-1) of four", () -> four.step(-1));
        LassoDesk thirteen = Due.deskOf("cR(XX(X(Xc))>c)");
        thirteen.step(12);
        Due.outside("step(13) of thirteen", () -> thirteen.step(13));
        Due.typeAll(thirteen, "a");
        thirteen.formula();
        Due.outside("step(2) of two, behind thirteen", () -> thirteen.step(2));
    }

    // ---- Promise 16

    private static void adoptTakesTheLetters() {
        Due.sentence("adopt: The letters of the walk become the given word: true");
        LassoDesk desk = Due.deskOf("XXa");
        Due.giveWord(desk, 8, 7, 7, 7, 7, 7, 7, 7, 7, 7, 7, 7, 7, 7, 7, 7, 7);
        Due.due("adopt()", desk.adopt(), true);
        Due.wordIs(desk, 3, 0, 0, 1, 0);
        desk.shape(8, 8);
        Due.wordIs(desk, 8, 0, 0, 1, 0, 0, 0, 0, 0, 0, 0, 0, 0, 0, 0, 0, 0);
        LassoDesk shortest = Due.deskOf("G(a&c)");
        Due.due("adopt() of a loop alone", shortest.adopt(), true);
        Due.wordIs(shortest, 0, 5);
        LassoDesk longer = Due.deskOf("GFa");
        Due.due("adopt() behind one letter", longer.adopt(), true);
        Due.wordIs(longer, 0, 0, 1);
        Due.due("adopt() again", longer.adopt(), true);
        Due.wordIs(longer, 0, 0, 1);
    }

    private static void adoptWithoutWalk() {
        Due.sentence("adopt: false when there is no walk");
        Due.due("0", Due.deskOf("0").adopt(), false);
        Due.due("F0", Due.deskOf("F0").adopt(), false);
        LassoDesk desk = Due.deskOf("a");
        Due.due("a", desk.adopt(), true);
        Due.typeAll(desk, "a&!a");
        desk.formula();
        Due.due("a&!a behind a", desk.adopt(), false);
        Due.wordIs(desk, 1, 1, 0);
    }

    private static void adoptStemTooLong() {
        Due.sentence("adopt: false when its stem is too long");
        adopted("FcUcRXc", 7, 1, true);
        adopted("FaUbRXXb", 8, 1, true);
        adopted("bUX(Xc)R(!(aUc))", 8, 6, true);
        adopted("FcUXXcRc", 9, 1, false);
        adopted("X(XXX(aUc)>c)", 9, 2, false);
        adopted("FcUcRXXc", 10, 1, false);
    }

    private static void adoptLoopTooLong() {
        Due.sentence("adopt: false when its loop is too long");
        adopted("GF(XXXb|b)", 0, 7, true);
        adopted("G(XXXXb|b)", 0, 8, true);
        adopted("(XXb)R!(aU(cUb))", 3, 8, true);
        adopted("G(XXc>c|bUaR!c)", 0, 9, false);
        adopted("X(!Xb)R(!(cUaRb))", 4, 9, false);
        adopted("!F!(F(aRb)UbRa)", 0, 10, false);
    }

    private static void adopted(String line, int stem, int loop, boolean fits) {
        LassoDesk desk = Due.deskOf(line);
        Due.due(line + " stem", desk.stem(), stem);
        Due.due(line + " loop", desk.loop(), loop);
        Due.due("adopt() of " + line, desk.adopt(), fits);
        if (fits) {
            int[] letters = new int[stem + loop];
            for (int k = 0; k < letters.length; k++) {
                letters[k] = desk.step(k) & 7;
            }
            Due.wordIs(desk, stem, letters);
            Due.due(line + " on its word", desk.holds(0), true);
        } else {
            Due.wordIs(desk, 0, 0);
        }
    }

    private static void adoptFalseChangesNothing() {
        Due.sentence("adopt: false, changing nothing");
        for (String line : new String[] {"0", "F0", "FcUXXcRc", "G(XXc>c|bUaR!c)"}) {
            LassoDesk desk = Due.deskOf(line);
            LassoDesk twin = Due.deskOf(line);
            Due.giveWord(desk, 1, 3, 0, 5);
            Due.giveWord(twin, 1, 3, 0, 5);
            Due.due("adopt() of " + line, desk.adopt(), false);
            Due.sameAnswers(desk, twin);
            Due.wordIs(desk, 1, 3, 0, 5);
            Due.lineIsEmpty(desk);
        }
    }

    private static void adoptWithoutFormula() {
        Due.sentence("adopt: IllegalStateException when there is no formula");
        LassoDesk desk = new LassoDesk();
        Due.giveWord(desk, 1, 3, 0, 5);
        Due.noState("adopt()", desk::adopt);
        Due.wordIs(desk, 1, 3, 0, 5);
        Due.noState("adopt() behind a refused line", () -> refused().adopt());
    }

    /** Whichever call comes first behind formula(), its answer is the same. */
    private static void firstCallBehindFormula() {
        Due.sentence("the walk of XXa, asked for at once");
        Due.due("lasts(31)", Due.deskOf("XXa").lasts(31), true);
        Due.due("lasting()", Due.deskOf("XXa").lasting(), 32);
        Due.due("can()", Due.deskOf("XXa").can(), true);
        Due.due("stem()", Due.deskOf("XXa").stem(), 3);
        Due.due("loop()", Due.deskOf("XXa").loop(), 1);
        Due.due("step(2)", Due.deskOf("XXa").step(2), 1);
        Due.due("adopt()", Due.deskOf("XXa").adopt(), true);
    }

    private static LassoDesk refused() {
        LassoDesk desk = new LassoDesk();
        Due.typeAll(desk, "Fa&");
        Due.illegal("formula() of Fa&", desk::formula);
        return desk;
    }
}
