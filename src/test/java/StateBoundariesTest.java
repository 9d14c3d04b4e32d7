import java.util.function.IntPredicate;

/**
 * The sentences of the document about states that name a boundary case, in their order, each with a
 * test of its own: "Terms" from STATES to the states that LAST, and promises 4 to 9.
 */
public final class StateBoundariesTest {
    /** Lines with 0 to 5 temporal parts, at the place of their number. */
    private static final String[] BY_TEMPORALS = {"a", "Fa", "XaUb", "FGaRb", "XXXXa", "XaUFbRGc"};

    public static void main(String[] args) {
        Due.test("STATES are the numbers from 0 below 2 to the power of 3 + n", StateBoundariesTest::numbersOfStates);
        Due.test("bits 0, 1, 2 say a, b, c as letters do, bit 3 + i is the EXPECTATION of temporal part i",
            StateBoundariesTest::bitsOfStates);
        Due.test("A state LEADS TO another one (or itself)", StateBoundariesTest::leadsToItself);
        Due.test("its expectation is what is at that one: of XP what P is there, of others what that part itself is there",
            StateBoundariesTest::leadsByExpectations);
        Due.test("LEADS TO when for each temporal part: there is none", StateBoundariesTest::leadsWithoutTemporals);
        Due.test("All temporal parts but X are PROMISES", StateBoundariesTest::allButXArePromises);
        Due.test("One is OPEN: F when the part is so there; KEPT: FP when P is so there", StateBoundariesTest::openAndKeptOfF);
        Due.test("One is OPEN: U when the part is so there; KEPT: P U Q when Q is", StateBoundariesTest::openAndKeptOfU);
        Due.test("One is OPEN: G when it is not so there; KEPT: GP when P is not", StateBoundariesTest::openAndKeptOfG);
        Due.test("One is OPEN: R when it is not so there; KEPT: P R Q when Q is not", StateBoundariesTest::openAndKeptOfR);
        Due.test("The states that LAST are the largest set", StateBoundariesTest::largestSet);
        Due.test("each one leads to one of the set", StateBoundariesTest::leadsToOneOfTheSet);
        Due.test("for every promise that is open at it", StateBoundariesTest::everyPromiseThatIsOpen);
        Due.test("a state of the set at which that is kept is come to by going on within the set",
            StateBoundariesTest::withinTheSet);
        Due.test("(or is that one itself)", StateBoundariesTest::keptAtThatOneItself);
        Due.test("states: IllegalStateException when there is no formula", StateBoundariesTest::statesWithoutFormula);
        Due.test("isAt: IllegalStateException when there is no formula", StateBoundariesTest::isAtWithoutFormula);
        Due.test("isAt: IndexOutOfBoundsException when there is no such state", StateBoundariesTest::isAtNoSuchState);
        Due.test("leads: exceptions as for isAt, IllegalStateException", StateBoundariesTest::leadsWithoutFormula);
        Due.test("leads: exceptions as for isAt, for either", StateBoundariesTest::leadsNoSuchState);
        Due.test("lasts: exceptions as for isAt, IllegalStateException", StateBoundariesTest::lastsWithoutFormula);
        Due.test("lasts: exceptions as for isAt, IndexOutOfBoundsException", StateBoundariesTest::lastsNoSuchState);
        Due.test("lasting: How many states last", StateBoundariesTest::lastingFewestAndMost);
        Due.test("lasting: IllegalStateException when there is no formula", StateBoundariesTest::lastingWithoutFormula);
        Due.test("promises: How many promises there are", StateBoundariesTest::promisesNoneAndFive);
        Due.test("promises: IllegalStateException when there is no formula", StateBoundariesTest::promisesWithoutFormula);
        Due.end();
    }

    // ---- Terms

    private static void numbersOfStates() {
        for (int n = 0; n <= 5; n++) {
            LassoDesk desk = Due.deskOf(BY_TEMPORALS[n]);
            int end = 8 << n;
            Due.due("states() of " + BY_TEMPORALS[n], desk.states(), end);
            desk.isAt(0);
            desk.isAt(end - 1);
            Due.outside("isAt(-1)", () -> desk.isAt(-1));
            Due.outside("isAt(" + end + ")", () -> desk.isAt(end));
        }
    }

    private static void bitsOfStates() {
        Due.everyIsAt("a&!b&!c", s -> (s & 7) == 1);
        Due.everyIsAt("!a&b&!c", s -> (s & 7) == 2);
        Due.everyIsAt("!a&!b&c", s -> (s & 7) == 4);
        Due.everyIsAt("Xa", s -> Due.bit(s, 3));
        Due.everyIsAt("1&XXXXXa", s -> Due.bit(s, 3));
        Due.everyIsAt("!Xa&!Xb&!Xc&!X1&X0", s -> s >> 3 == 16);
    }

    private static void leadsToItself() {
        everyLeadsToItself("a", s -> true);
        everyLeadsToItself("Xa", s -> Due.bit(s, 3) == Due.bit(s, 0));
        everyLeadsToItself("Fa", s -> Due.bit(s, 3) || !Due.bit(s, 0));
        everyLeadsToItself("Ga", s -> !Due.bit(s, 3) || Due.bit(s, 0));
    }

    private static void everyLeadsToItself(String line, IntPredicate leads) {
        LassoDesk desk = Due.deskOf(line);
        int states = desk.states();
        for (int s = 0; s < states; s++) {
            Due.due(line + " leads(" + s + ", " + s + ")", desk.leads(s, s), leads.test(s));
        }
    }

    private static void leadsByExpectations() {
        for (int to = 0; to < 256; to++) {
            LassoDesk desk = Due.deskOf("XaUFbRGc");
            boolean some = Due.bit(to, 1) || Due.bit(to, 5);
            boolean always = Due.bit(to, 2) && Due.bit(to, 7);
            boolean release = always && (some || Due.bit(to, 6));
            boolean until = release || Due.bit(to, 3) && Due.bit(to, 4);
            int from = bits(Due.bit(to, 0), until, some, release, always) << 3;
            for (int letter = 0; letter < 8; letter++) {
                Due.due("leads(" + (from | letter) + ", " + to + ")", desk.leads(from | letter, to), true);
            }
            for (int i = 3; i < 8; i++) {
                Due.due("leads but for bit " + i + " to " + to, desk.leads(from ^ 1 << i, to), false);
            }
        }
    }

    private static int bits(boolean... set) {
        int all = 0;
        for (int i = 0; i < set.length; i++) {
            all |= set[i] ? 1 << i : 0;
        }
        return all;
    }

    private static void leadsWithoutTemporals() {
        LassoDesk desk = Due.deskOf("a&b>!c");
        for (int from = 0; from < 8; from++) {
            for (int to = 0; to < 8; to++) {
                Due.due("leads(" + from + ", " + to + ")", desk.leads(from, to), true);
            }
        }
    }

    private static void allButXArePromises() {
        Due.due("Xa", Due.deskOf("Xa").promises(), 0);
        Due.due("Fa", Due.deskOf("Fa").promises(), 1);
        Due.due("Ga", Due.deskOf("Ga").promises(), 1);
        Due.due("aUb", Due.deskOf("aUb").promises(), 1);
        Due.due("aRb", Due.deskOf("aRb").promises(), 1);
        Due.due("XFXGX!a", Due.deskOf("XFXGX!a").promises(), 2);
    }

    private static void openAndKeptOfF() {
        Due.everyLasts("Fa", s -> true);
        Due.everyLasts("F0", s -> !Due.bit(s, 3));
        Due.everyLasts("F1", s -> Due.bit(s, 3));
        Due.everyLasts("FFa", s -> Due.bit(s, 3) == Due.bit(s, 4));
    }

    private static void openAndKeptOfU() {
        Due.everyLasts("aUb", s -> true);
        Due.everyLasts("aU0", s -> !Due.bit(s, 3));
        Due.everyLasts("1U0", s -> !Due.bit(s, 3));
        Due.everyLasts("0U1", s -> Due.bit(s, 3));
        Due.everyLasts("1U1", s -> Due.bit(s, 3));
    }

    private static void openAndKeptOfG() {
        Due.everyLasts("Ga", s -> true);
        Due.everyLasts("G1", s -> Due.bit(s, 3));
        Due.everyLasts("G0", s -> !Due.bit(s, 3));
        Due.everyLasts("GGa", s -> Due.bit(s, 3) == Due.bit(s, 4));
    }

    private static void openAndKeptOfR() {
        Due.everyLasts("aRb", s -> true);
        Due.everyLasts("aR1", s -> Due.bit(s, 3));
        Due.everyLasts("0R1", s -> Due.bit(s, 3));
        Due.everyLasts("1R0", s -> !Due.bit(s, 3));
        Due.everyLasts("0R0", s -> !Due.bit(s, 3));
    }

    private static void largestSet() {
        Due.everyLasts("a", s -> true);
        Due.everyLasts("0", s -> true);
        Due.everyLasts("XXXXXa", s -> true);
        Due.everyLasts("Fa&Gb&aUc", s -> true);
    }

    private static void leadsToOneOfTheSet() {
        Due.everyLasts("X0", s -> !Due.bit(s, 3));
        Due.everyLasts("X1", s -> Due.bit(s, 3));
        Due.everyLasts("XX1", s -> Due.bit(s, 3) && Due.bit(s, 4));
        Due.everyLasts("XXXXX0", s -> s < 8);
        Due.everyLasts("XXXXX1", s -> s >= 248);
        Due.everyLasts("X(a&!a)", s -> !Due.bit(s, 3));
        Due.everyLasts("Xa&X!a", s -> Due.bit(s, 3) != Due.bit(s, 4));
        Due.everyLasts("X!Xa", s -> true);
        Due.everyLasts("F(a|b|c)", s -> true);
        Due.everyLasts("G(a&b&c)", s -> true);
    }

    private static void everyPromiseThatIsOpen() {
        Due.everyLasts("F0|Fa", s -> !Due.bit(s, 3));
        Due.everyLasts("Fa|F0", s -> !Due.bit(s, 4));
        Due.everyLasts("Fa&G!a", s -> Due.bit(s, 3) != Due.bit(s, 4));
        Due.everyLasts("Fa&Fa&Fa&Fa&F0", s -> s < 8 || s >> 3 == 15);
        Due.everyLasts("F0&Fa&Fa&Fa&Fa", s -> s < 8 || s >> 3 == 30);
    }

    private static void withinTheSet() {
        Due.everyLasts("FX0", s -> s < 8);
        Due.everyLasts("GX1", s -> s >= 24);
        Due.everyLasts("F(a&X!a&Xa)", s -> Due.bit(s, 4) != Due.bit(s, 5) && !Due.bit(s, 3));
        Due.everyLasts("F(a&F0)", s -> s < 8);
        Due.everyLasts("FG(a&b&c)", s -> !Due.bit(s, 4) || Due.bit(s, 3));
        Due.everyLasts("GF(a|b|c)", s -> !Due.bit(s, 3) || Due.bit(s, 4));
    }

    private static void keptAtThatOneItself() {
        Due.due("Fa at a, not expected again", Due.deskOf("Fa").lasts(1), true);
        Due.due("Ga, not at a", Due.deskOf("Ga").lasts(8), true);
        Due.due("aUb at b, not expected again", Due.deskOf("aUb").lasts(2), true);
        Due.due("aRb, not at b", Due.deskOf("aRb").lasts(8), true);
        Due.due("lasting() of Fa", Due.deskOf("Fa").lasting(), 16);
        Due.due("lasting() of aRb", Due.deskOf("aRb").lasting(), 16);
    }

    // ---- Promises 4 to 9

    private static void statesWithoutFormula() {
        Due.noState("states()", () -> new LassoDesk().states());
        Due.noState("states() behind a refused line", () -> Due.refused().states());
    }

    private static void isAtWithoutFormula() {
        for (int state : new int[] {0, 7, 8, -1, Integer.MAX_VALUE}) {
            Due.noState("isAt(" + state + ")", () -> new LassoDesk().isAt(state));
            Due.noState("isAt(" + state + ") behind a refused line", () -> Due.refused().isAt(state));
        }
    }

    private static void isAtNoSuchState() {
        for (int n = 0; n <= 5; n++) {
            LassoDesk desk = Due.deskOf(BY_TEMPORALS[n]);
            for (int state : beyond(8 << n)) {
                Due.outside(BY_TEMPORALS[n] + " isAt(" + state + ")", () -> desk.isAt(state));
            }
        }
        LassoDesk shrunk = Due.deskOf("XXXXXa");
        shrunk.isAt(255);
        Due.typeAll(shrunk, "a");
        shrunk.formula();
        Due.outside("isAt(8) of a, behind XXXXXa", () -> shrunk.isAt(8));
        Due.due("isAt(7) of a, behind XXXXXa", shrunk.isAt(7), true);
    }

    private static void leadsWithoutFormula() {
        for (int state : new int[] {0, 8, -1, Integer.MAX_VALUE}) {
            Due.noState("leads(" + state + ", 0)", () -> new LassoDesk().leads(state, 0));
            Due.noState("leads(0, " + state + ")", () -> new LassoDesk().leads(0, state));
            Due.noState("leads(0, " + state + ") behind a refused line", () -> Due.refused().leads(0, state));
        }
    }

    private static void leadsNoSuchState() {
        for (int n = 0; n <= 5; n++) {
            LassoDesk desk = Due.deskOf(BY_TEMPORALS[n]);
            int last = (8 << n) - 1;
            for (int state : beyond(8 << n)) {
                Due.outside(BY_TEMPORALS[n] + " leads(" + state + ", 0)", () -> desk.leads(state, 0));
                Due.outside(BY_TEMPORALS[n] + " leads(" + state + ", last)", () -> desk.leads(state, last));
                Due.outside(BY_TEMPORALS[n] + " leads(0, " + state + ")", () -> desk.leads(0, state));
                Due.outside(BY_TEMPORALS[n] + " leads(last, " + state + ")", () -> desk.leads(last, state));
                Due.outside(BY_TEMPORALS[n] + " leads, both " + state, () -> desk.leads(state, state));
            }
            desk.leads(last, last);
            desk.leads(last, 0);
            desk.leads(0, last);
        }
    }

    private static void lastsWithoutFormula() {
        for (int state : new int[] {0, 8, -1, Integer.MAX_VALUE}) {
            Due.noState("lasts(" + state + ")", () -> new LassoDesk().lasts(state));
            Due.noState("lasts(" + state + ") behind a refused line", () -> Due.refused().lasts(state));
        }
    }

    private static void lastsNoSuchState() {
        for (int n = 0; n <= 5; n++) {
            LassoDesk desk = Due.deskOf(BY_TEMPORALS[n]);
            for (int state : beyond(8 << n)) {
                Due.outside(BY_TEMPORALS[n] + " lasts(" + state + ")", () -> desk.lasts(state));
            }
            desk.lasts((8 << n) - 1);
        }
        LassoDesk shrunk = Due.deskOf("XXXXXa");
        Due.due("lasts(255)", shrunk.lasts(255), true);
        Due.typeAll(shrunk, "a");
        shrunk.formula();
        Due.outside("lasts(8) of a, behind XXXXXa", () -> shrunk.lasts(8));
    }

    private static void lastingFewestAndMost() {
        Due.due("0", Due.deskOf("0").lasting(), 8);
        Due.due("XXXXX0", Due.deskOf("XXXXX0").lasting(), 8);
        Due.due("FGFG1", Due.deskOf("FGFG1").lasting(), 8);
        Due.due("F0", Due.deskOf("F0").lasting(), 8);
        Due.due("Fa", Due.deskOf("Fa").lasting(), 16);
        Due.due("FFa", Due.deskOf("FFa").lasting(), 16);
        Due.due("GFa", Due.deskOf("GFa").lasting(), 24);
        Due.due("XXXXXa", Due.deskOf("XXXXXa").lasting(), 256);
        LassoDesk desk = Due.deskOf("XXXXXa");
        desk.lasting();
        Due.typeAll(desk, "F0");
        desk.formula();
        Due.due("F0 behind XXXXXa", desk.lasting(), 8);
        Due.due("F0 again", desk.lasting(), 8);
    }

    private static void lastingWithoutFormula() {
        Due.noState("lasting()", () -> new LassoDesk().lasting());
        Due.noState("lasting() behind a refused line", () -> Due.refused().lasting());
    }

    private static void promisesNoneAndFive() {
        Due.due("1", Due.deskOf("1").promises(), 0);
        Due.due("XXXXXa", Due.deskOf("XXXXXa").promises(), 0);
        Due.due("FGaUbRc>Fc", Due.deskOf("FGaUbRc>Fc").promises(), 5);
        Due.due("GGGGGa", Due.deskOf("GGGGGa").promises(), 5);
        LassoDesk desk = Due.deskOf("GGGGGa");
        Due.typeAll(desk, "Xa");
        desk.formula();
        Due.due("Xa behind GGGGGa", desk.promises(), 0);
    }

    private static void promisesWithoutFormula() {
        Due.noState("promises()", () -> new LassoDesk().promises());
        Due.noState("promises() behind a refused line", () -> Due.refused().promises());
    }

    // ---- helpers

    private static int[] beyond(int states) {
        return new int[] {-1, states, states + 1, 256, -states, Integer.MIN_VALUE, Integer.MAX_VALUE};
    }
}
