/**
 * The sentences of the document about words that name a boundary case, in their order, each with a
 * test of its own: "Terms", A WORD and THE GIVEN WORD, and promises 14, 15, 17 and 18.
 */
public final class WordBoundariesTest {
    private static final int MIN = Integer.MIN_VALUE;
    private static final int MAX = Integer.MAX_VALUE;

    public static void main(String[] args) {
        Due.test("LETTERS 0 .. 7: a letter's bits 0, 1, 2 say whether a, b, c are so at that place",
            WordBoundariesTest::lettersBits);
        Due.test("At a place 1 is so, 0 is not; !, &, |, > as usual", WordBoundariesTest::nothingAndAll);
        Due.test("XP when P is so at the next place", WordBoundariesTest::nextPlace);
        Due.test("FP when P is so there or at some later place", WordBoundariesTest::thereOrLater);
        Due.test("GP when it is there and at all later ones", WordBoundariesTest::thereAndAtAllLater);
        Due.test("P U Q when Q is so there or later", WordBoundariesTest::untilItComes);
        Due.test("and P at all places from there to before that", WordBoundariesTest::untilAllPlacesBefore);
        Due.test("P R Q when not (!P U !Q)", WordBoundariesTest::releaseIsNotUntil);
        Due.test("THE GIVEN WORD has a stem of 0 .. 8 letters and a loop of 1 .. 8 letters", WordBoundariesTest::shapesThatFit);
        Due.test("shape: IllegalArgumentException when stem is not 0 .. 8 or loop not 1 .. 8",
            WordBoundariesTest::shapesTooSmallOrTooLarge);
        Due.test("shape: an exception changes nothing", WordBoundariesTest::shapeRefusedChangesNothing);
        Due.test("shape: letters that it had stay in their places (counted from the beginning of the stem)",
            WordBoundariesTest::lettersStayInTheirPlaces);
        Due.test("shape: others are 0", WordBoundariesTest::otherLettersAre0);
        Due.test("set: A letter of the given word (counted from 0, stem and loop)", WordBoundariesTest::setFirstAndLast);
        Due.test("set: becomes the lowest three bits of this one", WordBoundariesTest::setLowestThreeBits);
        Due.test("set: what it was", WordBoundariesTest::setAnswersWhatItWas);
        Due.test("set: IndexOutOfBoundsException when there is none such", WordBoundariesTest::setNoneSuch);
        Due.test("set: an exception changes nothing", WordBoundariesTest::setRefusedChangesNothing);
        Due.test("letter: Letter k of the given word, which goes on without end", WordBoundariesTest::letterWithoutEnd);
        Due.test("letter: IndexOutOfBoundsException when k is below 0", WordBoundariesTest::letterBelow0);
        Due.test("holds: the loop goes again and again, behind its last letter comes its first",
            WordBoundariesTest::holdsRoundTheLoop);
        Due.test("holds: Whether the formula is so at place k of the given word", WordBoundariesTest::holdsWithoutEnd);
        Due.test("holds: IllegalStateException when there is no formula", WordBoundariesTest::holdsWithoutFormula);
        Due.test("holds: IndexOutOfBoundsException when k is below 0", WordBoundariesTest::holdsBelow0);
        Due.test("holds: of the given word as it is now", WordBoundariesTest::holdsOfTheWordAsItIs);
        Due.end();
    }

    // ---- A WORD

    private static void lettersBits() {
        for (int letter = 0; letter < 8; letter++) {
            so("a", Due.bit(letter, 0), 0, 0, letter);
            so("b", Due.bit(letter, 1), 0, 0, letter);
            so("c", Due.bit(letter, 2), 0, 0, letter);
            so("a", Due.bit(letter, 0), 0, 1, letter, 7 - letter);
            so("c", Due.bit(letter, 2), 1, 1, 7 - letter, letter);
        }
    }

    private static void nothingAndAll() {
        for (int letter = 0; letter < 8; letter++) {
            boolean a = Due.bit(letter, 0);
            boolean b = Due.bit(letter, 1);
            so("1", true, 0, 0, letter);
            so("0", false, 0, 0, letter);
            so("!a", !a, 0, 0, letter);
            so("a&b", a && b, 0, 0, letter);
            so("a|b", a || b, 0, 0, letter);
            so("a>b", !a || b, 0, 0, letter);
        }
    }

    private static void nextPlace() {
        so("Xa", true, 0, 1, 0, 1);
        so("Xa", false, 0, 1, 1, 0);
        so("Xa", true, 0, 0, 1);
        so("Xa", true, 1, 0, 1, 0);
        so("Xa", false, 1, 1, 1, 0);
        so("XXXXXa", true, 0, 0, 0, 1, 0, 0);
        so("XXXXXa", false, 0, 0, 0, 0, 1, 0);
    }

    private static void thereOrLater() {
        so("Fa", true, 0, 1, 1, 0);
        so("Fa", false, 1, 1, 1, 0);
        so("Fa", true, 0, 2, 0, 0, 0, 1);
        so("Fa", true, 3, 2, 0, 0, 1, 0);
        so("Fa", false, 0, 2, 6, 6, 6, 6);
        so("Fa", true, 0, 8, 0, 0, 0, 0, 0, 0, 0, 0, 0, 0, 0, 0, 0, 0, 0, 1);
        so("Fa", true, 15, 8, 0, 0, 0, 0, 0, 0, 0, 0, 1, 0, 0, 0, 0, 0, 0, 0);
        so("Fa", false, 8, 8, 1, 1, 1, 1, 1, 1, 1, 1, 0, 0, 0, 0, 0, 0, 0, 0);
    }

    private static void thereAndAtAllLater() {
        so("Ga", false, 0, 1, 0, 1);
        so("Ga", true, 1, 1, 0, 1);
        so("Ga", false, 0, 2, 1, 1, 1, 0);
        so("Ga", false, 3, 2, 1, 1, 0, 1);
        so("Ga", true, 0, 2, 1, 1, 1, 1);
        so("Ga", false, 0, 8, 1, 1, 1, 1, 1, 1, 1, 1, 1, 1, 1, 1, 1, 1, 1, 0);
        so("Ga", false, 15, 8, 1, 1, 1, 1, 1, 1, 1, 1, 0, 1, 1, 1, 1, 1, 1, 1);
        so("Ga", true, 8, 8, 0, 0, 0, 0, 0, 0, 0, 0, 1, 1, 1, 1, 1, 1, 1, 1);
    }

    private static void untilItComes() {
        so("aUb", true, 0, 0, 2);
        so("aUb", false, 0, 0, 1);
        so("aUb", false, 0, 1, 1, 1);
        so("aUb", false, 1, 1, 2, 1);
        so("aUb", true, 3, 2, 0, 0, 2, 1);
        so("aUb", true, 0, 8, 1, 1, 1, 1, 1, 1, 1, 1, 1, 1, 1, 1, 1, 1, 1, 2);
        so("aUb", true, 9, 8, 0, 0, 0, 0, 0, 0, 0, 0, 2, 1, 1, 1, 1, 1, 1, 1);
    }

    private static void untilAllPlacesBefore() {
        so("aUb", true, 0, 1, 2, 0);
        so("aUb", false, 0, 1, 0, 2);
        so("aUb", true, 0, 2, 1, 1, 2);
        so("aUb", false, 0, 2, 1, 0, 2);
        so("aUb", false, 0, 2, 0, 1, 2);
        so("aUb", false, 0, 8, 1, 1, 1, 1, 1, 1, 1, 1, 1, 1, 1, 1, 1, 1, 0, 2);
        so("aUb", false, 9, 8, 0, 0, 0, 0, 0, 0, 0, 0, 2, 1, 1, 1, 0, 1, 1, 1);
    }

    private static void releaseIsNotUntil() {
        so("aRb", true, 0, 0, 2);
        so("aRb", true, 0, 1, 3, 0);
        so("aRb", false, 0, 1, 1, 2);
        so("aRb", false, 0, 1, 2, 1);
        so("aRb", true, 0, 2, 2, 3, 0);
        so("aRb", false, 0, 2, 2, 2, 0);
        so("aRb", true, 0, 8, 2, 2, 2, 2, 2, 2, 2, 2, 2, 2, 2, 2, 2, 2, 2, 3);
        so("aRb", false, 9, 8, 0, 0, 0, 0, 0, 0, 0, 0, 1, 2, 2, 2, 2, 2, 2, 2);
        for (int letters = 0; letters < 64; letters++) {
            LassoDesk release = Due.deskOf("aRb");
            LassoDesk until = Due.deskOf("!(!aU!b)");
            for (LassoDesk desk : new LassoDesk[] {release, until}) {
                Due.giveWord(desk, 1, letters & 3, letters >> 2 & 3, letters >> 4);
            }
            for (int k = 0; k < 6; k++) {
                Due.due("aRb at place " + k + " of " + letters, release.holds(k), until.holds(k));
            }
        }
    }

    /** Whether a formula is so at a place of a word with such a stem. */
    private static void so(String line, boolean want, int place, int stem, int... letters) {
        LassoDesk desk = Due.deskOf(line);
        Due.giveWord(desk, stem, letters);
        Due.due(line + " at place " + place, desk.holds(place), want);
    }

    // ---- THE GIVEN WORD, promise 14

    private static void shapesThatFit() {
        for (int stem = 0; stem <= 8; stem++) {
            for (int loop = 1; loop <= 8; loop++) {
                LassoDesk desk = new LassoDesk();
                int[] letters = new int[stem + loop];
                for (int k = 0; k < letters.length; k++) {
                    letters[k] = (k * 3 + 1) % 8;
                }
                Due.giveWord(desk, stem, letters);
                Due.wordIs(desk, stem, letters);
            }
        }
    }

    private static void shapesTooSmallOrTooLarge() {
        for (int stem = -2; stem <= 10; stem++) {
            for (int loop = -2; loop <= 10; loop++) {
                if (stem < 0 || stem > 8 || loop < 1 || loop > 8) {
                    shapeRefused(stem, loop);
                }
            }
        }
        for (int wild : new int[] {MIN, MAX, MIN + 1, -100, 100, 16, 256, 1 << 16}) {
            shapeRefused(wild, 1);
            shapeRefused(1, wild);
            shapeRefused(wild, wild);
        }
    }

    private static void shapeRefused(int stem, int loop) {
        Due.illegal("shape(" + stem + ", " + loop + ")", () -> new LassoDesk().shape(stem, loop));
    }

    private static void shapeRefusedChangesNothing() {
        int[][] shapes = {{9, 1}, {-1, 1}, {0, 0}, {0, 9}, {0, -1}, {-1, 0}, {9, 9}, {8, 9}, {9, 8}, {MIN, 1}, {1, MAX}};
        for (int[] shape : shapes) {
            LassoDesk desk = new LassoDesk();
            Due.giveWord(desk, 1, 1, 2, 3);
            Due.illegal("shape(" + shape[0] + ", " + shape[1] + ")", () -> desk.shape(shape[0], shape[1]));
            Due.wordIs(desk, 1, 1, 2, 3);
        }
    }

    private static void lettersStayInTheirPlaces() {
        LassoDesk desk = new LassoDesk();
        Due.giveWord(desk, 2, 1, 2, 3, 4, 5);
        desk.shape(2, 3);
        Due.wordIs(desk, 2, 1, 2, 3, 4, 5);
        desk.shape(0, 5);
        Due.wordIs(desk, 0, 1, 2, 3, 4, 5);
        desk.shape(4, 1);
        Due.wordIs(desk, 4, 1, 2, 3, 4, 5);
        desk.shape(1, 3);
        Due.wordIs(desk, 1, 1, 2, 3, 4);
        desk.shape(0, 1);
        Due.wordIs(desk, 0, 1);
        LassoDesk full = new LassoDesk();
        Due.giveWord(full, 8, 1, 2, 3, 4, 5, 6, 7, 1, 2, 3, 4, 5, 6, 7, 1, 2);
        full.shape(8, 8);
        Due.wordIs(full, 8, 1, 2, 3, 4, 5, 6, 7, 1, 2, 3, 4, 5, 6, 7, 1, 2);
        full.shape(0, 8);
        Due.wordIs(full, 0, 1, 2, 3, 4, 5, 6, 7, 1);
    }

    private static void otherLettersAre0() {
        LassoDesk desk = new LassoDesk();
        desk.set(0, 7);
        desk.shape(1, 2);
        Due.wordIs(desk, 1, 7, 0, 0);
        Due.giveWord(desk, 1, 7, 6, 5);
        desk.shape(3, 2);
        Due.wordIs(desk, 3, 7, 6, 5, 0, 0);
        Due.giveWord(desk, 8, 7, 7, 7, 7, 7, 7, 7, 7, 7, 7, 7, 7, 7, 7, 7, 7);
        desk.shape(1, 1);
        desk.shape(8, 8);
        Due.wordIs(desk, 8, 7, 7, 0, 0, 0, 0, 0, 0, 0, 0, 0, 0, 0, 0, 0, 0);
    }

    // ---- Promise 15

    private static void setFirstAndLast() {
        for (int[] shape : new int[][] {{0, 1}, {0, 8}, {8, 1}, {8, 8}, {3, 2}}) {
            LassoDesk desk = new LassoDesk();
            desk.shape(shape[0], shape[1]);
            int[] letters = new int[shape[0] + shape[1]];
            desk.set(letters.length - 1, 6);
            letters[letters.length - 1] = 6;
            Due.wordIs(desk, shape[0], letters);
            desk.set(0, 3);
            letters[0] = 3;
            Due.wordIs(desk, shape[0], letters);
        }
    }

    private static void setLowestThreeBits() {
        for (int letter : new int[] {0, 7, 8, 9, 15, 16, 255, 256, -1, -2, -7, -8, -9, MIN, MIN + 5, MAX, MAX - 1}) {
            LassoDesk desk = new LassoDesk();
            desk.set(0, letter);
            Due.due("letter(0) behind set(0, " + letter + ")", desk.letter(0), letter & 7);
            Due.due("set(0, 0) behind set(0, " + letter + ")", desk.set(0, 0), letter & 7);
        }
    }

    private static void setAnswersWhatItWas() {
        LassoDesk desk = new LassoDesk();
        desk.shape(1, 1);
        Due.due("set(0, 5)", desk.set(0, 5), 0);
        Due.due("set(0, 5) again", desk.set(0, 5), 5);
        Due.due("set(0, 2)", desk.set(0, 2), 5);
        Due.due("set(1, 3)", desk.set(1, 3), 0);
        Due.due("set(1, 0)", desk.set(1, 0), 3);
        Due.due("set(0, 0)", desk.set(0, 0), 2);
    }

    private static void setNoneSuch() {
        for (int stem = 0; stem <= 8; stem++) {
            for (int loop = 1; loop <= 8; loop++) {
                LassoDesk desk = new LassoDesk();
                desk.shape(stem, loop);
                for (int k : new int[] {-1, stem + loop, stem + loop + 1, 16, 17, -16, MIN, MAX}) {
                    if (k < 0 || k >= stem + loop) {
                        Due.outside("set(" + k + ", 1) of " + stem + " and " + loop, () -> desk.set(k, 1));
                    }
                }
                desk.set(stem + loop - 1, 1);
            }
        }
        LassoDesk shrunk = new LassoDesk();
        shrunk.shape(8, 8);
        shrunk.shape(1, 1);
        Due.outside("set(2, 1) of a word that shrank", () -> shrunk.set(2, 1));
    }

    private static void setRefusedChangesNothing() {
        LassoDesk desk = new LassoDesk();
        Due.giveWord(desk, 1, 1, 2, 3);
        for (int k : new int[] {-1, 3, 4, 15, 16, MIN, MAX}) {
            Due.outside("set(" + k + ", 7)", () -> desk.set(k, 7));
            Due.wordIs(desk, 1, 1, 2, 3);
        }
        desk.shape(8, 8);
        Due.wordIs(desk, 8, 1, 2, 3, 0, 0, 0, 0, 0, 0, 0, 0, 0, 0, 0, 0, 0);
    }

    // ---- Promise 17

    private static void letterWithoutEnd() {
        for (int stem = 0; stem <= 8; stem++) {
            for (int loop = 1; loop <= 8; loop++) {
                LassoDesk desk = new LassoDesk();
                desk.shape(stem, loop);
                for (int k = 0; k < stem + loop; k++) {
                    desk.set(k, k * 5 + stem);
                }
                for (int i = 0; i < 20; i++) {
                    endlessLetter(desk, i + stem, stem, loop);
                    endlessLetter(desk, MAX - i, stem, loop);
                    endlessLetter(desk, 1_000_000_000 + i, stem, loop);
                }
            }
        }
    }

    private static void endlessLetter(LassoDesk desk, int k, int stem, int loop) {
        long place = stem + ((long) k - stem) % loop;
        Due.due("letter(" + k + ") of " + stem + " and " + loop, desk.letter(k), (int) (place * 5 + stem) & 7);
    }

    private static void letterBelow0() {
        LassoDesk desk = new LassoDesk();
        for (int[] shape : new int[][] {{0, 1}, {8, 8}, {8, 1}}) {
            desk.shape(shape[0], shape[1]);
            for (int k : new int[] {-1, -2, -8, -16, MIN, MIN + 1}) {
                Due.outside("letter(" + k + ")", () -> desk.letter(k));
            }
            desk.letter(0);
        }
    }

    // ---- Promise 18

    private static void holdsRoundTheLoop() {
        so("Xb", true, 2, 1, 0, 2, 0);
        so("Xb", false, 2, 1, 2, 0, 0);
        so("Xb", true, 2, 0, 2, 0, 0);
        so("cUb", true, 2, 1, 0, 2, 4);
        so("cUb", false, 2, 1, 2, 0, 4);
        so("GFa&GF!a", true, 0, 1, 0, 0, 1);
        so("GFa&GF!a", false, 0, 1, 1, 0, 0);
        so("FGa", true, 0, 1, 0, 1, 1);
        so("FGa", false, 0, 1, 1, 1, 0);
    }

    private static void holdsWithoutEnd() {
        for (int stem = 0; stem <= 8; stem++) {
            for (int loop = 1; loop <= 8; loop++) {
                LassoDesk now = Due.deskOf("a");
                LassoDesk next = Due.deskOf("Xa");
                for (LassoDesk desk : new LassoDesk[] {now, next}) {
                    desk.shape(stem, loop);
                    for (int k = 0; k < stem + loop; k++) {
                        desk.set(k, k % 3 == 0 ? 1 : 6);
                    }
                }
                for (int i = 0; i < 20; i++) {
                    for (int k : new int[] {i, MAX - 1 - i, 1_000_000_000 + i}) {
                        Due.due("a at " + k, now.holds(k), now.letter(k) == 1);
                        Due.due("Xa at " + k, next.holds(k), now.letter(k + 1) == 1);
                    }
                }
                Due.due("a at MAX_VALUE", now.holds(MAX), now.letter(MAX) == 1);
            }
        }
    }

    private static void holdsWithoutFormula() {
        for (int k : new int[] {0, 1, MAX, -1, MIN}) {
            Due.noState("holds(" + k + ")", () -> new LassoDesk().holds(k));
        }
        Due.noState("holds(0) behind a refused line", () -> Due.refused().holds(0));
    }

    private static void holdsBelow0() {
        for (String line : new String[] {"0", "1", "Fa", "F0"}) {
            LassoDesk desk = Due.deskOf(line);
            for (int k : new int[] {-1, -2, -8, -16, MIN, MIN + 1}) {
                Due.outside(line + " holds(" + k + ")", () -> desk.holds(k));
            }
            Due.due(line + " holds(0)", desk.holds(0), line.equals("1"));
        }
    }

    private static void holdsOfTheWordAsItIs() {
        LassoDesk desk = Due.deskOf("Fa");
        Due.due("on a new object's word", desk.holds(0), false);
        desk.set(0, 1);
        Due.due("when its letter was set", desk.holds(0), true);
        desk.shape(1, 1);
        Due.due("at the stem when it was shaped", desk.holds(0), true);
        Due.due("at the loop when it was shaped", desk.holds(1), false);
        Due.typeAll(desk, "G!a");
        desk.formula();
        Due.due("of another formula, at the stem", desk.holds(0), false);
        Due.due("of another formula, at the loop", desk.holds(1), true);
        Due.wordIs(desk, 1, 1, 0);
        Due.due("adopt()", desk.adopt(), true);
        Due.due("on the adopted word", desk.holds(0), true);
    }
}
