import java.util.Arrays;

/** The boundary cases of matching and uniting, a test for each sentence of 'Terms'. */
public final class UniteEdgeTest {
    public static void main(String[] args) {
        firstGoesOnWhenItLosesLess();
        firstGoesOnWhenBothLoseAlike();
        secondGoesOnWhenItLosesLess();
        subsequenceTakesEachLineOnce();
        subsequenceNeedsNoNeighbours();
        equalLinesAreMatchedAtOnce();
        matchingEndsWithTheOriginal();
        matchingEndsWithTheOtherText();
        matchingOfNoLines();
        lineMustBeMatchedOnBothSides();
        noLineIsFirm();
        everyLineIsFirm();
        pieceBeforeTheFirstFirmLine();
        pieceBetweenFirmLines();
        pieceBehindTheLastFirmLine();
        piecesWithoutLines();
        pieceThatBothChangeAlike();
        unitedTextOfEightLines();
        unitedTextOfNineLines();
        unitedTextOfFifteenLines();
        wholeFilesAndNothing();
        everyFileByItself();
        noFileIsUnitedLikeTheOneBefore();
        Check.end();
    }

    private static int[] row(int... lines) {
        return lines;
    }

    private static void united(int[] origin, int[] first, int[] second, int[] want) {
        Sides.united(origin, first, second, want);
        // By the document's rules the two sides may always be exchanged.
        Sides.united(origin, second, first, want);
    }

    private static void clash(int[] origin, int[] first, int[] second) {
        Sides.clash(origin, first, second);
        Sides.clash(origin, second, first);
    }

    private static void firstGoesOnWhenItLosesLess() {
        Check.sentence("when m is not below n, A goes on");
        united(row(2, 1), row(1), row(2, 1, 3), row(1, 3));
        united(row(4, 1, 2), row(1, 2), row(4, 1, 2, 3), row(1, 2, 3));
    }

    private static void firstGoesOnWhenBothLoseAlike() {
        Check.sentence("when m is not below n, A goes on");
        // The original's 1 is passed over, and its 2 is matched.
        united(row(1, 2), row(2, 1), row(2), row(2, 1));
        clash(row(1, 2), row(2, 1), row(1));
        // The original's first 1 is passed over, and its second one is matched.
        united(row(1, 1), row(1, 1, 1), row(2, 1), row(2, 1, 1));
        // Its 1, 1 are passed over for its 2, 2, which are as many.
        united(row(1, 1, 2, 2), row(2, 2, 1, 1), row(2, 3, 2), row(2, 3, 2, 1, 1));
        clash(row(1, 1, 2, 2), row(2, 2, 1, 1), row(1, 3, 1));
    }

    private static void secondGoesOnWhenItLosesLess() {
        Check.sentence("when m is not below n, A goes on, otherwise B");
        united(row(1), row(2, 1), row(1, 3), row(2, 1, 3));
        // Its 1, 1 are matched; had the original gone on, only its 2 would be.
        united(row(1, 1, 2), row(2, 1, 1), row(1, 3, 1, 2), row(2, 1, 3, 1));
    }

    private static void subsequenceTakesEachLineOnce() {
        Check.sentence("lines .. that stand in both texts in the same order");
        // 2, 3 are two lines, and 1 is one line, however often the other text has it.
        united(row(2, 3, 1, 1), row(1, 2, 3), row(2, 9, 3, 1, 1), row(1, 2, 9, 3));
        united(row(1, 2, 3), row(2, 3, 1, 1, 1), row(1, 2, 9, 3), row(2, 9, 3, 1, 1, 1));
    }

    private static void subsequenceNeedsNoNeighbours() {
        Check.sentence("A common subsequence: lines, not necessarily neighbours");
        // 1, 2, 3 stand apart in the changed text, and are more than the neighbours 4, 4.
        united(row(4, 4, 1, 2, 3), row(1, 5, 2, 5, 3, 4, 4), row(1, 2, 3),
                row(1, 5, 2, 5, 3, 4, 4));
    }

    private static void equalLinesAreMatchedAtOnce() {
        Check.sentence("when the present line of A and that of B are equal, the two are MATCHED");
        // Of two equal lines the first one is matched: the other one is added behind it.
        united(row(1), row(1, 1), row(2, 1), row(2, 1, 1));
        clash(row(1), row(1, 1), row(1, 2));
        // And of two in the original the first one is kept.
        united(row(1, 1), row(1), row(2, 1, 1), row(2, 1));
        clash(row(1, 1), row(1), row(1, 1, 2));
    }

    private static void matchingEndsWithTheOriginal() {
        Check.sentence("It ends when one of them is at its end");
        united(row(1), row(1, 2, 3), row(4, 1), row(4, 1, 2, 3));
        united(row(1), row(1, 0), row(4, 1), row(4, 1, 0));
        united(row(1, 1, 1, 1, 1, 1, 1, 2), row(2, 8), row(2), row(2, 8));
        united(row(1, 2), row(1, 2, 3, 4, 5, 6, 7, 8), row(2), row(2, 3, 4, 5, 6, 7, 8));
    }

    private static void matchingEndsWithTheOtherText() {
        Check.sentence("It ends when one of them is at its end");
        united(row(1, 2, 3), row(1), row(4, 1, 2, 3), row(4, 1));
        united(row(1, 0), row(1), row(4, 1, 0), row(4, 1));
        clash(row(1, 0), row(1), row(1, 9, 0));
        united(row(2, 8), row(1, 1, 1, 1, 1, 1, 1, 2), row(2), row(1, 1, 1, 1, 1, 1, 1, 2));
        clash(row(2, 8), row(1, 1, 1, 1, 1, 1, 1, 2), row(2, 9, 8));
        united(row(1, 2, 3, 4, 5, 6, 7), row(1), row(9, 1, 2, 3, 4, 5, 6, 7), row(9, 1));
    }

    private static void matchingOfNoLines() {
        Check.sentence("It ends when one of them is at its end");
        clash(row(), row(1), row(2));
        clash(row(), row(1), row(1, 2));
        clash(row(1, 2), row(), row(1, 2, 3));
        clash(row(1, 2, 3, 4, 5, 6, 7, 8), row(), row(1, 2, 3, 4, 5, 6, 7));
    }

    private static void lineMustBeMatchedOnBothSides() {
        Check.sentence("a line of O is FIRM when it is matched in the matching of O with A and in"
                + " that of O with B");
        clash(row(1, 2), row(9, 2), row(1, 8));
        clash(row(1, 2, 3), row(2, 3), row(1, 3));
        united(row(1, 2, 3), row(1, 2, 3, 4), row(1, 9, 3), row(1, 9, 3, 4));
    }

    private static void noLineIsFirm() {
        Check.sentence("The firm lines cut each of the three texts into pieces");
        clash(row(1), row(2), row(3));
        clash(row(1, 2, 3, 4), row(1, 2), row(3, 4));
        clash(row(1, 2, 3, 4, 5, 6, 7, 8), row(1, 2, 3, 4), row(5, 6, 7, 8));
    }

    private static void everyLineIsFirm() {
        Check.sentence("The firm lines cut each of the three texts into pieces");
        united(row(1, 2), row(3, 1, 2), row(1, 4, 2, 5), row(3, 1, 4, 2, 5));
        united(row(0, 0), row(0, 0, 1), row(2, 0, 0), row(2, 0, 0, 1));
        united(row(15), row(14, 15), row(15, 13), row(14, 15, 13));
    }

    private static void pieceBeforeTheFirstFirmLine() {
        Check.sentence("what stands before the first firm line");
        united(row(1, 2), row(9, 2), row(1, 2, 7), row(9, 2, 7));
        united(row(1, 2), row(2), row(1, 2, 7), row(2, 7));
        clash(row(1, 2), row(8, 2), row(9, 2));
        clash(row(1, 2), row(2), row(9, 2));
    }

    private static void pieceBetweenFirmLines() {
        Check.sentence("between one and the next");
        united(row(1, 2, 3), row(1, 9, 3), row(1, 2, 3, 7), row(1, 9, 3, 7));
        united(row(1, 2, 3), row(1, 3), row(1, 2, 3, 7), row(1, 3, 7));
        clash(row(1, 2, 3), row(1, 8, 3), row(1, 9, 3));
        clash(row(1, 2, 3), row(1, 3), row(1, 9, 3));
    }

    private static void pieceBehindTheLastFirmLine() {
        Check.sentence("behind the last");
        united(row(1, 2), row(1, 9), row(7, 1, 2), row(7, 1, 9));
        united(row(1, 2), row(1), row(7, 1, 2), row(7, 1));
        clash(row(1, 2), row(1, 8), row(1, 9));
        clash(row(1, 2), row(1), row(1, 9));
    }

    private static void piecesWithoutLines() {
        Check.sentence("when A's is equal to O's, it is B's that is taken");
        united(row(1, 2), row(3, 1, 2), row(1, 2, 4), row(3, 1, 2, 4));
        united(row(1, 2), row(1, 3, 2), row(1, 2, 4), row(1, 3, 2, 4));
        united(row(1, 2, 3), row(2, 3), row(1, 2), row(2));
        clash(row(1), row(2, 1), row(3, 1));
        clash(row(1, 2), row(1, 3, 2), row(1, 4, 2));
        clash(row(1), row(1, 2), row(1, 3));
    }

    private static void pieceThatBothChangeAlike() {
        Check.sentence("otherwise, when B's is equal to O's or to A's, it is A's");
        united(row(1, 2, 3), row(9, 2, 3), row(9, 2, 8), row(9, 2, 8));
        united(row(1, 2, 3), row(1, 9, 3), row(1, 9, 3, 7), row(1, 9, 3, 7));
        united(row(1, 2), row(1, 9), row(7, 1, 9), row(7, 1, 9));
        united(row(1, 2, 3), row(2, 3), row(2, 8), row(2, 8));
        united(row(1, 2), row(1, 5, 2), row(1, 5, 2, 6), row(1, 5, 2, 6));
        clash(row(1, 2, 3), row(9, 9, 2, 3), row(9, 2, 3));
        clash(row(1, 2, 3), row(9, 2, 3), row(9, 0, 2, 3));
    }

    private static void unitedTextOfEightLines() {
        Check.sentence("there is a clash too when it has more than 8 lines");
        united(row(1, 2), row(3, 4, 5, 1, 2), row(1, 2, 6, 7, 8), row(3, 4, 5, 1, 2, 6, 7, 8));
        united(row(1, 2), row(5, 5, 5, 5, 1, 2), row(1, 6, 6, 2), row(5, 5, 5, 5, 1, 6, 6, 2));
        united(row(1, 2, 3, 4, 5, 6, 7), row(0, 1, 2, 3, 4, 5, 6, 7), row(1, 2, 3, 4, 5, 6, 8),
                row(0, 1, 2, 3, 4, 5, 6, 8));
        united(row(1, 2, 3, 4, 5, 6, 7, 8), row(9, 2, 3, 4, 5, 6, 7, 8),
                row(1, 2, 3, 4, 5, 6, 7, 15), row(9, 2, 3, 4, 5, 6, 7, 15));
    }

    private static void unitedTextOfNineLines() {
        Check.sentence("there is a clash too when it has more than 8 lines");
        clash(row(1, 2), row(3, 4, 5, 1, 2), row(1, 2, 6, 7, 8, 9));
        // Here the ninth line is a firm one.
        clash(row(1, 2), row(5, 5, 5, 5, 1, 2), row(1, 6, 6, 6, 2));
        clash(row(1, 2, 3, 4, 5, 6, 7), row(0, 1, 2, 3, 4, 5, 6, 7),
                row(1, 2, 3, 4, 5, 6, 7, 8));
    }

    private static void unitedTextOfFifteenLines() {
        Check.sentence("there is a clash too when it has more than 8 lines");
        clash(row(1), row(2, 2, 2, 2, 2, 2, 2, 1), row(1, 3, 3, 3, 3, 3, 3, 3));
        clash(row(0), row(2, 2, 2, 2, 2, 2, 2, 0), row(0, 3, 3, 3, 3, 3, 3));
    }

    /** Of these none has a line that is firm, so that only equal sides can be united. */
    private static void wholeFilesAndNothing() {
        Check.sentence("when A has for it the same as O, it is what B has; otherwise, when B has"
                + " the same as O or as A, it is what A has; .. otherwise there is a clash");
        int[][] kinds = {Sides.NO_FILE, row(), row(0), row(1)};
        for (int[] origin : kinds) {
            for (int[] first : kinds) {
                for (int[] second : kinds) {
                    if (Arrays.equals(first, origin)) {
                        Sides.united(origin, first, second, second);
                    } else if (Arrays.equals(second, origin) || Arrays.equals(second, first)) {
                        Sides.united(origin, first, second, first);
                    } else {
                        Sides.clash(origin, first, second);
                    }
                }
            }
        }
    }

    private static void everyFileByItself() {
        Check.sentence("UNITING two snapshots that come from a third one goes file by file");
        SnapshotVault vault = new SnapshotVault();
        Check.put(vault, 0, 0, 1);
        Check.put(vault, 0, 1, 2);
        Check.due("commit", Check.save(vault, 0, 2, 1, 2, 3), 0);
        Check.yes("branch", vault.branch(0, 1));
        Check.put(vault, 0, 0, 7);
        Check.put(vault, 0, 3);
        Check.due("commit", Check.save(vault, 0, 2, 9, 2, 3), 1);
        Check.due("checkout", vault.checkout(0, 1), 0);
        Check.put(vault, 0, 3);
        Check.put(vault, 0, 2, 1, 2, 8);
        Check.due("commit", Check.saveRemoved(vault, 0, 1), 2);
        Check.due("checkout", vault.checkout(0, 0), 1);
        Check.due("merge", vault.merge(0, 1), 3);
        Check.due("what the head has", vault.text(3, 0), Check.text(7));
        Check.due("what the tip has", vault.text(3, 1), SnapshotVault.NONE);
        Check.due("united", vault.text(3, 2), Check.text(9, 2, 8));
        Check.due("what both have", vault.text(3, 3), 0);
    }

    /** Texts of many lengths in one merge: what one file needed must not tell in the next. */
    private static void noFileIsUnitedLikeTheOneBefore() {
        Check.sentence("UNITING two snapshots that come from a third one goes file by file");
        int[][] origin = {{1, 2, 3, 4, 5, 6, 7}, {1, 1}, {1, 2, 3}, {1}};
        int[][] first = {{0, 1, 2, 3, 4, 5, 6, 7}, {1, 1, 1}, {2, 3, 1, 1, 1}, {2, 1}};
        int[][] second = {{1, 2, 3, 4, 5, 6, 8}, {2, 1}, {1, 2, 9, 3}, {1, 3}};
        int[][] want = {{0, 1, 2, 3, 4, 5, 6, 8}, {2, 1, 1}, {2, 9, 3, 1, 1, 1}, {2, 1, 3}};
        for (int turn = 0; turn < 4; turn++) {
            SnapshotVault vault = new SnapshotVault();
            saveAll(vault, origin, turn);
            Check.yes("branch", vault.branch(0, 1));
            saveAll(vault, first, turn);
            Check.due("checkout", vault.checkout(0, 1), 0);
            saveAll(vault, second, turn);
            Check.due("merge", vault.merge(0, 0), 3);
            for (int k = 0; k < 4; k++) {
                Check.due("united", vault.text(3, (k + turn) % 4), Check.text(want[k]));
            }
        }
    }

    private static void saveAll(SnapshotVault vault, int[][] texts, int turn) {
        for (int k = 0; k < 4; k++) {
            Check.put(vault, 0, (k + turn) % 4, texts[k]);
        }
        Check.due("commit", vault.commit(0), vault.commits() - 1);
    }
}
