/** How texts and snapshots are matched and united, seen through merge. */
public final class UniteTest {
    private static final int[] NO_FILE = Sides.NO_FILE;

    public static void main(String[] args) {
        onePieceIsChanged();
        bothChangeOnePiece();
        linesAreAddedAndRemoved();
        firmLinesNeedBothMatchings();
        tiesLetTheFirstTextGoOn();
        longestSubsequenceDecides();
        unitedTextHasAtMostEightLines();
        wholeFilesComeFirst();
        nothingIsNotAText();
        Check.end();
    }

    private static void onePieceIsChanged() {
        united(row(1, 2, 3), row(9, 2, 3), row(1, 2, 8), row(9, 2, 8));
        united(row(1, 2, 3, 4, 5), row(1, 7, 3, 4, 5), row(1, 2, 3, 8, 5), row(1, 7, 3, 8, 5));
        united(row(1, 2, 3, 4, 5), row(1, 7, 7, 3, 4, 5), row(1, 2, 3, 5), row(1, 7, 7, 3, 5));
        united(row(0, 0), row(0, 0, 1), row(2, 0, 0), row(2, 0, 0, 1));
        united(row(1, 2, 3, 4, 5, 6, 7, 8), row(9, 2, 3, 4, 5, 6, 7, 8),
                row(1, 2, 3, 4, 5, 6, 7, 15), row(9, 2, 3, 4, 5, 6, 7, 15));
    }

    private static void bothChangeOnePiece() {
        united(row(1, 2, 3), row(9, 2, 3), row(9, 2, 8), row(9, 2, 8));
        united(row(1, 2, 3), row(1, 2, 9), row(7, 2, 9), row(7, 2, 9));
        united(row(1, 2, 3), row(2, 9), row(2, 3), row(2, 9));
        clash(row(1, 2, 3), row(9, 2, 3), row(8, 2, 3));
        clash(row(1, 2, 3), row(1, 9, 3), row(1, 8, 3));
        clash(row(1, 2, 3), row(1, 2, 9), row(1, 2, 8));
        clash(row(1, 2, 3), row(1, 3), row(1, 8, 3));
        clash(row(1, 2, 3), row(9, 2, 3, 4), row(8, 2, 3));
        clash(row(1, 2, 3), row(9, 9, 2, 3), row(9, 2, 3));
    }

    private static void linesAreAddedAndRemoved() {
        united(row(1, 2), row(5, 1, 2), row(1, 2, 6), row(5, 1, 2, 6));
        united(row(1, 2), row(1, 5, 2), row(1, 2, 6), row(1, 5, 2, 6));
        united(row(1, 2), row(1, 5, 2), row(7, 1, 5, 2), row(7, 1, 5, 2));
        united(row(1, 2, 3, 4), row(2, 3, 4), row(1, 2, 3), row(2, 3));
        united(row(1, 2, 3), row(2), row(1, 2), row(2));
        united(row(1, 2, 3), row(), row(1, 2, 3), row());
        clash(row(1, 2), row(1, 5, 2), row(1, 6, 2));
        clash(row(1, 2), row(1, 2, 5), row(1, 2, 5, 6));
        clash(row(1, 2), row(), row(1, 3));
        clash(row(), row(1), row(2));
        united(row(), row(1), row(1), row(1));
    }

    private static void firmLinesNeedBothMatchings() {
        // Neighbours that are changed on the two sides have no firm line between them.
        clash(row(1, 2), row(9, 2), row(1, 8));
        clash(row(1, 2, 3), row(9, 9, 3), row(1, 8, 8));
        united(row(1, 2, 3), row(9, 2, 3), row(1, 2, 8), row(9, 2, 8));
        clash(row(1, 2, 3), row(2, 3), row(1, 3));
    }

    private static void tiesLetTheFirstTextGoOn() {
        // Of 1, 2 it is the 2 that is matched in 2, 1, as the original goes on first.
        united(row(1, 2), row(2, 1), row(2), row(2, 1));
        united(row(1, 2), row(2), row(2, 1), row(2, 1));
        clash(row(1, 2), row(2, 1), row(1));
        clash(row(1, 2), row(1), row(2, 1));
    }

    private static void longestSubsequenceDecides() {
        // 2, 3 are matched and 1 is not, although 1 could be matched first.
        clash(row(1, 2, 3), row(2, 3, 1), row(4, 2, 3));
        united(row(1, 2, 3), row(2, 3, 1), row(1, 2, 4, 3), row(2, 4, 3, 1));
        // 1, 2 are matched and 3 is not.
        united(row(1, 2, 3), row(3, 1, 2), row(1, 4, 2, 3), row(3, 1, 4, 2));
    }

    private static void unitedTextHasAtMostEightLines() {
        united(row(1, 2), row(3, 4, 5, 1, 2), row(1, 2, 6, 7, 8), row(3, 4, 5, 1, 2, 6, 7, 8));
        clash(row(1, 2), row(3, 4, 5, 1, 2), row(1, 2, 6, 7, 8, 9));
        clash(row(1, 2, 3), row(4, 5, 6, 7, 8, 1, 2, 3), row(1, 9, 2, 3));
        united(row(1, 2, 3, 4, 5, 6, 7), row(0, 1, 2, 3, 4, 5, 6, 7), row(1, 2, 3, 4, 5, 6),
                row(0, 1, 2, 3, 4, 5, 6));
        clash(row(1, 2, 3, 4, 5, 6, 7), row(0, 1, 2, 3, 4, 5, 6, 7), row(1, 2, 3, 4, 5, 6, 7, 8));
    }

    private static void wholeFilesComeFirst() {
        united(row(1, 2), row(1, 2), row(8, 9), row(8, 9));
        united(row(1, 2), row(8, 9), row(1, 2), row(8, 9));
        united(row(1, 2), row(8, 9), row(8, 9), row(8, 9));
        united(row(1, 2), row(1, 2), row(1, 2), row(1, 2));
    }

    private static void nothingIsNotAText() {
        united(NO_FILE, row(1), NO_FILE, row(1));
        united(NO_FILE, NO_FILE, row(1), row(1));
        united(NO_FILE, row(1), row(1), row(1));
        clash(NO_FILE, row(1), row(2));
        clash(NO_FILE, row(), row(1));
        united(NO_FILE, row(), NO_FILE, row());
        united(row(1), NO_FILE, row(1), NO_FILE);
        united(row(1), row(1), NO_FILE, NO_FILE);
        united(row(1), NO_FILE, NO_FILE, NO_FILE);
        clash(row(1), NO_FILE, row(2));
        clash(row(1), row(2), NO_FILE);
        clash(row(1), NO_FILE, row());
        clash(row(), NO_FILE, row(1));
        united(row(), row(), NO_FILE, NO_FILE);
    }

    private static int[] row(int... lines) {
        return lines;
    }

    private static void united(int[] origin, int[] first, int[] second, int[] want) {
        Sides.united(origin, first, second, want);
    }

    private static void clash(int[] origin, int[] first, int[] second) {
        Sides.clash(origin, first, second);
    }
}
