import java.util.Arrays;

/** Unites texts by a merge of two branches that come from one commit. */
final class Sides {
    /** Nothing, where a text could be. */
    static final int[] NO_FILE = null;

    private Sides() {
    }

    static int[] row(int... lines) {
        return lines;
    }

    static void united(int[] origin, int[] first, int[] second, int[] want) {
        for (int file = 0; file < 3; file++) {
            SnapshotVault vault = twoSides(file, origin, first, second);
            Check.due("merge " + told(origin, first, second), vault.merge(0, 1), 3);
            long text = want == NO_FILE ? SnapshotVault.NONE : Check.text(want);
            Check.due("united " + told(origin, first, second), vault.text(3, file), text);
            Check.due("working", vault.working(0, file), text);
            Check.due("staged", vault.staged(0, file), text);
        }
    }

    static void clash(int[] origin, int[] first, int[] second) {
        for (int file = 0; file < 3; file++) {
            int each = file;
            Check.refused("merge " + told(origin, first, second),
                    () -> twoSides(each, origin, first, second), x -> x.merge(0, 1),
                    SnapshotVault.CLASH);
        }
    }

    /** Commit 0 has the original, 1 on branch 0 the first text, 2 on branch 1 the second one. */
    private static SnapshotVault twoSides(int file, int[] origin, int[] first, int[] second) {
        SnapshotVault vault = new SnapshotVault();
        set(vault, file, origin);
        // File 3 changes on both sides apart, so that there is always something to commit.
        Check.due("commit", Check.save(vault, 0, 3, 1, 2, 3), 0);
        Check.yes("branch", vault.branch(0, 1));
        set(vault, file, first);
        Check.due("commit", Check.save(vault, 0, 3, 1, 2, 4), 1);
        Check.due("checkout", vault.checkout(0, 1), 0);
        set(vault, file, second);
        Check.due("commit", Check.save(vault, 0, 3, 5, 2, 3), 2);
        Check.due("checkout", vault.checkout(0, 0), 1);
        return vault;
    }

    private static void set(SnapshotVault vault, int file, int[] lines) {
        if (lines == NO_FILE) {
            Check.yes("remove", vault.remove(0, file));
            Check.yes("stage", vault.stage(0, file));
        } else {
            Check.put(vault, 0, file, lines);
        }
    }

    private static String told(int[] origin, int[] first, int[] second) {
        return Arrays.toString(first) + " and " + Arrays.toString(second) + " from "
                + Arrays.toString(origin);
    }
}
