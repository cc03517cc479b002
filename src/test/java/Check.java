import java.util.function.Predicate;
import java.util.function.Supplier;
import java.util.function.ToLongFunction;

/** Compares answers with what is due, and makes vaults easier to fill. */
final class Check {
    /** Numbers that are no repository; some of them come to 0 or 1 when bits are cut off. */
    static final int[] NO_REPOSITORIES = {-1, 2, 3, 256, 65537, 1 << 30, Integer.MAX_VALUE,
        Integer.MIN_VALUE, Integer.MIN_VALUE + 1};

    /** Numbers that are no branch and no file, chosen likewise. */
    static final int[] NO_BRANCHES = {-1, 4, 5, 256, 65537, 1 << 30, Integer.MAX_VALUE,
        Integer.MIN_VALUE, Integer.MIN_VALUE + 1};
    static final int[] NO_FILES = NO_BRANCHES;

    /** Numbers that no commit can have in any vault, chosen likewise. */
    static final int[] NO_COMMITS = {-1, -2, -64, 40, 41, 63, 64, 65, 256, 65537, 1 << 30,
        Integer.MAX_VALUE, Integer.MIN_VALUE, Integer.MIN_VALUE + 1};

    private static int checks = 0;
    private static int wrong = 0;
    private static String sentence = "";

    private Check() {
    }

    /** The document's words that the next checks are about; told with every wrong answer. */
    static void sentence(String words) {
        sentence = "[" + words + "] ";
    }

    static void due(String what, long got, long want) {
        checks++;
        if (got != want) {
            wrong++;
            System.out.println(sentence + what + " answered " + got + ", due is " + want);
        }
    }

    /**
     * A call that must answer want and change nothing: afterwards the vault must be as another one
     * that was made in the same way and did not get the call. Two vaults, and not one that is
     * looked at twice, because looking at 40 commits takes most of a vault's 512 calls.
     */
    static void refused(String what, Supplier<SnapshotVault> scene,
            ToLongFunction<SnapshotVault> call, long want) {
        SnapshotVault vault = scene.get();
        due(what, call.applyAsLong(vault), want);
        same("after " + what, state(vault), state(scene.get()));
    }

    /** The same for a call that answers false. */
    static void denied(String what, Supplier<SnapshotVault> scene, Predicate<SnapshotVault> call) {
        refused(what, scene, vault -> call.test(vault) ? 1 : 0, 0);
    }

    static void yes(String what, boolean got) {
        due(what, got ? 1 : 0, 1);
    }

    static void no(String what, boolean got) {
        due(what, got ? 1 : 0, 0);
    }

    /** Prints what came out, and ends the program with exit code 1 if something was wrong. */
    static void end() {
        System.out.println(checks + " checks, " + wrong + " wrong");
        if (wrong != 0 || checks == 0) {
            System.exit(1);
        }
    }

    /** The lines as write takes them. */
    static long lines(int... lines) {
        long packed = 0;
        for (int k = lines.length - 1; k >= 0; k--) {
            packed = packed * 16 + lines[k];
        }
        return packed;
    }

    /** The text as text, working and staged answer it. */
    static long text(int... lines) {
        return lines.length * 4294967296L + lines(lines);
    }

    /** Writes and stages a text. */
    static void put(SnapshotVault vault, int repository, int file, int... lines) {
        yes("write", vault.write(repository, file, lines(lines), lines.length));
        yes("stage", vault.stage(repository, file));
    }

    /** Writes, stages and commits a text; answers the commit. */
    static int save(SnapshotVault vault, int repository, int file, int... lines) {
        put(vault, repository, file, lines);
        return vault.commit(repository);
    }

    /** Removes a file, stages that and commits; answers the commit. */
    static int saveRemoved(SnapshotVault vault, int repository, int file) {
        yes("remove", vault.remove(repository, file));
        yes("stage", vault.stage(repository, file));
        return vault.commit(repository);
    }

    /** All that the face tells of a vault's state, for comparing before and after a call. */
    static String state(SnapshotVault vault) {
        StringBuilder told = new StringBuilder();
        int made = vault.commits();
        told.append("commits ").append(made);
        for (int commit = 0; commit < made; commit++) {
            told.append("; ").append(commit).append(" from ").append(vault.parent(commit, 0));
            told.append(' ').append(vault.parent(commit, 1)).append(':');
            for (int file = 0; file < 4; file++) {
                told.append(' ').append(Long.toHexString(vault.text(commit, file)));
            }
        }
        for (int repository = 0; repository < 2; repository++) {
            told.append("; repository on ").append(vault.current(repository)).append(", tips");
            for (int branch = 0; branch < 4; branch++) {
                told.append(' ').append(vault.tip(repository, branch));
            }
            told.append(", files");
            for (int file = 0; file < 4; file++) {
                told.append(' ').append(Long.toHexString(vault.working(repository, file)));
                told.append('/').append(Long.toHexString(vault.staged(repository, file)));
            }
            told.append(", holds");
            for (int commit = 0; commit < made; commit++) {
                told.append(vault.holds(repository, commit) ? " " + commit : "");
            }
        }
        return told.toString();
    }

    static void same(String what, String got, String want) {
        checks++;
        if (!got.equals(want)) {
            wrong++;
            System.out.println(sentence + what + ": the state is " + got + ", due is " + want);
        }
    }
}
