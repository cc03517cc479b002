/** Compares answers with what is due, and makes vaults easier to fill. */
final class Check {
    private static int checks = 0;
    private static int wrong = 0;

    private Check() {
    }

    static void due(String what, long got, long want) {
        checks++;
        if (got != want) {
            wrong++;
            System.out.println(what + " answered " + got + ", due is " + want);
        }
    }

    static void yes(String what, boolean got) {
        due(what, got ? 1 : 0, 1);
    }

    static void no(String what, boolean got) {
        due(what, got ? 1 : 0, 0);
    }

    /** Prints what came out, and ends the program with exit code 1 if something was wrong. */
    static void end() {
        System.out.println(checks + " checks, " + wrong + " wrong");
        if (wrong != 0 || checks == 0) {
            System.exit(1);
        }
    }

    /** The lines as write takes them. */
    static long lines(int... lines) {
        long packed = 0;
        for (int k = lines.length - 1; k >= 0; k--) {
            packed = packed * 16 + lines[k];
        }
        return packed;
    }

    /** The text as text, working and staged answer it. */
    static long text(int... lines) {
        return lines.length * 4294967296L + lines(lines);
    }

    /** Writes and stages a text. */
    static void put(SnapshotVault vault, int repository, int file, int... lines) {
        yes("write", vault.write(repository, file, lines(lines), lines.length));
        yes("stage", vault.stage(repository, file));
    }

    /** Writes, stages and commits a text; answers the commit. */
    static int save(SnapshotVault vault, int repository, int file, int... lines) {
        put(vault, repository, file, lines);
        return vault.commit(repository);
    }

    /** Removes a file, stages that and commits; answers the commit. */
    static int saveRemoved(SnapshotVault vault, int repository, int file) {
        yes("remove", vault.remove(repository, file));
        yes("stage", vault.stage(repository, file));
        return vault.commit(repository);
    }
}
