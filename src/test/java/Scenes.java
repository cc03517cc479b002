/** Vaults in states that several tests start from; each call makes a new one. */
final class Scenes {
    private Scenes() {
    }

    /** Repository 0: commit 0 with file 0, branches 0, current, and 1 both there; clean. */
    static SnapshotVault oneCommit() {
        SnapshotVault vault = new SnapshotVault();
        Check.due("commit", Check.save(vault, 0, 0, 1, 2, 3), 0);
        Check.yes("branch", vault.branch(0, 1));
        return vault;
    }

    /**
     * Repository 0: commit 0 has file 0; 1 on branch 0, the current one, adds file 1; 2 on branch 1
     * adds file 2. Clean. Repository 1 has nothing.
     */
    static SnapshotVault fork() {
        SnapshotVault vault = oneCommit();
        Check.due("commit", Check.save(vault, 0, 1, 5), 1);
        Check.due("checkout", vault.checkout(0, 1), 0);
        Check.due("commit", Check.save(vault, 0, 2, 6), 2);
        Check.due("checkout", vault.checkout(0, 0), 1);
        return vault;
    }

    /** The fork, but the commits 1 and 2 change the same line of file 0. */
    static SnapshotVault clashingFork() {
        SnapshotVault vault = oneCommit();
        Check.due("commit", Check.save(vault, 0, 0, 1, 8, 3), 1);
        Check.due("checkout", vault.checkout(0, 1), 0);
        Check.due("commit", Check.save(vault, 0, 0, 1, 9, 3), 2);
        Check.due("checkout", vault.checkout(0, 0), 1);
        return vault;
    }

    /** The fork, joined by commit 3 on branch 0; branch 2 is at commit 3 too. */
    static SnapshotVault joined() {
        SnapshotVault vault = fork();
        Check.due("merge", vault.merge(0, 1), 3);
        Check.yes("branch", vault.branch(0, 2));
        return vault;
    }

    /** The joined fork, sent to repository 1 as branch 2, which has no head; both not clean. */
    static SnapshotVault busy() {
        SnapshotVault vault = joined();
        Check.due("send", vault.send(0, 2), 4);
        Check.put(vault, 0, 3, 4);
        Check.yes("write", vault.write(0, 0, 7L, 1));
        Check.put(vault, 1, 0, 9);
        Check.yes("write", vault.write(1, 3, 0L, 0));
        return vault;
    }

    /** Repository 0 has the fork; repository 1 has it as branch 1 alone, and no head. */
    static SnapshotVault sentWithoutHead() {
        SnapshotVault vault = fork();
        Check.due("send", vault.send(0, 1), 2);
        return vault;
    }

    /** Writes in repository 0 what is not staged: its working snapshot differs from the head's. */
    static SnapshotVault unstaged(SnapshotVault vault) {
        Check.yes("write", vault.write(0, 3, 4L, 1));
        return vault;
    }

    /** Stages in repository 0 what the working snapshot has no more: the index alone differs. */
    static SnapshotVault staged(SnapshotVault vault) {
        Check.put(vault, 0, 3, 4);
        Check.yes("remove", vault.remove(0, 3));
        return vault;
    }

    /** Makes commits in repository 1 until there are as many as wanted. */
    static SnapshotVault filled(SnapshotVault vault, int wanted) {
        for (int k = vault.commits(); k < wanted; k++) {
            Check.due("commit", Check.save(vault, 1, 0, k % 16, k / 16), k);
        }
        return vault;
    }

    static SnapshotVault full(SnapshotVault vault) {
        return filled(vault, 40);
    }
}
