/** Promise 9: merge. */
public final class MergeTest {
    public static void main(String[] args) {
        mergeMakesACommit();
        mergeMovesForward();
        mergeOfWhatIsReached();
        mergeEvenWhenNothingDiffersFromTheHead();
        mergeRefusesWrongNumbers();
        mergeNeedsBranchAndHead();
        mergeNeedsACleanRepository();
        mergeWithoutABase();
        mergeTakesTheLowestBase();
        clashInAnyFile();
        mergeWhenFull();
        Check.end();
    }

    private static void mergeMakesACommit() {
        SnapshotVault vault = forked();
        Check.due("merge", vault.merge(0, 1), 3);
        Check.due("first parent", vault.parent(3, 0), 1);
        Check.due("second parent", vault.parent(3, 1), 2);
        Check.due("tip", vault.tip(0, 0), 3);
        Check.due("the other tip", vault.tip(0, 1), 2);
        Check.due("current", vault.current(0), 0);
        Check.yes("held", vault.holds(0, 3));
        Check.no("held by the other one", vault.holds(1, 3));
        Check.due("file 0", vault.text(3, 0), Check.text(1));
        Check.due("file 1", vault.text(3, 1), Check.text(2));
        Check.due("file 2", vault.text(3, 2), Check.text(3));
        Check.due("working", vault.working(0, 2), Check.text(3));
        Check.due("staged", vault.staged(0, 2), Check.text(3));
        Check.due("commits", vault.commits(), 4);
        Check.due("clean after it", vault.checkout(0, 1), 2);
    }

    private static void mergeMovesForward() {
        SnapshotVault vault = new SnapshotVault();
        Check.due("commit", Check.save(vault, 0, 0, 1), 0);
        Check.yes("branch", vault.branch(0, 3));
        Check.due("commit", Check.save(vault, 0, 0, 2), 1);
        Check.due("commit", Check.save(vault, 0, 1, 3), 2);
        Check.due("checkout", vault.checkout(0, 3), 0);
        Check.due("merge", vault.merge(0, 0), 2);
        Check.due("tip", vault.tip(0, 3), 2);
        Check.due("current", vault.current(0), 3);
        Check.due("working", vault.working(0, 0), Check.text(2));
        Check.due("staged", vault.staged(0, 1), Check.text(3));
        Check.due("no new commit", vault.commits(), 3);
    }

    private static void mergeOfWhatIsReached() {
        SnapshotVault vault = forked();
        Check.due("merge of itself", vault.merge(0, 0), SnapshotVault.NOTHING);
        Check.due("merge", vault.merge(0, 1), 3);
        Check.due("merge again", vault.merge(0, 1), SnapshotVault.NOTHING);
        Check.yes("branch", vault.branch(0, 2));
        Check.due("merge of the same tip", vault.merge(0, 2), SnapshotVault.NOTHING);
        Check.due("commits", vault.commits(), 4);
        Check.due("tip", vault.tip(0, 0), 3);
    }

    private static void mergeEvenWhenNothingDiffersFromTheHead() {
        SnapshotVault vault = new SnapshotVault();
        Check.due("commit", Check.save(vault, 0, 0, 1), 0);
        Check.yes("branch", vault.branch(0, 1));
        Check.due("commit", Check.save(vault, 0, 0, 2), 1);
        Check.due("checkout", vault.checkout(0, 1), 0);
        Check.due("commit", Check.save(vault, 0, 0, 2), 2);
        Check.due("merge of the same snapshot", vault.merge(0, 0), 3);
        Check.due("second parent", vault.parent(3, 1), 1);
        Check.due("file 0", vault.text(3, 0), Check.text(2));
    }

    private static void mergeRefusesWrongNumbers() {
        SnapshotVault vault = forked();
        Check.yes("write", vault.write(0, 0, 9L, 1));
        String before = Check.state(vault);
        for (int wrong : new int[] {-1, 2, Integer.MIN_VALUE, Integer.MAX_VALUE}) {
            Check.due("merge in " + wrong, vault.merge(wrong, 1), SnapshotVault.BAD);
        }
        for (int wrong : new int[] {-1, 4, Integer.MIN_VALUE, Integer.MAX_VALUE}) {
            Check.due("merge of " + wrong, vault.merge(0, wrong), SnapshotVault.BAD);
            Check.due("BAD before NONE", vault.merge(1, wrong), SnapshotVault.BAD);
        }
        Check.same("after BAD", Check.state(vault), before);
    }

    private static void mergeNeedsBranchAndHead() {
        SnapshotVault vault = forked();
        Check.due("send", vault.send(0, 1), 2);
        Check.due("no head", vault.merge(1, 1), SnapshotVault.NONE);
        Check.due("no head, itself", vault.merge(1, 0), SnapshotVault.NONE);
        Check.due("no branch", vault.merge(0, 2), SnapshotVault.NONE);
        Check.yes("write", vault.write(0, 0, 9L, 1));
        Check.yes("write", vault.write(1, 0, 9L, 1));
        Check.due("NONE before DIRTY", vault.merge(0, 3), SnapshotVault.NONE);
        Check.due("NONE before DIRTY", vault.merge(1, 1), SnapshotVault.NONE);
        Check.due("tip", vault.tip(1, 0), SnapshotVault.NONE);
        Check.due("working", vault.working(1, 0), Check.text(9));
    }

    private static void mergeNeedsACleanRepository() {
        SnapshotVault vault = forked();
        Check.yes("write", vault.write(0, 3, 9L, 1));
        String before = Check.state(vault);
        Check.due("working differs", vault.merge(0, 1), SnapshotVault.DIRTY);
        Check.due("DIRTY before NOTHING", vault.merge(0, 0), SnapshotVault.DIRTY);
        Check.same("after DIRTY", Check.state(vault), before);
        Check.yes("stage", vault.stage(0, 3));
        Check.yes("remove", vault.remove(0, 3));
        Check.due("the index differs", vault.merge(0, 1), SnapshotVault.DIRTY);
        Check.yes("stage", vault.stage(0, 3));
        Check.due("clean again", vault.merge(0, 1), 3);
    }

    private static void mergeWithoutABase() {
        SnapshotVault vault = new SnapshotVault();
        Check.put(vault, 0, 2, 7);
        Check.due("a root", Check.save(vault, 0, 0, 1), 0);
        Check.put(vault, 1, 2, 7);
        Check.due("another root", Check.save(vault, 1, 1, 2), 1);
        Check.yes("branch", vault.branch(1, 1));
        Check.due("send", vault.send(1, 1), 1);
        Check.due("base", vault.base(0, 1), SnapshotVault.NONE);
        Check.due("merge", vault.merge(0, 1), 2);
        Check.due("file 0", vault.text(2, 0), Check.text(1));
        Check.due("file 1", vault.text(2, 1), Check.text(2));
        Check.due("file 2", vault.text(2, 2), Check.text(7));
        Check.due("file 3", vault.text(2, 3), SnapshotVault.NONE);
        Check.due("commit", Check.save(vault, 1, 0, 3), 3);
        Check.yes("branch", vault.branch(1, 2));
        Check.due("commit", Check.save(vault, 1, 0, 4), 4);
        Check.due("send", vault.send(1, 2), 1);
        Check.due("base", vault.base(2, 3), 1);
        Check.due("both added file 0", vault.merge(0, 2), SnapshotVault.CLASH);
    }

    /** Commits 3 and 4 both join 1 and 2: which of these is the base decides what is reverted. */
    private static void mergeTakesTheLowestBase() {
        SnapshotVault vault = new SnapshotVault();
        Check.put(vault, 0, 0, 1);
        Check.due("commit", Check.save(vault, 0, 1, 1), 0);
        Check.yes("branch", vault.branch(0, 1));
        Check.due("commit", Check.save(vault, 0, 0, 2), 1);
        Check.yes("branch", vault.branch(0, 2));
        Check.due("checkout", vault.checkout(0, 1), 0);
        Check.due("commit", Check.save(vault, 0, 1, 2), 2);
        Check.due("checkout", vault.checkout(0, 0), 1);
        Check.due("merge", vault.merge(0, 1), 3);
        Check.due("checkout", vault.checkout(0, 1), 2);
        Check.due("merge", vault.merge(0, 2), 4);
        Check.due("base", vault.base(3, 4), 1);
        Check.due("base", vault.base(4, 3), 1);
        Check.due("revert of file 1", Check.save(vault, 0, 1, 1), 5);
        Check.due("checkout", vault.checkout(0, 0), 3);
        Check.due("revert of file 0", Check.save(vault, 0, 0, 1), 6);
        Check.due("base", vault.base(5, 6), 1);
        Check.due("merge", vault.merge(0, 1), 7);
        Check.due("file 0 is reverted", vault.text(7, 0), Check.text(1));
        Check.due("file 1 is not", vault.text(7, 1), Check.text(2));
    }

    private static void clashInAnyFile() {
        for (int file = 0; file < 4; file++) {
            SnapshotVault vault = new SnapshotVault();
            Check.due("commit", Check.save(vault, 0, 0, 1), 0);
            Check.yes("branch", vault.branch(0, 1));
            Check.put(vault, 0, (file + 1) % 4, 5);
            Check.due("commit", Check.save(vault, 0, file, 6), 1);
            Check.due("checkout", vault.checkout(0, 1), 0);
            Check.put(vault, 0, (file + 2) % 4, 5);
            Check.due("commit", Check.save(vault, 0, file, 7), 2);
            String before = Check.state(vault);
            Check.due("clash in " + file, vault.merge(0, 0), SnapshotVault.CLASH);
            Check.same("after CLASH", Check.state(vault), before);
        }
    }

    private static void mergeWhenFull() {
        SnapshotVault vault = forked();
        Check.yes("branch", vault.branch(0, 2));
        for (int k = 3; k < 40; k++) {
            Check.due("commit", Check.save(vault, 0, 3, k % 16, k / 16), k);
        }
        Check.due("merge when full", vault.merge(0, 1), SnapshotVault.FULL);
        Check.due("commits", vault.commits(), 40);
        Check.due("tip", vault.tip(0, 0), 39);
        Check.due("file 2", vault.working(0, 2), SnapshotVault.NONE);
        Check.due("NOTHING when full", vault.merge(0, 2), SnapshotVault.NOTHING);
        Check.due("checkout", vault.checkout(0, 2), 1);
        Check.due("forward when full", vault.merge(0, 0), 39);
        Check.due("tip", vault.tip(0, 2), 39);

        SnapshotVault other = forked();
        for (int k = 3; k < 40; k++) {
            Check.due("commit", Check.save(other, 0, 2, k % 16, k / 16), k);
        }
        Check.due("CLASH before FULL", other.merge(0, 1), SnapshotVault.CLASH);
    }

    /** Commit 0, and from it 1 on branch 0, the current one, and 2 on branch 1. */
    private static SnapshotVault forked() {
        SnapshotVault vault = new SnapshotVault();
        Check.due("commit", Check.save(vault, 0, 0, 1), 0);
        Check.yes("branch", vault.branch(0, 1));
        Check.due("checkout", vault.checkout(0, 1), 0);
        Check.due("checkout", vault.checkout(0, 0), 0);
        Check.due("commit", Check.save(vault, 0, 1, 2), 1);
        Check.due("checkout", vault.checkout(0, 1), 0);
        Check.due("commit", Check.save(vault, 0, 2, 3), 2);
        Check.due("checkout", vault.checkout(0, 0), 1);
        return vault;
    }
}
