/** Promise 10: pick. */
public final class PickTest {
    public static void main(String[] args) {
        pickDoesAgainWhatACommitDid();
        pickUnitesLines();
        pickOfARoot();
        pickOfARemoval();
        pickOfWhatIsThere();
        pickOfAMerge();
        pickNeedsAHeldCommitAndAHead();
        pickNeedsACleanRepository();
        pickClashes();
        pickWhenFull();
        Check.end();
    }

    private static void pickDoesAgainWhatACommitDid() {
        SnapshotVault vault = forked();
        Check.due("pick", vault.pick(0, 2), 4);
        Check.due("parent", vault.parent(4, 0), 3);
        Check.due("second parent", vault.parent(4, 1), SnapshotVault.NONE);
        Check.due("file 0", vault.text(4, 0), Check.text(1, 2, 3));
        Check.due("file 1 is not picked", vault.text(4, 1), SnapshotVault.NONE);
        Check.due("file 2", vault.text(4, 2), Check.text(6));
        Check.due("file 3", vault.text(4, 3), Check.text(7));
        Check.due("tip", vault.tip(0, 1), 4);
        Check.due("the other tip", vault.tip(0, 0), 2);
        Check.yes("held", vault.holds(0, 4));
        Check.no("held by the other one", vault.holds(1, 4));
        Check.due("working", vault.working(0, 2), Check.text(6));
        Check.due("staged", vault.staged(0, 2), Check.text(6));
        Check.due("pick again", vault.pick(0, 2), SnapshotVault.NOTHING);
        Check.due("pick of the first", vault.pick(0, 1), 5);
        Check.due("file 1", vault.text(5, 1), Check.text(5));
        Check.due("commits", vault.commits(), 6);
    }

    private static void pickUnitesLines() {
        SnapshotVault vault = new SnapshotVault();
        Check.due("commit", Check.save(vault, 0, 0, 1, 2, 3), 0);
        Check.yes("branch", vault.branch(0, 1));
        Check.due("commit", Check.save(vault, 0, 0, 9, 2, 3), 1);
        Check.due("commit", Check.save(vault, 0, 0, 9, 2, 8), 2);
        Check.due("checkout", vault.checkout(0, 1), 0);
        Check.due("pick", vault.pick(0, 2), 3);
        Check.due("the last line alone", vault.text(3, 0), Check.text(1, 2, 8));
    }

    private static void pickOfARoot() {
        SnapshotVault vault = new SnapshotVault();
        Check.due("commit", Check.save(vault, 0, 0, 1), 0);
        Check.due("pick of the head", vault.pick(0, 0), SnapshotVault.NOTHING);
        Check.due("commit", Check.saveRemoved(vault, 0, 0), 1);
        Check.due("pick of a root", vault.pick(0, 0), 2);
        Check.due("file 0", vault.text(2, 0), Check.text(1));
        Check.due("parent", vault.parent(2, 0), 1);
        Check.due("commit", Check.save(vault, 0, 0, 2), 3);
        Check.due("the root added another text", vault.pick(0, 0), SnapshotVault.CLASH);
        Check.due("pick of a held commit that is reached", vault.pick(0, 2), SnapshotVault.CLASH);
    }

    private static void pickOfARemoval() {
        SnapshotVault vault = new SnapshotVault();
        Check.put(vault, 0, 0, 1);
        Check.due("commit", Check.save(vault, 0, 1, 2), 0);
        Check.yes("branch", vault.branch(0, 1));
        Check.due("commit", Check.saveRemoved(vault, 0, 0), 1);
        Check.due("checkout", vault.checkout(0, 1), 0);
        Check.due("commit", Check.save(vault, 0, 1, 3), 2);
        Check.due("pick of a removal", vault.pick(0, 1), 3);
        Check.due("removed", vault.text(3, 0), SnapshotVault.NONE);
        Check.due("kept", vault.text(3, 1), Check.text(3));
        Check.due("working", vault.working(0, 0), SnapshotVault.NONE);
    }

    private static void pickOfWhatIsThere() {
        SnapshotVault vault = forked();
        String before = Check.state(vault);
        Check.due("pick of the head", vault.pick(0, 3), SnapshotVault.NOTHING);
        Check.due("pick of the root", vault.pick(0, 0), SnapshotVault.NOTHING);
        Check.same("after NOTHING", Check.state(vault), before);
    }

    private static void pickOfAMerge() {
        SnapshotVault vault = forked();
        Check.due("merge", vault.merge(0, 0), 4);
        Check.yes("branch", vault.branch(0, 2));
        Check.due("checkout", vault.checkout(0, 0), 2);
        Check.due("pick of two parents", vault.pick(0, 4), SnapshotVault.NOTHING);
        Check.due("commit", Check.save(vault, 0, 3, 8), 5);
        Check.due("NOTHING before CLASH", vault.pick(0, 4), SnapshotVault.NOTHING);
        Check.due("commits", vault.commits(), 6);
        Check.due("tip", vault.tip(0, 0), 5);
    }

    private static void pickNeedsAHeldCommitAndAHead() {
        SnapshotVault vault = forked();
        Check.due("a commit in 1", Check.save(vault, 1, 0, 1), 4);
        String before = Check.state(vault);
        for (int wrong : new int[] {-1, 2, Integer.MIN_VALUE, Integer.MAX_VALUE}) {
            Check.due("pick in " + wrong, vault.pick(wrong, 2), SnapshotVault.BAD);
        }
        for (int wrong : new int[] {-1, -2, -60, 5, 39, 40, 64, 66, Integer.MIN_VALUE,
            Integer.MIN_VALUE + 2, Integer.MAX_VALUE}) {
            Check.due("pick of " + wrong, vault.pick(0, wrong), SnapshotVault.NONE);
        }
        Check.due("not held in 0", vault.pick(0, 4), SnapshotVault.NONE);
        Check.due("not held in 1", vault.pick(1, 2), SnapshotVault.NONE);
        Check.same("after NONE", Check.state(vault), before);

        SnapshotVault other = forked();
        Check.due("send", other.send(0, 1), 2);
        Check.yes("held", other.holds(1, 3));
        Check.due("no head", other.pick(1, 3), SnapshotVault.NONE);
        Check.yes("write", other.write(1, 0, 1L, 1));
        Check.due("NONE before DIRTY", other.pick(1, 3), SnapshotVault.NONE);
    }

    private static void pickNeedsACleanRepository() {
        SnapshotVault vault = forked();
        Check.due("merge", vault.merge(0, 0), 4);
        Check.yes("write", vault.write(0, 3, 9L, 1));
        String before = Check.state(vault);
        Check.due("working differs", vault.pick(0, 2), SnapshotVault.DIRTY);
        Check.due("DIRTY before NOTHING", vault.pick(0, 4), SnapshotVault.DIRTY);
        Check.due("NONE before DIRTY", vault.pick(0, 5), SnapshotVault.NONE);
        Check.same("after DIRTY", Check.state(vault), before);
        Check.yes("stage", vault.stage(0, 3));
        Check.yes("write", vault.write(0, 3, 7L, 1));
        Check.due("the index differs", vault.pick(0, 2), SnapshotVault.DIRTY);
    }

    private static void pickClashes() {
        SnapshotVault vault = forked();
        Check.due("commit", Check.save(vault, 0, 2, 1), 4);
        String before = Check.state(vault);
        Check.due("pick", vault.pick(0, 2), SnapshotVault.CLASH);
        Check.same("after CLASH", Check.state(vault), before);
    }

    private static void pickWhenFull() {
        SnapshotVault vault = forked();
        for (int k = 4; k < 40; k++) {
            Check.due("commit", Check.save(vault, 0, 1, k % 16, k / 16), k);
        }
        Check.due("pick when full", vault.pick(0, 2), SnapshotVault.FULL);
        Check.due("CLASH before FULL", vault.pick(0, 1), SnapshotVault.CLASH);
        Check.due("NOTHING before FULL", vault.pick(0, 3), SnapshotVault.NOTHING);
        Check.due("commits", vault.commits(), 40);
        Check.due("tip", vault.tip(0, 1), 39);
        Check.due("file 2", vault.working(0, 2), SnapshotVault.NONE);
    }

    /** Commit 0; 1 and 2 on branch 0 add the files 1 and 2; 3 on branch 1, current, file 3. */
    private static SnapshotVault forked() {
        SnapshotVault vault = new SnapshotVault();
        Check.due("commit", Check.save(vault, 0, 0, 1, 2, 3), 0);
        Check.yes("branch", vault.branch(0, 1));
        Check.due("commit", Check.save(vault, 0, 1, 5), 1);
        Check.due("commit", Check.save(vault, 0, 2, 6), 2);
        Check.due("checkout", vault.checkout(0, 1), 0);
        Check.due("commit", Check.save(vault, 0, 3, 7), 3);
        return vault;
    }
}
