/** Promise 11: rebase. */
public final class RebaseTest {
    public static void main(String[] args) {
        rebaseDoesTheCommitsAgain();
        rebaseOntoWhatTheHeadReaches();
        rebaseWithoutCommits();
        rebaseOntoAnotherRoot();
        rebaseOntoTheSameRoot();
        rebaseSkipsWhatIsThere();
        rebaseSkipsMerges();
        lowestNumberComesFirst();
        rebaseRefusesWrongNumbers();
        rebaseNeedsBranchAndHead();
        rebaseNeedsACleanRepository();
        clashChangesNothing();
        clashOfTheFirstChangesNothing();
        fullChangesNothing();
        firstTroubleIsAnswered();
        rebaseWhenFull();
        Check.end();
    }

    private static void rebaseDoesTheCommitsAgain() {
        SnapshotVault vault = forked();
        Check.due("rebase", vault.rebase(0, 0), 2);
        Check.due("commits", vault.commits(), 6);
        Check.due("tip", vault.tip(0, 1), 5);
        Check.due("the other tip", vault.tip(0, 0), 1);
        Check.due("current", vault.current(0), 1);
        Check.due("parent", vault.parent(4, 0), 1);
        Check.due("second parent", vault.parent(4, 1), SnapshotVault.NONE);
        Check.due("parent", vault.parent(5, 0), 4);
        Check.due("4, file 1", vault.text(4, 1), Check.text(5));
        Check.due("4, file 2", vault.text(4, 2), Check.text(6));
        Check.due("4, file 3", vault.text(4, 3), SnapshotVault.NONE);
        Check.due("5, file 0", vault.text(5, 0), Check.text(1));
        Check.due("5, file 1", vault.text(5, 1), Check.text(5));
        Check.due("5, file 3", vault.text(5, 3), Check.text(7));
        Check.due("working", vault.working(0, 1), Check.text(5));
        Check.due("staged", vault.staged(0, 3), Check.text(7));
        for (int commit = 0; commit < 6; commit++) {
            Check.yes("holds " + commit, vault.holds(0, commit));
            Check.no("the other one holds " + commit, vault.holds(1, commit));
        }
        Check.due("clean after it", vault.checkout(0, 0), 1);
    }

    private static void rebaseOntoWhatTheHeadReaches() {
        SnapshotVault vault = new SnapshotVault();
        Check.due("commit", Check.save(vault, 0, 0, 1), 0);
        Check.yes("branch", vault.branch(0, 1));
        Check.due("commit", Check.save(vault, 0, 1, 2), 1);
        Check.due("rebase", vault.rebase(0, 1), 1);
        Check.due("tip", vault.tip(0, 0), 2);
        Check.due("parent", vault.parent(2, 0), 0);
        Check.due("file 1", vault.text(2, 1), Check.text(2));
    }

    private static void rebaseWithoutCommits() {
        SnapshotVault vault = forked();
        Check.due("onto itself", vault.rebase(0, 1), 0);
        Check.due("tip", vault.tip(0, 1), 3);
        Check.yes("branch", vault.branch(0, 2));
        Check.due("onto the same tip", vault.rebase(0, 2), 0);
        Check.due("commit", Check.save(vault, 0, 0, 2), 4);
        Check.due("checkout", vault.checkout(0, 2), 3);
        Check.due("onto a later tip", vault.rebase(0, 1), 0);
        Check.due("tip", vault.tip(0, 2), 4);
        Check.due("current", vault.current(0), 2);
        Check.due("working", vault.working(0, 0), Check.text(2));
        Check.due("staged", vault.staged(0, 0), Check.text(2));
        Check.due("commits", vault.commits(), 5);
    }

    private static void rebaseOntoAnotherRoot() {
        SnapshotVault vault = new SnapshotVault();
        Check.due("a root", Check.save(vault, 0, 0, 1), 0);
        Check.due("commit", Check.save(vault, 0, 0, 2), 1);
        Check.due("another root", Check.save(vault, 1, 1, 3), 2);
        Check.yes("branch", vault.branch(1, 1));
        Check.due("send", vault.send(1, 1), 1);
        Check.due("rebase", vault.rebase(0, 1), 2);
        Check.due("parent", vault.parent(3, 0), 2);
        Check.due("3, file 0", vault.text(3, 0), Check.text(1));
        Check.due("4, file 0", vault.text(4, 0), Check.text(2));
        Check.due("4, file 1", vault.text(4, 1), Check.text(3));
        Check.due("parent", vault.parent(4, 0), 3);
    }

    private static void rebaseOntoTheSameRoot() {
        SnapshotVault vault = new SnapshotVault();
        Check.due("a root", Check.save(vault, 0, 0, 1), 0);
        Check.yes("branch", vault.branch(0, 1));
        Check.due("a root with the same snapshot", Check.save(vault, 1, 0, 1), 1);
        Check.due("send", vault.send(0, 1), 1);
        Check.due("rebase", vault.rebase(1, 1), 0);
        Check.due("moved to commit 0", vault.tip(1, 0), 0);
        Check.due("commits", vault.commits(), 2);
    }

    private static void rebaseSkipsWhatIsThere() {
        SnapshotVault vault = forked();
        Check.due("checkout", vault.checkout(0, 0), 1);
        Check.due("pick", vault.pick(0, 2), 4);
        Check.due("checkout", vault.checkout(0, 1), 3);
        Check.due("rebase", vault.rebase(0, 0), 1);
        Check.due("parent", vault.parent(5, 0), 4);
        Check.due("file 3", vault.text(5, 3), Check.text(7));
        Check.due("commits", vault.commits(), 6);
        Check.due("checkout", vault.checkout(0, 0), 4);
        Check.due("pick", vault.pick(0, 3), 6);
        Check.due("checkout", vault.checkout(0, 1), 5);
        Check.due("all is there", vault.rebase(0, 0), 0);
        Check.due("tip", vault.tip(0, 1), 6);
        Check.due("commits", vault.commits(), 7);
    }

    private static void rebaseSkipsMerges() {
        SnapshotVault vault = forked();
        Check.yes("branch", vault.branch(0, 2));
        Check.due("checkout", vault.checkout(0, 2), 3);
        Check.due("commit", Check.save(vault, 0, 0, 1, 1), 4);
        Check.due("checkout", vault.checkout(0, 1), 3);
        Check.due("commit", Check.save(vault, 0, 2, 6, 6), 5);
        Check.due("merge", vault.merge(0, 2), 6);
        Check.due("rebase", vault.rebase(0, 0), 4);
        Check.due("tip", vault.tip(0, 1), 10);
        Check.due("2 again", vault.text(7, 2), Check.text(6));
        Check.due("3 again", vault.text(8, 3), Check.text(7));
        Check.due("4 again", vault.text(9, 0), Check.text(1, 1));
        Check.due("5 again", vault.text(10, 2), Check.text(6, 6));
        Check.due("file 0", vault.text(10, 0), Check.text(1, 1));
        for (int commit = 7; commit <= 10; commit++) {
            Check.due("parent", vault.parent(commit, 0), commit == 7 ? 1 : commit - 1);
            Check.due("second parent", vault.parent(commit, 1), SnapshotVault.NONE);
        }
    }

    /** Two sides of a merge come by number, not one side after the other. */
    private static void lowestNumberComesFirst() {
        SnapshotVault vault = new SnapshotVault();
        Check.due("commit", Check.save(vault, 0, 0, 1), 0);
        Check.yes("branch", vault.branch(0, 1));
        Check.yes("branch", vault.branch(0, 2));
        Check.due("commit", Check.save(vault, 0, 1, 1), 1);
        Check.due("checkout", vault.checkout(0, 1), 0);
        Check.due("commit", Check.save(vault, 0, 2, 2), 2);
        Check.due("checkout", vault.checkout(0, 0), 1);
        Check.due("commit", Check.save(vault, 0, 1, 3), 3);
        Check.due("checkout", vault.checkout(0, 1), 2);
        Check.due("commit", Check.save(vault, 0, 2, 4), 4);
        Check.due("merge", vault.merge(0, 0), 5);
        Check.due("rebase", vault.rebase(0, 2), 4);
        long[][] want = {{1, 0}, {1, 2}, {3, 2}, {3, 4}};
        for (int k = 0; k < 4; k++) {
            Check.due("file 1", vault.text(6 + k, 1), Check.text((int) want[k][0]));
            Check.due("file 2", vault.text(6 + k, 2),
                    want[k][1] == 0 ? SnapshotVault.NONE : Check.text((int) want[k][1]));
        }
    }

    private static void rebaseRefusesWrongNumbers() {
        SnapshotVault vault = forked();
        Check.yes("write", vault.write(0, 0, 9L, 1));
        String before = Check.state(vault);
        for (int wrong : new int[] {-1, 2, Integer.MIN_VALUE, Integer.MAX_VALUE}) {
            Check.due("rebase in " + wrong, vault.rebase(wrong, 1), SnapshotVault.BAD);
        }
        for (int wrong : new int[] {-1, 4, Integer.MIN_VALUE, Integer.MAX_VALUE}) {
            Check.due("rebase onto " + wrong, vault.rebase(0, wrong), SnapshotVault.BAD);
            Check.due("BAD before NONE", vault.rebase(1, wrong), SnapshotVault.BAD);
        }
        Check.same("after BAD", Check.state(vault), before);
    }

    private static void rebaseNeedsBranchAndHead() {
        SnapshotVault vault = forked();
        Check.due("send", vault.send(0, 1), 3);
        Check.yes("write", vault.write(0, 0, 9L, 1));
        Check.due("no branch", vault.rebase(0, 2), SnapshotVault.NONE);
        Check.due("no head", vault.rebase(1, 1), SnapshotVault.NONE);
        Check.due("no head, itself", vault.rebase(1, 0), SnapshotVault.NONE);
        Check.due("tip", vault.tip(1, 0), SnapshotVault.NONE);
    }

    private static void rebaseNeedsACleanRepository() {
        SnapshotVault vault = forked();
        Check.yes("write", vault.write(0, 0, 9L, 1));
        String before = Check.state(vault);
        Check.due("working differs", vault.rebase(0, 0), SnapshotVault.DIRTY);
        Check.due("even onto itself", vault.rebase(0, 1), SnapshotVault.DIRTY);
        Check.same("after DIRTY", Check.state(vault), before);
        Check.yes("stage", vault.stage(0, 0));
        Check.yes("write", vault.write(0, 0, 1L, 1));
        Check.due("the index differs", vault.rebase(0, 0), SnapshotVault.DIRTY);
    }

    private static void clashChangesNothing() {
        SnapshotVault vault = forked();
        Check.due("checkout", vault.checkout(0, 0), 1);
        Check.due("commit", Check.save(vault, 0, 3, 9), 4);
        Check.due("checkout", vault.checkout(0, 1), 3);
        String before = Check.state(vault);
        Check.due("the second one clashes", vault.rebase(0, 0), SnapshotVault.CLASH);
        Check.same("after CLASH", Check.state(vault), before);
        Check.no("no trace", vault.holds(0, 5));
        Check.due("the next commit", Check.save(vault, 0, 0, 2), 5);
        Check.due("its parent", vault.parent(5, 0), 3);
        Check.due("its file 1", vault.text(5, 1), SnapshotVault.NONE);
        Check.due("its file 3", vault.text(5, 3), Check.text(7));
        Check.due("base", vault.base(5, 4), 0);
    }

    private static void clashOfTheFirstChangesNothing() {
        SnapshotVault vault = forked();
        Check.due("checkout", vault.checkout(0, 0), 1);
        Check.due("commit", Check.save(vault, 0, 2, 9), 4);
        Check.due("checkout", vault.checkout(0, 1), 3);
        String before = Check.state(vault);
        Check.due("the first one clashes", vault.rebase(0, 0), SnapshotVault.CLASH);
        Check.same("after CLASH", Check.state(vault), before);
    }

    private static void fullChangesNothing() {
        SnapshotVault vault = forked();
        fill(vault, 4, 39);
        Check.due("room for one of two", vault.rebase(0, 0), SnapshotVault.FULL);
        Check.due("commits", vault.commits(), 39);
        Check.due("tip", vault.tip(0, 1), 3);
        Check.due("working", vault.working(0, 1), SnapshotVault.NONE);
        Check.due("staged", vault.staged(0, 1), SnapshotVault.NONE);
        Check.no("no trace", vault.holds(0, 39));
        Check.due("text", vault.text(39, 0), SnapshotVault.BAD);
        Check.due("the last commit", Check.save(vault, 0, 0, 2), 39);
        Check.due("its parent", vault.parent(39, 0), 3);

        SnapshotVault other = forked();
        fill(other, 4, 38);
        Check.due("room for two", other.rebase(0, 0), 2);
        Check.due("commits", other.commits(), 40);
        Check.due("tip", other.tip(0, 1), 39);
    }

    private static void firstTroubleIsAnswered() {
        SnapshotVault vault = forked();
        Check.due("checkout", vault.checkout(0, 0), 1);
        Check.due("commit", Check.save(vault, 0, 3, 9), 4);
        Check.due("checkout", vault.checkout(0, 1), 3);
        fill(vault, 5, 39);
        Check.due("one of two, then CLASH", vault.rebase(0, 0), SnapshotVault.CLASH);
        Check.due("commits", vault.commits(), 39);
        fill(vault, 39, 40);
        Check.due("FULL, then CLASH", vault.rebase(0, 0), SnapshotVault.FULL);
    }

    private static void rebaseWhenFull() {
        SnapshotVault vault = forked();
        Check.due("checkout", vault.checkout(0, 0), 1);
        Check.due("pick", vault.pick(0, 2), 4);
        Check.due("pick", vault.pick(0, 3), 5);
        Check.due("checkout", vault.checkout(0, 1), 3);
        fill(vault, 6, 40);
        Check.due("NOTHING before FULL", vault.rebase(0, 0), 0);
        Check.due("tip", vault.tip(0, 1), 5);
        Check.due("working", vault.working(0, 1), Check.text(5));
    }

    /** Makes commits in the other repository until there are as many as wanted. */
    private static void fill(SnapshotVault vault, int from, int to) {
        for (int k = from; k < to; k++) {
            Check.due("commit", Check.save(vault, 1, 0, k % 16, k / 16), k);
        }
    }

    /** Commit 0; 1 on branch 0 adds file 1; 2 and 3 on branch 1, current, the files 2 and 3. */
    private static SnapshotVault forked() {
        SnapshotVault vault = new SnapshotVault();
        Check.due("commit", Check.save(vault, 0, 0, 1), 0);
        Check.yes("branch", vault.branch(0, 1));
        Check.due("commit", Check.save(vault, 0, 1, 5), 1);
        Check.due("checkout", vault.checkout(0, 1), 0);
        Check.due("commit", Check.save(vault, 0, 2, 6), 2);
        Check.due("commit", Check.save(vault, 0, 3, 7), 3);
        return vault;
    }
}
