/** Promises 6, 7, 8, 14 and 15: branch, drop, checkout, current, tip. */
public final class BranchTest {
    private static final int[] NO_REPOSITORIES = {-1, 2, Integer.MIN_VALUE, Integer.MAX_VALUE};
    private static final int[] NO_BRANCHES = {-1, 4, Integer.MIN_VALUE, Integer.MAX_VALUE};

    public static void main(String[] args) {
        branchGetsTheHead();
        branchNeedsAHead();
        dropTakesABranchAway();
        dropLeavesTheCurrentBranch();
        checkoutMoves();
        checkoutNeedsABranch();
        checkoutNeedsACleanRepository();
        checkoutWithoutAHead();
        wrongNumbersAreRefused();
        Check.end();
    }

    private static void branchGetsTheHead() {
        SnapshotVault vault = new SnapshotVault();
        Check.due("commit", Check.save(vault, 0, 0, 1), 0);
        Check.due("commit", Check.save(vault, 0, 0, 2), 1);
        Check.yes("write", vault.write(0, 0, 9L, 1));
        Check.yes("branch, though not clean", vault.branch(0, 3));
        Check.due("its tip", vault.tip(0, 3), 1);
        Check.due("still current", vault.current(0), 0);
        Check.due("working stays", vault.working(0, 0), Check.text(9));
        Check.due("not in the other repository", vault.tip(1, 3), SnapshotVault.NONE);
        Check.no("branch again", vault.branch(0, 3));
        Check.no("branch of the current one", vault.branch(0, 0));
        Check.due("commit", Check.save(vault, 0, 0, 3), 2);
        Check.due("the branch stays", vault.tip(0, 3), 1);
        Check.due("the current one goes on", vault.tip(0, 0), 2);
        Check.no("branch that is there", vault.branch(0, 3));
        Check.due("the branch stays", vault.tip(0, 3), 1);
    }

    private static void branchNeedsAHead() {
        SnapshotVault vault = new SnapshotVault();
        Check.due("commit", Check.save(vault, 0, 0, 1), 0);
        for (int branch = 0; branch < 4; branch++) {
            Check.no("branch without a head", vault.branch(1, branch));
            Check.due("its tip", vault.tip(1, branch), SnapshotVault.NONE);
        }
    }

    private static void dropTakesABranchAway() {
        SnapshotVault vault = twoBranches();
        Check.yes("drop", vault.drop(0, 2));
        Check.due("dropped", vault.tip(0, 2), SnapshotVault.NONE);
        Check.yes("still held", vault.holds(0, 1));
        Check.no("drop again", vault.drop(0, 2));
        Check.yes("branch anew", vault.branch(0, 2));
        Check.due("its tip", vault.tip(0, 2), 0);
    }

    private static void dropLeavesTheCurrentBranch() {
        SnapshotVault vault = twoBranches();
        String before = Check.state(vault);
        Check.no("drop of the current one", vault.drop(0, 0));
        Check.no("drop of what is not there", vault.drop(0, 1));
        Check.no("drop in another repository", vault.drop(1, 2));
        Check.no("drop of a current one that is not there", vault.drop(1, 0));
        Check.same("after drops that are refused", Check.state(vault), before);
        Check.yes("write", vault.write(0, 0, 9L, 1));
        Check.yes("drop, though not clean", vault.drop(0, 2));
    }

    private static void checkoutMoves() {
        SnapshotVault vault = twoBranches();
        Check.due("checkout", vault.checkout(0, 2), 1);
        Check.due("current", vault.current(0), 2);
        Check.due("current of the other one", vault.current(1), 0);
        Check.due("working", vault.working(0, 0), Check.text(2));
        Check.due("staged", vault.staged(0, 0), Check.text(2));
        Check.due("working", vault.working(0, 1), Check.text(3));
        Check.due("staged", vault.staged(0, 1), Check.text(3));
        Check.due("checkout of the current one", vault.checkout(0, 2), 1);
        Check.due("commit", Check.save(vault, 0, 3, 4), 2);
        Check.due("its parent", vault.parent(2, 0), 1);
        Check.due("tip", vault.tip(0, 2), 2);
        Check.due("tip of the other branch", vault.tip(0, 0), 0);
        Check.due("checkout", vault.checkout(0, 0), 0);
        Check.due("working", vault.working(0, 0), Check.text(1));
        Check.due("working", vault.working(0, 1), SnapshotVault.NONE);
        Check.due("staged", vault.staged(0, 1), SnapshotVault.NONE);
        Check.due("working", vault.working(0, 3), SnapshotVault.NONE);
    }

    private static void checkoutNeedsABranch() {
        SnapshotVault vault = twoBranches();
        String before = Check.state(vault);
        Check.due("checkout", vault.checkout(0, 1), SnapshotVault.NONE);
        Check.due("checkout", vault.checkout(1, 0), SnapshotVault.NONE);
        Check.due("checkout", vault.checkout(1, 2), SnapshotVault.NONE);
        Check.same("after NONE", Check.state(vault), before);
        Check.yes("write", vault.write(0, 0, 9L, 1));
        Check.due("NONE before DIRTY", vault.checkout(0, 1), SnapshotVault.NONE);
        Check.due("BAD before DIRTY", vault.checkout(0, 4), SnapshotVault.BAD);
    }

    private static void checkoutNeedsACleanRepository() {
        SnapshotVault vault = twoBranches();
        for (int file = 0; file < 4; file++) {
            Check.yes("write", vault.write(0, file, 0L, 0));
            String before = Check.state(vault);
            Check.due("working differs", vault.checkout(0, 2), SnapshotVault.DIRTY);
            Check.same("after DIRTY", Check.state(vault), before);
            Check.yes("stage", vault.stage(0, file));
            Check.due("both differ", vault.checkout(0, 2), SnapshotVault.DIRTY);
            putBack(vault, file);
            Check.due("the index differs", vault.checkout(0, 2), SnapshotVault.DIRTY);
            Check.due("even to stay", vault.checkout(0, 0), SnapshotVault.DIRTY);
            Check.yes("stage", vault.stage(0, file));
            Check.due("clean again", vault.checkout(0, 0), 0);
        }
        Check.yes("write in the other one", vault.write(1, 0, 1L, 1));
        Check.due("the other one is not asked", vault.checkout(0, 2), 1);
    }

    private static void putBack(SnapshotVault vault, int file) {
        if (file == 0) {
            Check.yes("write", vault.write(0, 0, 1L, 1));
        } else {
            Check.yes("remove", vault.remove(0, file));
        }
    }

    private static void checkoutWithoutAHead() {
        SnapshotVault vault = twoBranches();
        Check.due("send", vault.send(0, 2), 2);
        Check.yes("write", vault.write(1, 3, 1L, 1));
        Check.due("not clean without a head", vault.checkout(1, 2), SnapshotVault.DIRTY);
        Check.yes("remove", vault.remove(1, 3));
        Check.due("clean without a head", vault.checkout(1, 2), 1);
        Check.due("current", vault.current(1), 2);
        Check.due("the branch that was left", vault.tip(1, 0), SnapshotVault.NONE);
        Check.due("working", vault.working(1, 0), Check.text(2));
        Check.due("staged", vault.staged(1, 1), Check.text(3));
    }

    private static void wrongNumbersAreRefused() {
        SnapshotVault vault = twoBranches();
        String before = Check.state(vault);
        for (int repository : NO_REPOSITORIES) {
            Check.no("branch", vault.branch(repository, 1));
            Check.no("drop", vault.drop(repository, 2));
            Check.due("checkout", vault.checkout(repository, 2), SnapshotVault.BAD);
            Check.due("current", vault.current(repository), SnapshotVault.BAD);
            Check.due("tip", vault.tip(repository, 0), SnapshotVault.BAD);
        }
        for (int branch : NO_BRANCHES) {
            Check.no("branch", vault.branch(0, branch));
            Check.no("drop", vault.drop(0, branch));
            Check.due("checkout", vault.checkout(0, branch), SnapshotVault.BAD);
            Check.due("tip", vault.tip(0, branch), SnapshotVault.BAD);
        }
        Check.same("after wrong numbers", Check.state(vault), before);
    }

    /** Branch 0, the current one, at commit 0; branch 2 at commit 1, which comes from it. */
    private static SnapshotVault twoBranches() {
        SnapshotVault vault = new SnapshotVault();
        Check.due("commit", Check.save(vault, 0, 0, 1), 0);
        Check.yes("branch", vault.branch(0, 2));
        Check.due("checkout", vault.checkout(0, 2), 0);
        Check.put(vault, 0, 1, 3);
        Check.due("commit", Check.save(vault, 0, 0, 2), 1);
        Check.due("checkout", vault.checkout(0, 0), 0);
        return vault;
    }
}
