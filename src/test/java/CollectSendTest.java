/** Promises 12, 13 and 16: collect, send, holds. */
public final class CollectSendTest {
    private static final int[] NO_REPOSITORIES = {-1, 2, Integer.MIN_VALUE, Integer.MAX_VALUE};
    private static final int[] NO_BRANCHES = {-1, 4, Integer.MIN_VALUE, Integer.MAX_VALUE};

    public static void main(String[] args) {
        collectForgetsWhatNoBranchReaches();
        collectKeepsBothParents();
        collectInOneRepositoryAlone();
        collectOfNothing();
        sendGivesAllThatTheTipReaches();
        sendGoesBothWays();
        sendAddsToWhatIsHeld();
        sendCountsWhatIsNew();
        sendRefusesWrongNumbers();
        sendNeedsTheBranch();
        sendLeavesTheCurrentBranch();
        sendLosesNoCommits();
        sendTakesUncleanRepositories();
        holdsOfWrongNumbers();
        Check.end();
    }

    private static void collectForgetsWhatNoBranchReaches() {
        SnapshotVault vault = forked();
        Check.due("nothing to forget", vault.collect(0), 0);
        Check.yes("drop", vault.drop(0, 1));
        Check.yes("held before", vault.holds(0, 2));
        Check.due("two to forget", vault.collect(0), 2);
        Check.no("forgotten", vault.holds(0, 1));
        Check.no("forgotten", vault.holds(0, 2));
        Check.yes("kept", vault.holds(0, 0));
        Check.yes("kept", vault.holds(0, 3));
        Check.due("again", vault.collect(0), 0);
        Check.due("commits are made all the same", vault.commits(), 4);
        Check.due("text", vault.text(2, 1), Check.text(3));
        Check.due("parent", vault.parent(2, 0), 1);
        Check.due("base", vault.base(2, 3), 0);
        Check.due("pick of what is forgotten", vault.pick(0, 2), SnapshotVault.NONE);
        Check.due("the next number", Check.save(vault, 0, 0, 9), 4);
    }

    private static void collectKeepsBothParents() {
        SnapshotVault vault = forked();
        Check.due("merge", vault.merge(0, 1), 4);
        Check.yes("drop", vault.drop(0, 1));
        Check.due("all is reached", vault.collect(0), 0);
        for (int commit = 0; commit < 5; commit++) {
            Check.yes("kept", vault.holds(0, commit));
        }
    }

    private static void collectInOneRepositoryAlone() {
        SnapshotVault vault = forked();
        Check.due("send", vault.send(0, 1), 3);
        Check.yes("drop", vault.drop(0, 1));
        Check.due("collect in 1", vault.collect(1), 0);
        Check.yes("0 still holds", vault.holds(0, 2));
        Check.due("collect in 0", vault.collect(0), 2);
        Check.no("0 does not hold", vault.holds(0, 2));
        Check.yes("1 still holds", vault.holds(1, 2));
        Check.yes("drop in 1", vault.drop(1, 1));
        Check.due("no branch at all", vault.collect(1), 3);
        Check.no("1 does not hold", vault.holds(1, 0));
    }

    private static void collectOfNothing() {
        SnapshotVault vault = new SnapshotVault();
        Check.due("collect of nothing", vault.collect(0), 0);
        Check.due("collect of nothing", vault.collect(1), 0);
        for (int repository : NO_REPOSITORIES) {
            Check.due("collect in " + repository, vault.collect(repository), SnapshotVault.BAD);
        }
        Check.due("commit", Check.save(vault, 0, 0, 1), 0);
        Check.yes("write", vault.write(0, 0, 2L, 1));
        Check.due("collect, though not clean", vault.collect(0), 0);
        Check.due("working", vault.working(0, 0), Check.text(2));
    }

    private static void sendGivesAllThatTheTipReaches() {
        SnapshotVault vault = forked();
        Check.due("send", vault.send(0, 1), 3);
        Check.due("tip", vault.tip(1, 1), 2);
        Check.yes("holds", vault.holds(1, 0));
        Check.yes("holds", vault.holds(1, 1));
        Check.yes("holds", vault.holds(1, 2));
        Check.no("not what the tip does not reach", vault.holds(1, 3));
        Check.due("no other branch", vault.tip(1, 0), SnapshotVault.NONE);
        Check.due("current", vault.current(1), 0);
        Check.due("working", vault.working(1, 0), SnapshotVault.NONE);
        Check.due("staged", vault.staged(1, 0), SnapshotVault.NONE);
        Check.due("the sender's tip", vault.tip(0, 1), 2);
        Check.due("no new commit", vault.commits(), 4);
        Check.due("send again", vault.send(0, 1), 0);
    }

    private static void sendGoesBothWays() {
        SnapshotVault vault = new SnapshotVault();
        Check.due("commit in 1", Check.save(vault, 1, 0, 1), 0);
        Check.yes("branch", vault.branch(1, 3));
        Check.due("send from 1", vault.send(1, 3), 1);
        Check.due("tip in 0", vault.tip(0, 3), 0);
        Check.due("checkout in 0", vault.checkout(0, 3), 0);
        Check.due("commit in 0", Check.save(vault, 0, 0, 2), 1);
        Check.due("send from 0", vault.send(0, 3), 1);
        Check.due("tip in 1", vault.tip(1, 3), 1);
    }

    private static void sendAddsToWhatIsHeld() {
        SnapshotVault vault = forked();
        Check.due("a commit in 1", Check.save(vault, 1, 3, 5), 4);
        Check.due("send", vault.send(0, 1), 3);
        Check.yes("1 still holds its own", vault.holds(1, 4));
        Check.due("its tip", vault.tip(1, 0), 4);
    }

    private static void sendCountsWhatIsNew() {
        SnapshotVault vault = forked();
        Check.due("merge", vault.merge(0, 1), 4);
        Check.yes("branch", vault.branch(0, 2));
        Check.due("send", vault.send(0, 1), 3);
        Check.due("the merge and its first parent", vault.send(0, 2), 2);
        Check.yes("holds", vault.holds(1, 3));
        Check.yes("drop", vault.drop(1, 2));
        Check.due("held still, though not reached", vault.send(0, 2), 0);
        Check.yes("drop", vault.drop(1, 2));
        Check.due("collect", vault.collect(1), 2);
        Check.due("new again", vault.send(0, 2), 2);
    }

    private static void sendRefusesWrongNumbers() {
        SnapshotVault vault = forked();
        String before = Check.state(vault);
        for (int repository : NO_REPOSITORIES) {
            Check.due("send from " + repository, vault.send(repository, 1), SnapshotVault.BAD);
        }
        for (int branch : NO_BRANCHES) {
            Check.due("send of " + branch, vault.send(0, branch), SnapshotVault.BAD);
        }
        Check.same("after BAD", Check.state(vault), before);
    }

    private static void sendNeedsTheBranch() {
        SnapshotVault vault = forked();
        String before = Check.state(vault);
        Check.due("not there", vault.send(0, 2), SnapshotVault.NONE);
        Check.due("not there", vault.send(1, 1), SnapshotVault.NONE);
        Check.due("NONE before DIRTY", vault.send(1, 0), SnapshotVault.NONE);
        Check.same("after NONE", Check.state(vault), before);
    }

    private static void sendLeavesTheCurrentBranch() {
        SnapshotVault vault = forked();
        String before = Check.state(vault);
        Check.due("current, though not there", vault.send(0, 0), SnapshotVault.DIRTY);
        Check.same("after DIRTY", Check.state(vault), before);
        Check.due("send", vault.send(0, 1), 3);
        Check.due("checkout", vault.checkout(1, 1), 2);
        Check.due("current and the same", vault.send(0, 1), SnapshotVault.DIRTY);
        Check.due("commit in 1", Check.save(vault, 1, 3, 8), 4);
        Check.due("DIRTY before BEHIND", vault.send(0, 1), SnapshotVault.DIRTY);
        Check.due("not current any more", vault.send(0, 0), 1);
        Check.due("the sender's current one may be sent", vault.tip(1, 0), 3);
    }

    private static void sendLosesNoCommits() {
        SnapshotVault vault = forked();
        Check.due("send", vault.send(0, 1), 3);
        Check.due("checkout in 1", vault.checkout(1, 1), 2);
        Check.due("commit in 1", Check.save(vault, 1, 3, 8), 4);
        Check.yes("branch", vault.branch(1, 2));
        Check.due("checkout in 1", vault.checkout(1, 2), 4);
        String before = Check.state(vault);
        Check.due("the tip is before theirs", vault.send(0, 1), SnapshotVault.BEHIND);
        Check.same("after BEHIND", Check.state(vault), before);
        Check.due("the other way it goes on", vault.send(1, 1), 1);
        Check.due("tip", vault.tip(0, 1), 4);
        Check.yes("drop", vault.drop(0, 1));
        Check.yes("branch elsewhere", vault.branch(0, 1));
        Check.due("the tip is beside theirs", vault.send(0, 1), SnapshotVault.BEHIND);
        Check.no("not held", vault.holds(1, 3));
        Check.yes("drop in 1", vault.drop(1, 1));
        Check.due("nothing to lose", vault.send(0, 1), 1);
        Check.due("tip", vault.tip(1, 1), 3);
    }

    private static void sendTakesUncleanRepositories() {
        SnapshotVault vault = forked();
        Check.yes("write", vault.write(0, 0, 9L, 1));
        Check.yes("write", vault.write(1, 0, 9L, 1));
        Check.due("send", vault.send(0, 1), 3);
        Check.due("working", vault.working(1, 0), Check.text(9));
    }

    private static void holdsOfWrongNumbers() {
        SnapshotVault vault = forked();
        Check.yes("holds", vault.holds(0, 3));
        for (int repository : NO_REPOSITORIES) {
            Check.no("holds in " + repository, vault.holds(repository, 0));
        }
        for (int commit : new int[] {-1, -64, -61, 4, 39, 40, 63, 64, 67, Integer.MIN_VALUE,
            Integer.MIN_VALUE + 3, Integer.MAX_VALUE}) {
            Check.no("holds " + commit, vault.holds(0, commit));
        }
    }

    /** Commit 0; 1 and 2 on branch 1; 3 on branch 0, the current one. */
    private static SnapshotVault forked() {
        SnapshotVault vault = new SnapshotVault();
        Check.due("commit", Check.save(vault, 0, 0, 1), 0);
        Check.yes("branch", vault.branch(0, 1));
        Check.due("checkout", vault.checkout(0, 1), 0);
        Check.due("commit", Check.save(vault, 0, 1, 2), 1);
        Check.due("commit", Check.save(vault, 0, 1, 3), 2);
        Check.due("checkout", vault.checkout(0, 0), 0);
        Check.due("commit", Check.save(vault, 0, 2, 4), 3);
        return vault;
    }
}
