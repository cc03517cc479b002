import java.util.function.Supplier;

/** The boundary cases of promise 11, a test for each sentence. */
public final class RebaseEdgeTest {
    public static void main(String[] args) {
        needsARepository();
        needsABranchNumber();
        needsABranchThatIsThere();
        needsAHead();
        needsACleanRepository();
        dirtyComesBeforeAllElse();
        noCommitsOntoTheSameTip();
        noCommitsOntoALaterTip();
        commitsThatTheTipReachesAreLeftOut();
        mergesAreLeftOut();
        onlyAMerge();
        lowestNumberFirst();
        rootIsDoneAgain();
        eachOnWhatTheOneBeforeHasLedTo();
        nothingIsPassedOver();
        allIsPassedOver();
        movesToCommitZero();
        firstClashChangesNothing();
        lastClashChangesNothing();
        clashLeavesNoTrace();
        fullChangesNothing();
        fullInTheMiddleChangesNothing();
        fullLeavesNoTrace();
        lastCommitsMayBeRebased();
        nothingComesBeforeFull();
        firstTroubleIsAnswered();
        newCommitsAreHeld();
        Check.end();
    }

    private static void bad(String what, Supplier<SnapshotVault> scene, int place, int branch) {
        Check.refused(what, scene, x -> x.rebase(place, branch), SnapshotVault.BAD);
    }

    private static void none(String what, Supplier<SnapshotVault> scene, int place, int branch) {
        Check.refused(what, scene, x -> x.rebase(place, branch), SnapshotVault.NONE);
    }

    private static void dirty(String what, Supplier<SnapshotVault> scene, int branch) {
        Check.refused(what, scene, x -> x.rebase(0, branch), SnapshotVault.DIRTY);
    }

    private static void needsARepository() {
        Check.sentence("Promise 11: BAD when there is no such repository");
        for (int wrong : Check.NO_REPOSITORIES) {
            bad("rebase in " + wrong, Scenes::fork, wrong, 1);
        }
    }

    private static void needsABranchNumber() {
        Check.sentence("Promise 11: BAD when there is no such .. branch number");
        for (int wrong : Check.NO_BRANCHES) {
            bad("rebase onto " + wrong, Scenes::fork, 0, wrong);
            bad("BAD before NONE", Scenes::fork, 1, wrong);
            bad("BAD before DIRTY", Scenes::busy, 0, wrong);
        }
    }

    private static void needsABranchThatIsThere() {
        Check.sentence("Promise 11: NONE when the branch is not there");
        none("never there", Scenes::fork, 0, 3);
        none("NONE before DIRTY", Scenes::busy, 0, 3);
        SnapshotVault vault = Scenes.fork();
        Check.yes("drop", vault.drop(0, 1));
        Check.due("dropped", vault.rebase(0, 1), SnapshotVault.NONE);
    }

    private static void needsAHead() {
        Check.sentence("Promise 11: NONE when .. there is no head");
        none("no head", Scenes::sentWithoutHead, 1, 1);
        none("no head, its own branch", Scenes::sentWithoutHead, 1, 0);
        none("NONE before DIRTY", Scenes::busy, 1, 2);
    }

    private static void needsACleanRepository() {
        Check.sentence("Promise 11: DIRTY");
        dirty("working differs", () -> Scenes.unstaged(Scenes.fork()), 1);
        dirty("the index differs", () -> Scenes.staged(Scenes.fork()), 1);
        SnapshotVault vault = Scenes.fork();
        Check.yes("write in 1", vault.write(1, 0, 1L, 1));
        Check.due("the other one is not asked", vault.rebase(0, 1), 1);
        Check.due("nor changed", vault.working(1, 0), Check.text(1));
    }

    private static void dirtyComesBeforeAllElse() {
        Check.sentence("Promise 11: DIRTY. The commits ..");
        dirty("without commits", () -> Scenes.unstaged(Scenes.fork()), 0);
        dirty("before CLASH", () -> Scenes.staged(Scenes.clashingFork()), 1);
        dirty("before FULL", () -> Scenes.full(Scenes.staged(Scenes.fork())), 1);
    }

    private static void noCommitsOntoTheSameTip() {
        Check.sentence("Promise 11: or to the branch's tip when there is none");
        Check.refused("onto itself", Scenes::fork, x -> x.rebase(0, 0), 0);
        Check.refused("onto the same tip", Scenes::joined, x -> x.rebase(0, 2), 0);
        Check.refused("when full", () -> Scenes.full(Scenes.fork()), x -> x.rebase(0, 0), 0);
    }

    private static void noCommitsOntoALaterTip() {
        Check.sentence("Promise 11: or to the branch's tip when there is none");
        SnapshotVault vault = Scenes.full(Scenes.joined());
        Check.due("checkout", vault.checkout(0, 1), 2);
        Check.due("rebase", vault.rebase(0, 2), 0);
        Check.due("tip", vault.tip(0, 1), 3);
        Check.due("current", vault.current(0), 1);
        Check.due("working", vault.working(0, 1), Check.text(5));
        Check.due("staged", vault.staged(0, 1), Check.text(5));
        Check.due("commits", vault.commits(), 40);
    }

    private static void commitsThatTheTipReachesAreLeftOut() {
        Check.sentence("Promise 11: The commits that the head reaches and the branch's tip does"
                + " not");
        SnapshotVault vault = Scenes.fork();
        Check.due("merge", vault.merge(0, 1), 3);
        Check.due("commit", Check.save(vault, 0, 3, 7), 4);
        Check.due("without 0 and 2, which the tip reaches, and the merge", vault.rebase(0, 1), 2);
        Check.due("tip", vault.tip(0, 0), 6);
        Check.due("1 again, onto the tip", vault.parent(5, 0), 2);
        Check.due("1 again", vault.text(5, 1), Check.text(5));
        Check.due("not 4 yet", vault.text(5, 3), SnapshotVault.NONE);
        Check.due("4 again", vault.text(6, 3), Check.text(7));
    }

    private static void mergesAreLeftOut() {
        Check.sentence("Promise 11: without those with two parents");
        SnapshotVault vault = Scenes.oneCommit();
        Check.yes("branch", vault.branch(0, 3));
        Check.due("commit", Check.save(vault, 0, 1, 5), 1);
        Check.due("checkout", vault.checkout(0, 1), 0);
        Check.due("commit", Check.save(vault, 0, 2, 6), 2);
        Check.due("checkout", vault.checkout(0, 0), 1);
        Check.due("merge", vault.merge(0, 1), 3);
        Check.due("1 and 2, without 3", vault.rebase(0, 3), 2);
        Check.due("tip", vault.tip(0, 0), 5);
        for (int commit = 4; commit < 6; commit++) {
            Check.due("parent", vault.parent(commit, 0), commit == 4 ? 0 : 4);
            Check.due("second parent", vault.parent(commit, 1), SnapshotVault.NONE);
        }
        Check.due("commits", vault.commits(), 6);
    }

    private static void onlyAMerge() {
        Check.sentence("Promise 11: without those with two parents .. or to the branch's tip when"
                + " there is none");
        SnapshotVault vault = Scenes.fork();
        Check.yes("branch", vault.branch(0, 2));
        Check.due("one merge of 1 and 2", vault.merge(0, 1), 3);
        Check.due("checkout", vault.checkout(0, 1), 2);
        Check.due("another merge of 1 and 2", vault.merge(0, 2), 4);
        Check.due("checkout", vault.checkout(0, 0), 3);
        Check.due("nothing to do again", vault.rebase(0, 1), 0);
        Check.due("tip", vault.tip(0, 0), 4);
        Check.yes("the first merge is held still", vault.holds(0, 3));
        Check.due("commits", vault.commits(), 5);
    }

    private static void lowestNumberFirst() {
        Check.sentence("Promise 11: the lowest number first");
        SnapshotVault vault = Scenes.oneCommit();
        Check.yes("branch", vault.branch(0, 2));
        Check.due("checkout", vault.checkout(0, 1), 0);
        Check.due("on branch 1", Check.save(vault, 0, 1, 1), 1);
        Check.due("checkout", vault.checkout(0, 0), 0);
        Check.due("on branch 0", Check.save(vault, 0, 2, 2), 2);
        Check.due("checkout", vault.checkout(0, 1), 1);
        Check.due("on branch 1", Check.save(vault, 0, 1, 3), 3);
        Check.due("checkout", vault.checkout(0, 0), 2);
        Check.due("merge", vault.merge(0, 1), 4);
        Check.due("rebase", vault.rebase(0, 2), 3);
        Check.due("1 again", vault.text(5, 1), Check.text(1));
        Check.due("1 again", vault.text(5, 2), SnapshotVault.NONE);
        Check.due("2 again", vault.text(6, 1), Check.text(1));
        Check.due("2 again", vault.text(6, 2), Check.text(2));
        Check.due("3 again", vault.text(7, 1), Check.text(3));
        Check.due("tip", vault.tip(0, 0), 7);
    }

    private static void rootIsDoneAgain() {
        Check.sentence("Promise 11: as by pick (the empty one without a parent)");
        SnapshotVault vault = Scenes.sentWithoutHead();
        Check.due("a root in 1", Check.save(vault, 1, 3), 3);
        Check.due("rebase", vault.rebase(1, 1), 1);
        Check.due("parent", vault.parent(4, 0), 2);
        Check.due("its own file, without lines", vault.text(4, 3), 0);
        Check.due("the tip's file", vault.text(4, 2), Check.text(6));
        Check.refused("a root that clashes", RebaseEdgeTest::clashingRoot, x -> x.rebase(1, 1),
                SnapshotVault.CLASH);
    }

    private static SnapshotVault clashingRoot() {
        SnapshotVault vault = Scenes.sentWithoutHead();
        Check.due("a root in 1", Check.save(vault, 1, 0, 9), 3);
        return vault;
    }

    private static void eachOnWhatTheOneBeforeHasLedTo() {
        Check.sentence("Promise 11: the first one on the branch's tip, each other one on what the"
                + " one before has led to");
        SnapshotVault vault = threeOnBranchOne();
        Check.due("rebase", vault.rebase(0, 0), 3);
        for (int k = 0; k < 3; k++) {
            Check.due("parent", vault.parent(5 + k, 0), k == 0 ? 1 : 4 + k);
            Check.due("second parent", vault.parent(5 + k, 1), SnapshotVault.NONE);
            Check.due("the tip's file", vault.text(5 + k, 1), Check.text(5));
        }
        Check.due("first", vault.text(5, 2), Check.text(6));
        Check.due("second", vault.text(6, 2), Check.text(6, 7));
        Check.due("third", vault.text(7, 3), Check.text(8));
        Check.due("tip", vault.tip(0, 1), 7);
    }

    /** Commit 1 on branch 0 adds file 1; 2 to 4 on branch 1, current, change the files 2 and 3. */
    private static SnapshotVault threeOnBranchOne() {
        SnapshotVault vault = Scenes.fork();
        Check.due("checkout", vault.checkout(0, 1), 2);
        Check.due("commit", Check.save(vault, 0, 2, 6, 7), 3);
        Check.due("commit", Check.save(vault, 0, 3, 8), 4);
        return vault;
    }

    private static void nothingIsPassedOver() {
        Check.sentence("Promise 11: where pick would answer NOTHING, there is no new commit, and it"
                + " goes on");
        SnapshotVault vault = threeOnBranchOne();
        Check.due("checkout", vault.checkout(0, 0), 1);
        Check.due("pick of the last one", vault.pick(0, 4), 5);
        Check.due("pick of the first one", vault.pick(0, 2), 6);
        Check.due("checkout", vault.checkout(0, 1), 4);
        Check.due("the middle one alone", vault.rebase(0, 0), 1);
        Check.due("parent", vault.parent(7, 0), 6);
        Check.due("file 2", vault.text(7, 2), Check.text(6, 7));
        Check.due("tip", vault.tip(0, 1), 7);
        Check.due("commits", vault.commits(), 8);
    }

    private static void allIsPassedOver() {
        Check.sentence("Promise 11: or to the branch's tip when there is none");
        SnapshotVault vault = Scenes.fork();
        Check.due("pick", vault.pick(0, 2), 3);
        Check.due("checkout", vault.checkout(0, 1), 2);
        Check.due("rebase", vault.rebase(0, 0), 0);
        Check.due("tip", vault.tip(0, 1), 3);
        Check.due("working", vault.working(0, 1), Check.text(5));
        Check.due("commits", vault.commits(), 4);
    }

    private static void movesToCommitZero() {
        Check.sentence("Promise 11: or to the branch's tip when there is none");
        SnapshotVault vault = Scenes.oneCommit();
        Check.due("send", vault.send(0, 1), 1);
        Check.due("a root with the same snapshot", Check.save(vault, 1, 0, 1, 2, 3), 1);
        Check.due("rebase", vault.rebase(1, 1), 0);
        Check.due("tip", vault.tip(1, 0), 0);
        Check.due("the root that was left", vault.collect(1), 1);
    }

    private static void firstClashChangesNothing() {
        Check.sentence("Promise 11: CLASH .. then nothing is changed at all");
        Check.refused("the only one", Scenes::clashingFork, x -> x.rebase(0, 1),
                SnapshotVault.CLASH);
        Check.refused("the first of three", () -> blocked(2), x -> x.rebase(0, 0),
                SnapshotVault.CLASH);
    }

    private static void lastClashChangesNothing() {
        Check.sentence("Promise 11: CLASH .. when one of them meets that: then nothing is changed"
                + " at all");
        Check.refused("the last of three", () -> blocked(3), x -> x.rebase(0, 0),
                SnapshotVault.CLASH);
    }

    /** Three commits on branch 1, and on branch 0 a text in the file that one of them adds. */
    private static SnapshotVault blocked(int file) {
        SnapshotVault vault = threeOnBranchOne();
        Check.due("checkout", vault.checkout(0, 0), 1);
        Check.due("commit", Check.save(vault, 0, file, 15), 5);
        Check.due("checkout", vault.checkout(0, 1), 4);
        return vault;
    }

    private static void clashLeavesNoTrace() {
        Check.sentence("Promise 11: then nothing is changed at all");
        SnapshotVault vault = blocked(3);
        Check.due("rebase", vault.rebase(0, 0), SnapshotVault.CLASH);
        leavesNoTrace(vault, 6, 4);
    }

    /** New commits must be as if the refused rebase had never made any. */
    private static void leavesNoTrace(SnapshotVault vault, int next, int head) {
        for (int commit = next; commit < next + 3; commit++) {
            Check.no("holds", vault.holds(0, commit));
            Check.due("text", vault.text(commit, 0), SnapshotVault.BAD);
        }
        int root = vault.tip(1, 0);
        Check.due("the next commit, in 1", Check.save(vault, 1, 1, 3), next);
        Check.due("its parent", vault.parent(next, 0), root);
        Check.due("its second parent", vault.parent(next, 1), SnapshotVault.NONE);
        Check.due("its file 1", vault.text(next, 1), Check.text(3));
        Check.due("its file 2", vault.text(next, 2), SnapshotVault.NONE);
        Check.due("it reaches no head", vault.base(next, head), SnapshotVault.NONE);
        Check.no("0 does not hold it", vault.holds(0, next));
        Check.yes("1 does", vault.holds(1, next));
    }

    private static void fullChangesNothing() {
        Check.sentence("Promise 11: .. FULL when one of them meets that: then nothing is changed at"
                + " all");
        Check.refused("no room", () -> Scenes.full(Scenes.fork()), x -> x.rebase(0, 1),
                SnapshotVault.FULL);
        Check.refused("no room for the first of three", () -> Scenes.full(threeOnBranchOne()),
                x -> x.rebase(0, 0), SnapshotVault.FULL);
    }

    private static void fullInTheMiddleChangesNothing() {
        Check.sentence("Promise 11: .. FULL when one of them meets that: then nothing is changed at"
                + " all");
        Check.refused("room for one of three", () -> Scenes.filled(threeOnBranchOne(), 39),
                x -> x.rebase(0, 0), SnapshotVault.FULL);
        Check.refused("room for two of three", () -> Scenes.filled(threeOnBranchOne(), 38),
                x -> x.rebase(0, 0), SnapshotVault.FULL);
    }

    private static void fullLeavesNoTrace() {
        Check.sentence("Promise 11: then nothing is changed at all");
        SnapshotVault vault = Scenes.filled(threeOnBranchOne(), 38);
        Check.due("rebase", vault.rebase(0, 0), SnapshotVault.FULL);
        leavesNoTrace(vault, 38, 4);
        Check.due("the last commit", Check.save(vault, 0, 0, 1), 39);
        Check.due("its parent", vault.parent(39, 0), 4);
    }

    private static void lastCommitsMayBeRebased() {
        Check.sentence("FULL: There would be more than 40 commits");
        SnapshotVault vault = Scenes.filled(threeOnBranchOne(), 37);
        Check.due("room for three of three", vault.rebase(0, 0), 3);
        Check.due("commits", vault.commits(), 40);
        Check.due("tip", vault.tip(0, 1), 39);
        Check.due("first parent", vault.parent(37, 0), 1);
        Check.due("last text", vault.text(39, 3), Check.text(8));
        Check.yes("held", vault.holds(0, 39));
    }

    private static void nothingComesBeforeFull() {
        Check.sentence("Promise 11: where pick would answer NOTHING, there is no new commit, and it"
                + " goes on");
        SnapshotVault vault = Scenes.fork();
        Check.due("pick", vault.pick(0, 2), 3);
        Check.due("checkout", vault.checkout(0, 1), 2);
        Scenes.full(vault);
        Check.due("rebase when full", vault.rebase(0, 0), 0);
        Check.due("tip", vault.tip(0, 1), 3);
    }

    private static void firstTroubleIsAnswered() {
        Check.sentence("Promise 11: CLASH or FULL when one of them meets that");
        Check.refused("CLASH before FULL for one commit",
                () -> Scenes.full(Scenes.clashingFork()), x -> x.rebase(0, 1),
                SnapshotVault.CLASH);
        Check.refused("two commits, then CLASH", () -> Scenes.filled(blocked(3), 38),
                x -> x.rebase(0, 0), SnapshotVault.CLASH);
        Check.refused("one commit, then FULL", () -> Scenes.filled(blocked(3), 39),
                x -> x.rebase(0, 0), SnapshotVault.FULL);
    }

    private static void newCommitsAreHeld() {
        Check.sentence("Promise 11: the new commits are made and held, and the repository is moved"
                + " to the last one");
        SnapshotVault vault = threeOnBranchOne();
        Check.due("rebase", vault.rebase(0, 0), 3);
        for (int commit = 0; commit < 8; commit++) {
            Check.yes("0 holds " + commit, vault.holds(0, commit));
            Check.no("1 holds " + commit, vault.holds(1, commit));
        }
        for (int file = 0; file < 4; file++) {
            Check.due("working", vault.working(0, file), vault.text(7, file));
            Check.due("staged", vault.staged(0, file), vault.text(7, file));
        }
        Check.due("the other tip", vault.tip(0, 0), 1);
        Check.due("the old ones are forgotten", vault.collect(0), 3);
    }
}
