import java.util.function.Supplier;

/** The boundary cases of promise 9, a test for each sentence. */
public final class MergeEdgeTest {
    public static void main(String[] args) {
        needsARepository();
        needsABranchNumber();
        needsABranchThatIsThere();
        needsAHead();
        needsACleanRepository();
        dirtyComesBeforeAllElse();
        nothingWhenTheHeadIsTheTip();
        nothingWhenTheHeadReachesTheTip();
        movesWhenTheTipReachesTheHead();
        movesThroughASecondParent();
        movesWhenFull();
        emptySnapshotWithoutABase();
        clashWithoutABase();
        emptyTextsWithoutABase();
        clashChangesNothing();
        clashLeavesNoTrace();
        fullChangesNothing();
        lastCommitMayBeAMerge();
        clashComesBeforeFull();
        nothingComesBeforeFull();
        parentsAreHeadAndTip();
        joinsEvenWhenNothingDiffers();
        Check.end();
    }

    private static void bad(String what, Supplier<SnapshotVault> scene, int place, int branch) {
        Check.refused(what, scene, x -> x.merge(place, branch), SnapshotVault.BAD);
    }

    private static void none(String what, Supplier<SnapshotVault> scene, int place, int branch) {
        Check.refused(what, scene, x -> x.merge(place, branch), SnapshotVault.NONE);
    }

    private static void dirty(String what, Supplier<SnapshotVault> scene, int branch) {
        Check.refused(what, scene, x -> x.merge(0, branch), SnapshotVault.DIRTY);
    }

    private static void nothing(String what, Supplier<SnapshotVault> scene, int branch) {
        Check.refused(what, scene, x -> x.merge(0, branch), SnapshotVault.NOTHING);
    }

    private static void needsARepository() {
        Check.sentence("Promise 9: BAD when there is no such repository");
        for (int wrong : Check.NO_REPOSITORIES) {
            bad("merge in " + wrong, Scenes::fork, wrong, 1);
        }
    }

    private static void needsABranchNumber() {
        Check.sentence("Promise 9: BAD when there is no such .. branch number");
        for (int wrong : Check.NO_BRANCHES) {
            bad("merge of " + wrong, Scenes::fork, 0, wrong);
            bad("BAD before NONE", Scenes::fork, 1, wrong);
            bad("BAD before DIRTY", Scenes::busy, 0, wrong);
        }
    }

    private static void needsABranchThatIsThere() {
        Check.sentence("Promise 9: NONE when the branch is not there");
        none("never there", Scenes::fork, 0, 3);
        none("NONE before DIRTY", Scenes::busy, 0, 3);
        SnapshotVault vault = Scenes.fork();
        Check.yes("drop", vault.drop(0, 1));
        Check.due("dropped", vault.merge(0, 1), SnapshotVault.NONE);
    }

    private static void needsAHead() {
        Check.sentence("Promise 9: NONE when .. there is no head");
        none("no head", Scenes::sentWithoutHead, 1, 1);
        none("no head, its own branch", Scenes::sentWithoutHead, 1, 0);
        none("NONE before DIRTY", Scenes::busy, 1, 2);
    }

    private static void needsACleanRepository() {
        Check.sentence("Promise 9: DIRTY");
        dirty("working differs", () -> Scenes.unstaged(Scenes.fork()), 1);
        dirty("the index differs", () -> Scenes.staged(Scenes.fork()), 1);
        SnapshotVault vault = Scenes.fork();
        Check.yes("write in 1", vault.write(1, 0, 1L, 1));
        Check.due("the other one is not asked", vault.merge(0, 1), 3);
        Check.due("nor changed", vault.working(1, 0), Check.text(1));
    }

    private static void dirtyComesBeforeAllElse() {
        Check.sentence("Promise 9: DIRTY; NOTHING when ..");
        dirty("before NOTHING", () -> Scenes.unstaged(Scenes.fork()), 0);
        dirty("before a move", () -> Scenes.unstaged(behind()), 0);
        dirty("before CLASH", () -> Scenes.staged(Scenes.clashingFork()), 1);
        dirty("before FULL", () -> Scenes.full(Scenes.staged(Scenes.fork())), 1);
    }

    private static void nothingWhenTheHeadIsTheTip() {
        Check.sentence("Promise 9: NOTHING when the head reaches the branch's tip");
        nothing("the current branch", Scenes::fork, 0);
        nothing("another branch with the same tip", Scenes::joined, 2);
        nothing("the only commit", Scenes::oneCommit, 1);
    }

    private static void nothingWhenTheHeadReachesTheTip() {
        Check.sentence("Promise 9: NOTHING when the head reaches the branch's tip");
        nothing("by its second parent", Scenes::joined, 1);
        SnapshotVault vault = Scenes.oneCommit();
        Check.due("commit", Check.save(vault, 0, 0, 2), 1);
        Check.due("commit", Check.save(vault, 0, 0, 3), 2);
        Check.due("by its parent's parent", vault.merge(0, 1), SnapshotVault.NOTHING);
        Check.due("tip", vault.tip(0, 0), 2);
    }

    /** Branch 1, the current one, at commit 0; branch 0 at commit 1, which comes from it. */
    private static SnapshotVault behind() {
        SnapshotVault vault = Scenes.oneCommit();
        Check.due("commit", Check.save(vault, 0, 1, 5), 1);
        Check.due("checkout", vault.checkout(0, 1), 0);
        return vault;
    }

    private static void movesWhenTheTipReachesTheHead() {
        Check.sentence("Promise 9: When the tip reaches the head, the repository is moved to the"
                + " tip");
        SnapshotVault vault = behind();
        Check.due("merge", vault.merge(0, 0), 1);
        Check.due("tip", vault.tip(0, 1), 1);
        Check.due("current", vault.current(0), 1);
        Check.due("working", vault.working(0, 1), Check.text(5));
        Check.due("staged", vault.staged(0, 1), Check.text(5));
        Check.due("no new commit", vault.commits(), 2);
    }

    private static void movesThroughASecondParent() {
        Check.sentence("Promise 9: When the tip reaches the head, the repository is moved to the"
                + " tip");
        SnapshotVault vault = Scenes.joined();
        Check.due("checkout", vault.checkout(0, 1), 2);
        Check.due("merge", vault.merge(0, 2), 3);
        Check.due("tip", vault.tip(0, 1), 3);
        Check.due("working", vault.working(0, 1), Check.text(5));
        Check.due("no new commit", vault.commits(), 4);
    }

    private static void movesWhenFull() {
        Check.sentence("Promise 9: When the tip reaches the head .. Otherwise .. FULL");
        SnapshotVault vault = Scenes.full(behind());
        Check.due("merge", vault.merge(0, 0), 1);
        Check.due("tip", vault.tip(0, 1), 1);
        Check.due("commits", vault.commits(), 40);
    }

    /** Repository 0 has the root 0 on branch 0 and, by send, the root 1 on branch 1. */
    private static SnapshotVault twoRoots(int[] first, int[] second) {
        SnapshotVault vault = new SnapshotVault();
        Check.put(vault, 0, 1, 4);
        Check.due("a root", Check.save(vault, 0, 0, first), 0);
        Check.put(vault, 1, 2, 5);
        Check.due("another root", Check.save(vault, 1, 0, second), 1);
        Check.yes("branch", vault.branch(1, 1));
        Check.due("send", vault.send(1, 1), 1);
        return vault;
    }

    private static void emptySnapshotWithoutABase() {
        Check.sentence("Promise 9: that of their base (the empty one without a base)");
        SnapshotVault vault = twoRoots(new int[] {1, 2}, new int[] {1, 2});
        Check.due("merge", vault.merge(0, 1), 2);
        Check.due("both have it", vault.text(2, 0), Check.text(1, 2));
        Check.due("the head has it", vault.text(2, 1), Check.text(4));
        Check.due("the tip has it", vault.text(2, 2), Check.text(5));
        Check.due("none has it", vault.text(2, 3), SnapshotVault.NONE);
        Check.due("first parent", vault.parent(2, 0), 0);
        Check.due("second parent", vault.parent(2, 1), 1);
    }

    private static void clashWithoutABase() {
        Check.sentence("Promise 9: that of their base (the empty one without a base): CLASH");
        Check.refused("two texts", () -> twoRoots(new int[] {1}, new int[] {1, 2}),
                x -> x.merge(0, 1), SnapshotVault.CLASH);
    }

    private static void emptyTextsWithoutABase() {
        Check.sentence("Promise 9: that of their base (the empty one without a base)");
        SnapshotVault vault = twoRoots(new int[0], new int[0]);
        Check.due("both have no lines", vault.merge(0, 1), 2);
        Check.due("no lines", vault.text(2, 0), 0);
        Check.refused("nothing is no text to unite", () -> twoRoots(new int[0], new int[] {1}),
                x -> x.merge(0, 1), SnapshotVault.CLASH);
    }

    private static void clashChangesNothing() {
        Check.sentence("Promise 9: CLASH");
        Check.refused("clash", Scenes::clashingFork, x -> x.merge(0, 1), SnapshotVault.CLASH);
        for (int file = 0; file < 4; file++) {
            int each = file;
            Check.refused("clash in file " + file, () -> clashIn(each), x -> x.merge(0, 1),
                    SnapshotVault.CLASH);
        }
    }

    /** Both sides add one file with two texts; all other files could be united. */
    private static SnapshotVault clashIn(int file) {
        SnapshotVault vault = new SnapshotVault();
        Check.due("commit", Check.save(vault, 0, (file + 1) % 4, 1), 0);
        Check.yes("branch", vault.branch(0, 1));
        Check.put(vault, 0, (file + 2) % 4, 2);
        Check.due("commit", Check.save(vault, 0, file, 8), 1);
        Check.due("checkout", vault.checkout(0, 1), 0);
        Check.put(vault, 0, (file + 3) % 4, 3);
        Check.due("commit", Check.save(vault, 0, file, 9), 2);
        Check.due("checkout", vault.checkout(0, 0), 1);
        return vault;
    }

    private static void clashLeavesNoTrace() {
        Check.sentence("Promise 9: CLASH; a refused call changes nothing");
        SnapshotVault vault = clashIn(3);
        Check.due("clash in the last file", vault.merge(0, 1), SnapshotVault.CLASH);
        Check.due("commit", Check.save(vault, 0, 3, 9), 3);
        Check.due("the same text on both sides", vault.merge(0, 1), 4);
        Check.due("file 0", vault.text(4, 0), Check.text(1));
        Check.due("file 1", vault.text(4, 1), Check.text(2));
        Check.due("file 2", vault.text(4, 2), Check.text(3));
        Check.due("file 3", vault.text(4, 3), Check.text(9));
        Check.due("first parent", vault.parent(4, 0), 3);
        Check.due("second parent", vault.parent(4, 1), 2);
    }

    private static void fullChangesNothing() {
        Check.sentence("Promise 9: FULL");
        Check.refused("full", () -> Scenes.full(Scenes.fork()), x -> x.merge(0, 1),
                SnapshotVault.FULL);
    }

    private static void lastCommitMayBeAMerge() {
        Check.sentence("FULL: There would be more than 40 commits");
        SnapshotVault vault = Scenes.filled(Scenes.fork(), 39);
        Check.due("merge", vault.merge(0, 1), 39);
        Check.due("commits", vault.commits(), 40);
        Check.due("tip", vault.tip(0, 0), 39);
        Check.due("second parent", vault.parent(39, 1), 2);
        Check.yes("held", vault.holds(0, 39));
    }

    private static void clashComesBeforeFull() {
        Check.sentence("Promise 9: CLASH; FULL");
        Check.refused("both", () -> Scenes.full(Scenes.clashingFork()), x -> x.merge(0, 1),
                SnapshotVault.CLASH);
    }

    private static void nothingComesBeforeFull() {
        Check.sentence("Promise 9: NOTHING when .. Otherwise .. FULL");
        nothing("both", () -> Scenes.full(Scenes.joined()), 1);
    }

    private static void parentsAreHeadAndTip() {
        Check.sentence("Promise 9: a commit with the united snapshot and the head and the tip as"
                + " its parents is made and held");
        SnapshotVault vault = Scenes.fork();
        Check.due("checkout", vault.checkout(0, 1), 2);
        Check.due("merge", vault.merge(0, 0), 3);
        Check.due("first parent", vault.parent(3, 0), 2);
        Check.due("second parent", vault.parent(3, 1), 1);
        Check.yes("held", vault.holds(0, 3));
        Check.no("not by 1", vault.holds(1, 3));
    }

    private static void joinsEvenWhenNothingDiffers() {
        Check.sentence("Promise 9: else a commit .. is made");
        SnapshotVault vault = Scenes.oneCommit();
        Check.due("commit", Check.save(vault, 0, 1, 5), 1);
        Check.due("checkout", vault.checkout(0, 1), 0);
        Check.due("the same again", Check.save(vault, 0, 1, 5), 2);
        Check.due("merge", vault.merge(0, 0), 3);
        Check.due("text", vault.text(3, 1), Check.text(5));
        Check.due("merge again", vault.merge(0, 0), SnapshotVault.NOTHING);
    }
}
