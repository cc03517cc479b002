import java.util.function.Supplier;

/** The boundary cases of promise 10, a test for each sentence. */
public final class PickEdgeTest {
    public static void main(String[] args) {
        needsARepository();
        needsACommitThatWasMade();
        needsACommitThatItHolds();
        needsACommitThatIsNotForgotten();
        needsAHead();
        needsACleanRepository();
        dirtyComesBeforeAllElse();
        nothingForTwoParents();
        twoParentsComeBeforeClash();
        emptySnapshotWithoutAParent();
        clashWithoutAParent();
        clashChangesNothing();
        nothingWhenTheHeadIsTheSame();
        fullChangesNothing();
        lastCommitMayBeAPick();
        clashComesBeforeFull();
        nothingComesBeforeFull();
        headIsTheOnlyParent();
        Check.end();
    }

    private static void pick(String what, Supplier<SnapshotVault> scene, int commit, int want) {
        Check.refused(what, scene, x -> x.pick(0, commit), want);
    }

    private static void needsARepository() {
        Check.sentence("Promise 10: BAD when there is no such repository");
        for (int wrong : Check.NO_REPOSITORIES) {
            Check.refused("pick in " + wrong, Scenes::fork, x -> x.pick(wrong, 2),
                    SnapshotVault.BAD);
            Check.refused("BAD before NONE", Scenes::fork, x -> x.pick(wrong, -1),
                    SnapshotVault.BAD);
        }
    }

    private static void needsACommitThatWasMade() {
        Check.sentence("Promise 10: NONE when it does not hold such a commit");
        for (int wrong : Check.NO_COMMITS) {
            pick("pick of " + wrong, Scenes::fork, wrong, SnapshotVault.NONE);
            pick("in a full vault", () -> Scenes.full(Scenes.fork()), wrong, SnapshotVault.NONE);
        }
        pick("the next number", Scenes::fork, 3, SnapshotVault.NONE);
        pick("the last number", Scenes::fork, 39, SnapshotVault.NONE);
        pick("NONE before DIRTY", Scenes::busy, 4, SnapshotVault.NONE);
    }

    private static void needsACommitThatItHolds() {
        Check.sentence("Promise 10: NONE when it does not hold such a commit");
        pick("made in the other one", () -> Scenes.filled(Scenes.fork(), 4), 3,
                SnapshotVault.NONE);
        pick("the last one made in the other one", () -> Scenes.full(Scenes.fork()), 39,
                SnapshotVault.NONE);
        Check.refused("made in 0", () -> Scenes.filled(Scenes.fork(), 4), x -> x.pick(1, 2),
                SnapshotVault.NONE);
    }

    private static void needsACommitThatIsNotForgotten() {
        Check.sentence("Promise 10: NONE when it does not hold such a commit");
        SnapshotVault vault = Scenes.fork();
        Check.yes("drop", vault.drop(0, 1));
        Check.due("held, though no branch reaches it", vault.pick(0, 2), 3);
        SnapshotVault other = Scenes.fork();
        Check.yes("drop", other.drop(0, 1));
        Check.due("collect", other.collect(0), 1);
        Check.due("forgotten", other.pick(0, 2), SnapshotVault.NONE);
        Check.due("tip", other.tip(0, 0), 1);
        Check.due("commits", other.commits(), 3);
    }

    private static void needsAHead() {
        Check.sentence("Promise 10: NONE when .. there is no head");
        Check.refused("held", Scenes::sentWithoutHead, x -> x.pick(1, 2), SnapshotVault.NONE);
        Check.refused("held, a root", Scenes::sentWithoutHead, x -> x.pick(1, 0),
                SnapshotVault.NONE);
        Check.refused("NONE before DIRTY", Scenes::busy, x -> x.pick(1, 2), SnapshotVault.NONE);
        Check.refused("NONE before NOTHING", Scenes::busy, x -> x.pick(1, 3),
                SnapshotVault.NONE);
    }

    private static void needsACleanRepository() {
        Check.sentence("Promise 10: DIRTY");
        pick("working differs", () -> Scenes.unstaged(Scenes.fork()), 2, SnapshotVault.DIRTY);
        pick("the index differs", () -> Scenes.staged(Scenes.fork()), 2, SnapshotVault.DIRTY);
        SnapshotVault vault = Scenes.fork();
        Check.yes("write in 1", vault.write(1, 0, 1L, 1));
        Check.due("the other one is not asked", vault.pick(0, 2), 3);
    }

    private static void dirtyComesBeforeAllElse() {
        Check.sentence("Promise 10: DIRTY; NOTHING when ..");
        pick("before NOTHING for two parents", () -> Scenes.unstaged(Scenes.joined()), 3,
                SnapshotVault.DIRTY);
        pick("before NOTHING for the same", () -> Scenes.unstaged(Scenes.fork()), 1,
                SnapshotVault.DIRTY);
        pick("before CLASH", () -> Scenes.staged(Scenes.clashingFork()), 2, SnapshotVault.DIRTY);
        pick("before FULL", () -> Scenes.full(Scenes.staged(Scenes.fork())), 2,
                SnapshotVault.DIRTY);
    }

    private static void nothingForTwoParents() {
        Check.sentence("Promise 10: NOTHING when the commit has two parents");
        pick("it is the head", Scenes::joined, 3, SnapshotVault.NOTHING);
        pick("it is not", PickEdgeTest::besideAMerge, 3, SnapshotVault.NOTHING);
        pick("when full", () -> Scenes.full(besideAMerge()), 3, SnapshotVault.NOTHING);
    }

    /** The head is commit 2, to which the merge, commit 3, would bring file 1. */
    private static SnapshotVault besideAMerge() {
        SnapshotVault vault = Scenes.joined();
        Check.due("checkout", vault.checkout(0, 1), 2);
        return vault;
    }

    private static void twoParentsComeBeforeClash() {
        Check.sentence("Promise 10: NOTHING when the commit has two parents; otherwise .. CLASH");
        pick("both", PickEdgeTest::againstAMerge, 3, SnapshotVault.NOTHING);
    }

    private static SnapshotVault againstAMerge() {
        SnapshotVault vault = besideAMerge();
        Check.due("commit", Check.save(vault, 0, 2, 9), 4);
        Check.due("commit", Check.save(vault, 0, 1, 9), 5);
        return vault;
    }

    private static void emptySnapshotWithoutAParent() {
        Check.sentence("Promise 10: that of its parent (the empty one without a parent)");
        SnapshotVault vault = new SnapshotVault();
        Check.put(vault, 0, 1);
        Check.due("a root", Check.save(vault, 0, 0, 1, 2, 3), 0);
        Check.due("commit", Check.saveRemoved(vault, 0, 0), 1);
        Check.due("commit", Check.saveRemoved(vault, 0, 1), 2);
        Check.due("commit", Check.save(vault, 0, 2, 4), 3);
        Check.due("pick of the root", vault.pick(0, 0), 4);
        Check.due("file 0", vault.text(4, 0), Check.text(1, 2, 3));
        Check.due("file 1 has no lines", vault.text(4, 1), 0);
        Check.due("file 2", vault.text(4, 2), Check.text(4));
        Check.due("file 3", vault.text(4, 3), SnapshotVault.NONE);
        Check.due("parent", vault.parent(4, 0), 3);
    }

    private static void clashWithoutAParent() {
        Check.sentence("Promise 10: that of its parent (the empty one without a parent): CLASH");
        pick("the file has another text", Scenes::clashingFork, 0, SnapshotVault.CLASH);
    }

    private static void clashChangesNothing() {
        Check.sentence("Promise 10: CLASH");
        pick("clash", Scenes::clashingFork, 2, SnapshotVault.CLASH);
        pick("more than 8 lines", PickEdgeTest::tooLong, 2, SnapshotVault.CLASH);
    }

    /** The head has four lines more in front, commit 2 two more behind: nine in all. */
    private static SnapshotVault tooLong() {
        SnapshotVault vault = Scenes.oneCommit();
        Check.due("commit", Check.save(vault, 0, 0, 4, 4, 4, 4, 1, 2, 3), 1);
        Check.due("checkout", vault.checkout(0, 1), 0);
        Check.due("commit", Check.save(vault, 0, 0, 1, 2, 3, 5, 5), 2);
        Check.due("checkout", vault.checkout(0, 0), 1);
        return vault;
    }

    private static void nothingWhenTheHeadIsTheSame() {
        Check.sentence("Promise 10: NOTHING when the united snapshot is the same as the head's");
        pick("the head itself", Scenes::fork, 1, SnapshotVault.NOTHING);
        pick("a root that the head has kept", Scenes::fork, 0, SnapshotVault.NOTHING);
        pick("the only commit", Scenes::oneCommit, 0, SnapshotVault.NOTHING);
        SnapshotVault vault = Scenes.fork();
        Check.due("pick", vault.pick(0, 2), 3);
        Check.due("pick again", vault.pick(0, 2), SnapshotVault.NOTHING);
        Check.due("commits", vault.commits(), 4);
        Check.due("tip", vault.tip(0, 0), 3);
    }

    private static void fullChangesNothing() {
        Check.sentence("Promise 10: FULL");
        pick("full", () -> Scenes.full(Scenes.fork()), 2, SnapshotVault.FULL);
    }

    private static void lastCommitMayBeAPick() {
        Check.sentence("FULL: There would be more than 40 commits");
        SnapshotVault vault = Scenes.filled(Scenes.fork(), 39);
        Check.due("pick", vault.pick(0, 2), 39);
        Check.due("commits", vault.commits(), 40);
        Check.due("tip", vault.tip(0, 0), 39);
        Check.yes("held", vault.holds(0, 39));
        Check.due("pick of the last number", vault.pick(0, 39), SnapshotVault.NOTHING);
    }

    private static void clashComesBeforeFull() {
        Check.sentence("Promise 10: CLASH; .. FULL");
        pick("both", () -> Scenes.full(Scenes.clashingFork()), 2, SnapshotVault.CLASH);
    }

    private static void nothingComesBeforeFull() {
        Check.sentence("Promise 10: NOTHING when ..; FULL");
        pick("both", () -> Scenes.full(Scenes.fork()), 1, SnapshotVault.NOTHING);
    }

    private static void headIsTheOnlyParent() {
        Check.sentence("Promise 10: a commit with it and the head as its parent is made and held,"
                + " and the repository is moved to it. Answers its number");
        SnapshotVault vault = Scenes.fork();
        Check.due("pick", vault.pick(0, 2), 3);
        Check.due("first parent", vault.parent(3, 0), 1);
        Check.due("second parent", vault.parent(3, 1), SnapshotVault.NONE);
        Check.due("base with the picked one", vault.base(3, 2), 0);
        Check.due("tip", vault.tip(0, 0), 3);
        Check.due("the other tip", vault.tip(0, 1), 2);
        Check.yes("held", vault.holds(0, 3));
        Check.no("not by 1", vault.holds(1, 3));
        Check.due("working", vault.working(0, 2), Check.text(6));
        Check.due("staged", vault.staged(0, 2), Check.text(6));
    }
}
