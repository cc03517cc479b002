import java.util.function.Supplier;

/** The boundary cases of the promises 12, 13 and 16, a test for each sentence. */
public final class CollectSendEdgeTest {
    public static void main(String[] args) {
        collectForgetsWhatNoTipReaches();
        collectWithoutBranches();
        collectKeepsWhatEachBranchReaches();
        collectLooksAtItsOwnBranches();
        collectAnswersNoneForgotten();
        collectNeedsARepository();
        sendGivesAllThatTheTipReaches();
        sendAnswersWhatWasNotHeld();
        sendAnswersForty();
        sendNeedsARepository();
        sendNeedsABranchNumber();
        sendNeedsABranchThatIsThere();
        sendLeavesTheCurrentBranch();
        sendAsksForTheCurrentBranchAlone();
        sendDoesNotLoseWhatIsAhead();
        sendDoesNotLoseWhatIsBeside();
        sendOfTheSameTip();
        sendWhereTheBranchIsNotThere();
        dirtyComesBeforeBehind();
        holdsNeedsARepository();
        holdsNeedsACommit();
        Check.end();
    }

    private static void send(String what, Supplier<SnapshotVault> scene, int branch, int want) {
        Check.refused(what, scene, x -> x.send(0, branch), want);
    }

    private static void collectForgetsWhatNoTipReaches() {
        Check.sentence("Promise 12: The repository holds no more the commits that no tip of its"
                + " branches reaches. Answers how many that were");
        SnapshotVault vault = Scenes.fork();
        Check.yes("drop", vault.drop(0, 1));
        Check.yes("write", vault.write(0, 3, 4L, 1));
        Check.due("collect", vault.collect(0), 1);
        Check.no("forgotten", vault.holds(0, 2));
        Check.yes("the head", vault.holds(0, 1));
        Check.yes("what the head reaches", vault.holds(0, 0));
        Check.due("made all the same", vault.commits(), 3);
        Check.due("its text", vault.text(2, 2), Check.text(6));
        Check.due("working stays", vault.working(0, 3), Check.text(4));
        Check.due("nothing more to forget", vault.collect(0), 0);
    }

    private static void collectWithoutBranches() {
        Check.sentence("Promise 12: the commits that no tip of its branches reaches");
        SnapshotVault vault = Scenes.sentWithoutHead();
        Check.yes("drop", vault.drop(1, 1));
        Check.due("all are forgotten", vault.collect(1), 2);
        for (int commit = 0; commit < 3; commit++) {
            Check.no("1 holds " + commit, vault.holds(1, commit));
            Check.yes("0 holds " + commit, vault.holds(0, commit));
        }
    }

    private static void collectKeepsWhatEachBranchReaches() {
        Check.sentence("Promise 12: that no tip of its branches reaches");
        for (int kept = 1; kept < 4; kept++) {
            SnapshotVault vault = new SnapshotVault();
            Check.due("commit", Check.save(vault, 0, 0, 1), 0);
            Check.yes("branch", vault.branch(0, kept));
            Check.due("checkout", vault.checkout(0, kept), 0);
            Check.due("commit", Check.save(vault, 0, 0, 2), 1);
            Check.due("checkout", vault.checkout(0, 0), 0);
            Check.due("branch " + kept + " reaches it", vault.collect(0), 0);
            Check.yes("held", vault.holds(0, 1));
            Check.yes("drop", vault.drop(0, kept));
            Check.due("no branch reaches it", vault.collect(0), 1);
        }
        Check.refused("a second parent is reached", Scenes::joined, x -> x.collect(0), 0);
    }

    private static void collectLooksAtItsOwnBranches() {
        Check.sentence("Promise 12: no tip of its branches");
        SnapshotVault vault = Scenes.sentWithoutHead();
        Check.yes("drop in 0", vault.drop(0, 1));
        Check.due("1 has a branch there, 0 has none", vault.collect(0), 1);
        Check.no("0", vault.holds(0, 2));
        Check.yes("1", vault.holds(1, 2));
        Check.due("1 keeps it", vault.collect(1), 0);
    }

    private static void collectAnswersNoneForgotten() {
        Check.sentence("Promise 12: Answers how many that were");
        Check.refused("no commits", SnapshotVault::new, x -> x.collect(0), 0);
        Check.refused("all are reached", Scenes::busy, x -> x.collect(0), 0);
        Check.refused("all are reached", Scenes::busy, x -> x.collect(1), 0);
    }

    private static void collectNeedsARepository() {
        Check.sentence("Promise 12: BAD when there is no such repository");
        for (int wrong : Check.NO_REPOSITORIES) {
            Check.refused("collect in " + wrong, CollectSendEdgeTest::unreached,
                    x -> x.collect(wrong), SnapshotVault.BAD);
        }
    }

    /** Both repositories hold a commit that no branch of theirs reaches. */
    private static SnapshotVault unreached() {
        SnapshotVault vault = Scenes.sentWithoutHead();
        Check.yes("drop in 0", vault.drop(0, 1));
        Check.yes("drop in 1", vault.drop(1, 1));
        return vault;
    }

    private static void sendGivesAllThatTheTipReaches() {
        Check.sentence("Promise 13: which holds all that the tip reaches from then on, and whose"
                + " branch of this number gets this tip");
        SnapshotVault vault = Scenes.joined();
        Check.due("commit", Check.save(vault, 0, 3, 9), 4);
        Check.due("send", vault.send(0, 2), 4);
        for (int commit = 0; commit < 4; commit++) {
            Check.yes("1 holds " + commit, vault.holds(1, commit));
        }
        Check.no("not what only another branch reaches", vault.holds(1, 4));
        Check.due("tip", vault.tip(1, 2), 3);
        Check.due("no other branch", vault.tip(1, 1), SnapshotVault.NONE);
        Check.due("no head", vault.tip(1, 0), SnapshotVault.NONE);
        Check.due("current", vault.current(1), 0);
        Check.due("working", vault.working(1, 0), SnapshotVault.NONE);
    }

    private static void sendAnswersWhatWasNotHeld() {
        Check.sentence("Promise 13: Answers how many commits it did not hold before");
        SnapshotVault vault = Scenes.joined();
        Check.due("two of four", vault.send(0, 1), 2);
        Check.due("the other two", vault.send(0, 2), 2);
        Check.due("none again", vault.send(0, 2), 0);
        Check.yes("drop in 1", vault.drop(1, 2));
        Check.due("held, though not reached", vault.send(0, 2), 0);
        Check.due("tip", vault.tip(1, 2), 3);
        Check.yes("drop in 1", vault.drop(1, 2));
        Check.due("collect in 1", vault.collect(1), 2);
        Check.due("not held any more", vault.send(0, 2), 2);
        Check.due("back, all is held", vault.send(1, 2), 0);
    }

    private static void sendAnswersForty() {
        Check.sentence("Promise 13: Answers how many commits it did not hold before");
        SnapshotVault vault = Scenes.full(new SnapshotVault());
        Check.yes("branch", vault.branch(1, 1));
        Check.due("send from 1 to 0 when full", vault.send(1, 1), 40);
        Check.due("tip", vault.tip(0, 1), 39);
        Check.due("commits", vault.commits(), 40);
        Check.due("checkout", vault.checkout(0, 1), 39);
    }

    private static void sendNeedsARepository() {
        Check.sentence("Promise 13: BAD when there is no such repository");
        for (int wrong : Check.NO_REPOSITORIES) {
            Check.refused("send from " + wrong, Scenes::fork, x -> x.send(wrong, 1),
                    SnapshotVault.BAD);
        }
    }

    private static void sendNeedsABranchNumber() {
        Check.sentence("Promise 13: BAD when there is no such .. branch number");
        for (int wrong : Check.NO_BRANCHES) {
            send("send of " + wrong, Scenes::fork, wrong, SnapshotVault.BAD);
            Check.refused("BAD before NONE", Scenes::fork, x -> x.send(1, wrong),
                    SnapshotVault.BAD);
        }
    }

    private static void sendNeedsABranchThatIsThere() {
        Check.sentence("Promise 13: NONE when the branch is not there");
        send("never there", Scenes::fork, 3, SnapshotVault.NONE);
        send("in the other one alone", CollectSendEdgeTest::goneHere, 1, SnapshotVault.NONE);
        Check.refused("NONE before DIRTY", Scenes::fork, x -> x.send(1, 0), SnapshotVault.NONE);
    }

    private static SnapshotVault goneHere() {
        SnapshotVault vault = Scenes.sentWithoutHead();
        Check.yes("drop in 0", vault.drop(0, 1));
        return vault;
    }

    private static void sendLeavesTheCurrentBranch() {
        Check.sentence("Promise 13: DIRTY when this branch is the current one of the other"
                + " repository");
        send("though not there", Scenes::fork, 0, SnapshotVault.DIRTY);
        send("with the same tip", CollectSendEdgeTest::checkedOut, 1, SnapshotVault.DIRTY);
        send("with an earlier tip", CollectSendEdgeTest::aheadHere, 1, SnapshotVault.DIRTY);
    }

    /** Branch 1 is sent to repository 1 and is its current one. */
    private static SnapshotVault checkedOut() {
        SnapshotVault vault = Scenes.sentWithoutHead();
        Check.due("checkout in 1", vault.checkout(1, 1), 2);
        return vault;
    }

    private static SnapshotVault aheadHere() {
        SnapshotVault vault = checkedOut();
        Check.due("checkout in 0", vault.checkout(0, 1), 2);
        Check.due("commit in 0", Check.save(vault, 0, 3, 1), 3);
        return vault;
    }

    private static void sendAsksForTheCurrentBranchAlone() {
        Check.sentence("Promise 13: DIRTY when this branch is the current one of the other"
                + " repository");
        SnapshotVault vault = checkedOut();
        Check.yes("write in 0", vault.write(0, 0, 1L, 1));
        Check.yes("write in 1", vault.write(1, 0, 2L, 1));
        Check.due("the sender's current one, both not clean", vault.send(0, 0), 1);
        Check.due("tip", vault.tip(1, 0), 1);
        Check.due("working of 0", vault.working(0, 0), Check.text(1));
        Check.due("working of 1", vault.working(1, 0), Check.text(2));
    }

    private static void sendDoesNotLoseWhatIsAhead() {
        Check.sentence("Promise 13: BEHIND when the branch is there in the other repository with a"
                + " tip that this one does not reach");
        send("theirs is ahead", CollectSendEdgeTest::aheadThere, 1, SnapshotVault.BEHIND);
        SnapshotVault vault = aheadThere();
        Check.due("the other way round", vault.send(1, 1), 1);
        Check.due("tip", vault.tip(0, 1), 3);
        Check.due("now the same", vault.send(0, 1), 0);
    }

    /** Branch 1 of repository 1 is one commit ahead of that of 0, and not current any more. */
    private static SnapshotVault aheadThere() {
        SnapshotVault vault = checkedOut();
        Check.due("commit in 1", Check.save(vault, 1, 3, 1), 3);
        Check.yes("branch", vault.branch(1, 2));
        Check.due("checkout in 1", vault.checkout(1, 2), 3);
        return vault;
    }

    private static void sendDoesNotLoseWhatIsBeside() {
        Check.sentence("Promise 13: BEHIND when the branch is there in the other repository with a"
                + " tip that this one does not reach");
        send("theirs is beside", CollectSendEdgeTest::besideThere, 1, SnapshotVault.BEHIND);
        send("theirs has another root", CollectSendEdgeTest::otherRoot, 1, SnapshotVault.BEHIND);
    }

    private static SnapshotVault besideThere() {
        SnapshotVault vault = Scenes.sentWithoutHead();
        Check.yes("drop in 0", vault.drop(0, 1));
        Check.yes("branch at commit 1", vault.branch(0, 1));
        return vault;
    }

    private static SnapshotVault otherRoot() {
        SnapshotVault vault = Scenes.fork();
        Check.due("a root in 1", Check.save(vault, 1, 0, 1, 2, 3), 3);
        Check.yes("branch", vault.branch(1, 1));
        return vault;
    }

    private static void sendOfTheSameTip() {
        Check.sentence("Promise 13: a tip that this one does not reach");
        send("the same tip", Scenes::sentWithoutHead, 1, 0);
        SnapshotVault vault = Scenes.sentWithoutHead();
        Check.due("checkout", vault.checkout(0, 1), 2);
        Check.due("merge", vault.merge(0, 0), 3);
        Check.due("a later tip", vault.send(0, 1), 2);
        Check.due("tip", vault.tip(1, 1), 3);
    }

    private static void sendWhereTheBranchIsNotThere() {
        Check.sentence("Promise 13: BEHIND when the branch is there in the other repository");
        SnapshotVault vault = besideThere();
        Check.yes("drop in 1", vault.drop(1, 1));
        Check.due("nothing to lose", vault.send(0, 1), 1);
        Check.due("tip", vault.tip(1, 1), 1);
        Check.yes("what it held it holds", vault.holds(1, 2));
    }

    private static void dirtyComesBeforeBehind() {
        Check.sentence("Promise 13: DIRTY when ..; BEHIND when ..");
        send("both", CollectSendEdgeTest::aheadAndCurrent, 1, SnapshotVault.DIRTY);
    }

    private static SnapshotVault aheadAndCurrent() {
        SnapshotVault vault = checkedOut();
        Check.due("commit in 1", Check.save(vault, 1, 3, 1), 3);
        return vault;
    }

    private static void holdsNeedsARepository() {
        Check.sentence("Promise 16: false when one of them is not there");
        for (int wrong : Check.NO_REPOSITORIES) {
            Check.denied("holds in " + wrong, Scenes::busy, x -> x.holds(wrong, 0));
        }
    }

    private static void holdsNeedsACommit() {
        Check.sentence("Promise 16: false when one of them is not there");
        for (int wrong : Check.NO_COMMITS) {
            Check.denied("holds " + wrong, Scenes::busy, x -> x.holds(0, wrong));
            Check.denied("holds " + wrong, CollectSendEdgeTest::allHeld, x -> x.holds(1, wrong));
        }
        Check.denied("the next number", Scenes::fork, x -> x.holds(0, 3));
        Check.denied("held by the other one", Scenes::fork, x -> x.holds(1, 0));
        Check.yes("the last number", allHeld().holds(1, 39));
    }

    /** Repository 1 holds all 40 commits. */
    private static SnapshotVault allHeld() {
        return Scenes.full(new SnapshotVault());
    }
}
