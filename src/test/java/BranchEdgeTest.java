/** The boundary cases of the promises 6, 7, 8, 14 and 15, a test for each sentence. */
public final class BranchEdgeTest {
    public static void main(String[] args) {
        branchGetsTheHead();
        branchNeedsARepository();
        branchNeedsABranchNumber();
        branchMustNotBeThere();
        branchNeedsAHead();
        dropTakesABranchAway();
        dropNeedsARepository();
        dropNeedsABranchThatIsThere();
        dropLeavesTheCurrentBranch();
        checkoutMovesAndAnswersTheTip();
        checkoutOfTheCurrentBranch();
        checkoutNeedsARepository();
        checkoutNeedsABranchNumber();
        checkoutNeedsABranchThatIsThere();
        checkoutNeedsACleanRepository();
        currentIsZeroAtFirst();
        currentNeedsARepository();
        tipOfABranchThatIsNotThere();
        tipNeedsRepositoryAndBranchNumber();
        Check.end();
    }

    private static void branchGetsTheHead() {
        Check.sentence("Promise 6: A branch that is not there gets the head as its tip: true");
        SnapshotVault vault = Scenes.busy();
        Check.yes("the last branch", vault.branch(0, 3));
        Check.due("its tip", vault.tip(0, 3), 3);
        Check.due("current stays", vault.current(0), 0);
        Check.due("not in 1", vault.tip(1, 3), SnapshotVault.NONE);
        SnapshotVault other = Scenes.fork();
        Check.due("checkout", other.checkout(0, 1), 2);
        Check.yes("drop", other.drop(0, 0));
        Check.yes("the first branch", other.branch(0, 0));
        Check.due("its tip", other.tip(0, 0), 2);
    }

    private static void branchNeedsARepository() {
        Check.sentence("Promise 6: False when there is no such repository");
        for (int wrong : Check.NO_REPOSITORIES) {
            Check.denied("branch in " + wrong, Scenes::busy, x -> x.branch(wrong, 3));
        }
    }

    private static void branchNeedsABranchNumber() {
        Check.sentence("Promise 6: False when there is no such .. branch");
        for (int wrong : Check.NO_BRANCHES) {
            Check.denied("branch " + wrong, Scenes::fork, x -> x.branch(0, wrong));
        }
    }

    private static void branchMustNotBeThere() {
        Check.sentence("Promise 6: False when .. it is there already");
        Check.denied("with another tip", Scenes::fork, x -> x.branch(0, 1));
        Check.denied("with the same tip", Scenes::joined, x -> x.branch(0, 2));
        Check.denied("the current one", Scenes::fork, x -> x.branch(0, 0));
    }

    private static void branchNeedsAHead() {
        Check.sentence("Promise 6: False when .. there is no head");
        for (int branch = 0; branch < 4; branch++) {
            int each = branch;
            Check.denied("branch " + branch, SnapshotVault::new, x -> x.branch(0, each));
            Check.denied("branch " + branch, Scenes::sentWithoutHead, x -> x.branch(1, each));
        }
    }

    private static void dropTakesABranchAway() {
        Check.sentence("Promise 7: The branch, if it is not the current one, is not there any"
                + " more: true");
        SnapshotVault vault = Scenes.busy();
        Check.yes("drop", vault.drop(0, 1));
        Check.due("tip", vault.tip(0, 1), SnapshotVault.NONE);
        Check.yes("its commit is held still", vault.holds(0, 2));
        Check.due("another branch", vault.tip(0, 2), 3);
        Check.due("in 1", vault.tip(1, 2), 3);
        Check.yes("drop without a head", vault.drop(1, 2));
        Check.due("tip", vault.tip(1, 2), SnapshotVault.NONE);
        SnapshotVault other = Scenes.fork();
        Check.due("checkout", other.checkout(0, 1), 2);
        Check.yes("drop of 0 when it is not current", other.drop(0, 0));
        Check.due("tip", other.tip(0, 0), SnapshotVault.NONE);
        Check.due("current", other.current(0), 1);
    }

    private static void dropNeedsARepository() {
        Check.sentence("Promise 7: False when there is no such repository");
        for (int wrong : Check.NO_REPOSITORIES) {
            Check.denied("drop in " + wrong, Scenes::busy, x -> x.drop(wrong, 2));
        }
    }

    private static void dropNeedsABranchThatIsThere() {
        Check.sentence("Promise 7: False when .. the branch is not there");
        for (int wrong : Check.NO_BRANCHES) {
            Check.denied("drop of " + wrong, Scenes::busy, x -> x.drop(0, wrong));
        }
        Check.denied("never there", Scenes::busy, x -> x.drop(0, 3));
        Check.denied("in the other one alone", Scenes::busy, x -> x.drop(1, 1));
        Check.denied("dropped already", BranchEdgeTest::dropped, x -> x.drop(0, 1));
    }

    private static SnapshotVault dropped() {
        SnapshotVault vault = Scenes.fork();
        Check.yes("drop", vault.drop(0, 1));
        return vault;
    }

    private static void dropLeavesTheCurrentBranch() {
        Check.sentence("Promise 7: False when .. the branch is .. the current one");
        Check.denied("the current one", Scenes::busy, x -> x.drop(0, 0));
        Check.denied("the current one, not there", Scenes::busy, x -> x.drop(1, 0));
        SnapshotVault vault = Scenes.fork();
        Check.due("checkout", vault.checkout(0, 1), 2);
        Check.no("another current one", vault.drop(0, 1));
        Check.due("tip", vault.tip(0, 1), 2);
    }

    private static void checkoutMovesAndAnswersTheTip() {
        Check.sentence("Promise 8: The branch becomes the current one, and the repository is moved"
                + " to its tip. Answers that");
        SnapshotVault vault = Scenes.fork();
        Check.due("checkout", vault.checkout(0, 1), 2);
        Check.due("current", vault.current(0), 1);
        Check.due("current of 1", vault.current(1), 0);
        for (int file = 0; file < 4; file++) {
            Check.due("working", vault.working(0, file), vault.text(2, file));
            Check.due("staged", vault.staged(0, file), vault.text(2, file));
        }
        Check.due("the tip that was left", vault.tip(0, 0), 1);
        Check.due("the tip 0 is an answer", Scenes.oneCommit().checkout(0, 1), 0);
        SnapshotVault other = Scenes.sentWithoutHead();
        Check.due("without a head", other.checkout(1, 1), 2);
        Check.due("current", other.current(1), 1);
        Check.due("0 is not there", other.tip(1, 0), SnapshotVault.NONE);
        Check.due("back is not possible", other.checkout(1, 0), SnapshotVault.NONE);
    }

    private static void checkoutOfTheCurrentBranch() {
        Check.sentence("Promise 8: The branch becomes the current one");
        Check.refused("the current one", Scenes::fork, x -> x.checkout(0, 0), 1);
    }

    private static void checkoutNeedsARepository() {
        Check.sentence("Promise 8: BAD when there is no such repository");
        for (int wrong : Check.NO_REPOSITORIES) {
            Check.refused("checkout in " + wrong, Scenes::busy, x -> x.checkout(wrong, 1),
                    SnapshotVault.BAD);
        }
    }

    private static void checkoutNeedsABranchNumber() {
        Check.sentence("Promise 8: BAD when there is no such .. branch number");
        for (int wrong : Check.NO_BRANCHES) {
            Check.refused("clean", Scenes::fork, x -> x.checkout(0, wrong), SnapshotVault.BAD);
            Check.refused("BAD before DIRTY", Scenes::busy, x -> x.checkout(0, wrong),
                    SnapshotVault.BAD);
        }
    }

    private static void checkoutNeedsABranchThatIsThere() {
        Check.sentence("Promise 8: NONE when the branch is not there");
        Check.refused("never there", Scenes::fork, x -> x.checkout(0, 3), SnapshotVault.NONE);
        Check.refused("dropped", BranchEdgeTest::dropped, x -> x.checkout(0, 1),
                SnapshotVault.NONE);
        Check.refused("the current one", Scenes::fork, x -> x.checkout(1, 0), SnapshotVault.NONE);
        Check.refused("in the other one alone", Scenes::fork, x -> x.checkout(1, 1),
                SnapshotVault.NONE);
        Check.refused("NONE before DIRTY", Scenes::busy, x -> x.checkout(0, 3),
                SnapshotVault.NONE);
        Check.refused("NONE before DIRTY", Scenes::busy, x -> x.checkout(1, 0),
                SnapshotVault.NONE);
    }

    private static void checkoutNeedsACleanRepository() {
        Check.sentence("Promise 8: DIRTY");
        for (int branch = 0; branch < 2; branch++) {
            int each = branch;
            Check.refused("working differs", () -> Scenes.unstaged(Scenes.fork()),
                    x -> x.checkout(0, each), SnapshotVault.DIRTY);
            Check.refused("the index differs", () -> Scenes.staged(Scenes.fork()),
                    x -> x.checkout(0, each), SnapshotVault.DIRTY);
        }
        Check.refused("without a head", Scenes::busy, x -> x.checkout(1, 2),
                SnapshotVault.DIRTY);
        SnapshotVault vault = Scenes.fork();
        Check.yes("write in 1", vault.write(1, 0, 1L, 1));
        Check.due("the other one is not asked", vault.checkout(0, 1), 2);
    }

    private static void currentIsZeroAtFirst() {
        Check.sentence("Promise 14: The current branch of a repository");
        SnapshotVault vault = Scenes.sentWithoutHead();
        Check.due("0, though not there", vault.current(1), 0);
        Check.yes("branch", vault.branch(0, 3));
        Check.due("checkout", vault.checkout(0, 3), 1);
        Check.due("the last one", vault.current(0), 3);
        Check.due("the other one's", vault.current(1), 0);
    }

    private static void currentNeedsARepository() {
        Check.sentence("Promise 14: BAD when there is no such repository");
        for (int wrong : Check.NO_REPOSITORIES) {
            Check.refused("current of " + wrong, Scenes::busy, x -> x.current(wrong),
                    SnapshotVault.BAD);
        }
    }

    private static void tipOfABranchThatIsNotThere() {
        Check.sentence("Promise 15: NONE when the branch is not there");
        Check.refused("never there", Scenes::busy, x -> x.tip(0, 3), SnapshotVault.NONE);
        Check.refused("the current one", Scenes::busy, x -> x.tip(1, 0), SnapshotVault.NONE);
        Check.refused("dropped", BranchEdgeTest::dropped, x -> x.tip(0, 1), SnapshotVault.NONE);
        Check.refused("there, with the tip 0", Scenes::oneCommit, x -> x.tip(0, 1), 0);
    }

    private static void tipNeedsRepositoryAndBranchNumber() {
        Check.sentence("Promise 15: BAD when there is no such repository or branch number");
        for (int wrong : Check.NO_REPOSITORIES) {
            Check.refused("tip in " + wrong, Scenes::busy, x -> x.tip(wrong, 0),
                    SnapshotVault.BAD);
        }
        for (int wrong : Check.NO_BRANCHES) {
            Check.refused("tip of " + wrong, Scenes::busy, x -> x.tip(0, wrong),
                    SnapshotVault.BAD);
        }
    }
}
