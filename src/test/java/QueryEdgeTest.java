/** The boundary cases of the promises 17, 18, 19 and 22, a test for each sentence. */
public final class QueryEdgeTest {
    public static void main(String[] args) {
        commitsCountsWhatWasMade();
        parentIsNoneWithoutOne();
        parentNeedsACommit();
        parentNeedsZeroOrOne();
        textTellsLinesAndTheirNumber();
        textIsNoneForNothing();
        textNeedsACommit();
        textNeedsAFile();
        textOfAForgottenCommit();
        baseOfACommitAndItself();
        baseIsNoneWithoutACommonCommit();
        baseIsReachedByNoOtherCommonOne();
        baseIsTheLowestNumber();
        baseNeedsBothCommits();
        Check.end();
    }

    private static void commitsCountsWhatWasMade() {
        Check.sentence("Promise 17: How many commits were made");
        Check.refused("none", SnapshotVault::new, x -> x.commits(), 0);
        Check.refused("four", Scenes::busy, x -> x.commits(), 4);
        Check.refused("forty", () -> Scenes.full(Scenes.fork()), x -> x.commits(), 40);
        SnapshotVault vault = Scenes.fork();
        Check.yes("drop", vault.drop(0, 1));
        Check.due("collect", vault.collect(0), 1);
        Check.due("forgotten ones count", vault.commits(), 3);
        Check.due("nothing to commit", vault.commit(0), SnapshotVault.NOTHING);
        Check.due("refused ones do not", vault.commits(), 3);
    }

    private static void parentIsNoneWithoutOne() {
        Check.sentence("Promise 18: NONE when it has none");
        Check.refused("a root's first", Scenes::busy, x -> x.parent(0, 0), SnapshotVault.NONE);
        Check.refused("a root's second", Scenes::busy, x -> x.parent(0, 1), SnapshotVault.NONE);
        Check.refused("a second", Scenes::busy, x -> x.parent(1, 1), SnapshotVault.NONE);
        Check.refused("the first is 0", Scenes::busy, x -> x.parent(1, 0), 0);
        Check.refused("a merge's first", Scenes::busy, x -> x.parent(3, 0), 1);
        Check.refused("a merge's second", Scenes::busy, x -> x.parent(3, 1), 2);
    }

    private static void parentNeedsACommit() {
        Check.sentence("Promise 18: BAD when no such commit was made");
        for (int wrong : Check.NO_COMMITS) {
            for (int k = 0; k < 2; k++) {
                int each = k;
                Check.refused("parent of " + wrong, Scenes::busy, x -> x.parent(wrong, each),
                        SnapshotVault.BAD);
            }
            Check.refused("in a full vault", () -> Scenes.full(new SnapshotVault()),
                    x -> x.parent(wrong, 0), SnapshotVault.BAD);
        }
        Check.refused("the next number", Scenes::busy, x -> x.parent(4, 0), SnapshotVault.BAD);
        Check.refused("the last number", Scenes::busy, x -> x.parent(39, 0), SnapshotVault.BAD);
        Check.refused("the last number, made", () -> Scenes.full(new SnapshotVault()),
                x -> x.parent(39, 0), 38);
    }

    private static void parentNeedsZeroOrOne() {
        Check.sentence("Promise 18: BAD when .. k is another number");
        for (int wrong : new int[] {-1, 2, 3, 256, 65536, 1 << 30, Integer.MAX_VALUE,
            Integer.MIN_VALUE}) {
            Check.refused("of a merge", Scenes::busy, x -> x.parent(3, wrong),
                    SnapshotVault.BAD);
            Check.refused("of a root", Scenes::busy, x -> x.parent(0, wrong),
                    SnapshotVault.BAD);
        }
    }

    private static void textTellsLinesAndTheirNumber() {
        Check.sentence("Promise 19: the number of its lines at the bits 32 and higher, and below"
                + " them the lines, the k-th at the four bits from 4 k on");
        SnapshotVault vault = new SnapshotVault();
        Check.put(vault, 0, 0);
        Check.put(vault, 0, 1, 0);
        Check.put(vault, 0, 2, 15, 15, 15, 15, 15, 15, 15, 15);
        Check.put(vault, 0, 3, 0, 1, 2, 3, 4, 5, 6, 8);
        Check.due("commit", vault.commit(0), 0);
        Check.due("no lines", vault.text(0, 0), 0L);
        Check.due("one line 0", vault.text(0, 1), 0x100000000L);
        Check.due("eight lines 15", vault.text(0, 2), 0x8FFFFFFFFL);
        Check.due("eight lines", vault.text(0, 3), 0x886543210L);
    }

    private static void textIsNoneForNothing() {
        Check.sentence("Promise 19: NONE when it has nothing for it");
        Check.refused("never there", Scenes::busy, x -> x.text(0, 1), SnapshotVault.NONE);
        SnapshotVault vault = Scenes.fork();
        Check.due("commit", Check.saveRemoved(vault, 0, 0), 3);
        Check.due("removed", vault.text(3, 0), SnapshotVault.NONE);
        Check.due("there before", vault.text(1, 0), Check.text(1, 2, 3));
    }

    private static void textNeedsACommit() {
        Check.sentence("Promise 19: BAD when no such commit was made");
        for (int wrong : Check.NO_COMMITS) {
            Check.refused("text of " + wrong, Scenes::busy, x -> x.text(wrong, 0),
                    SnapshotVault.BAD);
            Check.refused("in a full vault", () -> Scenes.full(new SnapshotVault()),
                    x -> x.text(wrong, 0), SnapshotVault.BAD);
        }
        Check.refused("the next number", Scenes::busy, x -> x.text(4, 0), SnapshotVault.BAD);
        Check.refused("the last number", Scenes::busy, x -> x.text(39, 0), SnapshotVault.BAD);
        Check.refused("the last number, made", () -> Scenes.full(new SnapshotVault()),
                x -> x.text(39, 0), Check.text(7, 2));
    }

    private static void textNeedsAFile() {
        Check.sentence("Promise 19: BAD when .. there is no such file");
        for (int wrong : Check.NO_FILES) {
            Check.refused("file " + wrong, Scenes::busy, x -> x.text(0, wrong),
                    SnapshotVault.BAD);
            Check.refused("file " + wrong, Scenes::busy, x -> x.text(3, wrong),
                    SnapshotVault.BAD);
        }
    }

    private static void textOfAForgottenCommit() {
        Check.sentence("Promise 19: BAD when no such commit was made");
        SnapshotVault vault = Scenes.fork();
        Check.yes("drop", vault.drop(0, 1));
        Check.due("collect", vault.collect(0), 1);
        Check.due("made, though forgotten", vault.text(2, 2), Check.text(6));
        Check.due("its parent", vault.parent(2, 0), 0);
        Check.due("its base", vault.base(2, 1), 0);
    }

    private static void baseOfACommitAndItself() {
        Check.sentence("Promise 22: The base of two commits");
        SnapshotVault vault = Scenes.busy();
        for (int commit = 0; commit < 4; commit++) {
            Check.due("with itself", vault.base(commit, commit), commit);
            Check.due("with its root", vault.base(commit, 0), 0);
            Check.due("with its root", vault.base(0, commit), 0);
        }
        Check.due("of the last two", Scenes.full(new SnapshotVault()).base(39, 38), 38);
    }

    private static void baseIsNoneWithoutACommonCommit() {
        Check.sentence("Promise 22: NONE when there is none");
        Check.refused("two roots", () -> Scenes.filled(Scenes.fork(), 5), x -> x.base(0, 3),
                SnapshotVault.NONE);
        Check.refused("later ones", () -> Scenes.filled(Scenes.fork(), 5), x -> x.base(4, 2),
                SnapshotVault.NONE);
    }

    private static void baseIsReachedByNoOtherCommonOne() {
        Check.sentence("The BASE of two commits: of those commits that both reach, the ones that no"
                + " other one of these reaches");
        SnapshotVault vault = Scenes.fork();
        Check.due("merge", vault.merge(0, 1), 3);
        Check.due("commit", Check.save(vault, 0, 3, 7), 4);
        Check.due("checkout", vault.checkout(0, 1), 2);
        Check.due("commit", Check.save(vault, 0, 3, 8), 5);
        Check.due("2 is reached by both, and 0 by 2", vault.base(4, 5), 2);
        Check.due("the other way round", vault.base(5, 4), 2);
        Check.due("one reaches the other", vault.base(1, 4), 1);
    }

    private static void baseIsTheLowestNumber() {
        Check.sentence("The BASE of two commits: .. the lowest number among them");
        SnapshotVault vault = Scenes.fork();
        Check.yes("branch", vault.branch(0, 2));
        Check.due("one merge of 1 and 2", vault.merge(0, 1), 3);
        Check.due("checkout", vault.checkout(0, 1), 2);
        Check.due("another merge of 2 and 1", vault.merge(0, 2), 4);
        Check.due("1 and 2 would do", vault.base(3, 4), 1);
        Check.due("1 and 2 would do", vault.base(4, 3), 1);
    }

    private static void baseNeedsBothCommits() {
        Check.sentence("Promise 22: BAD when one of them was not made");
        for (int wrong : Check.NO_COMMITS) {
            isBad(wrong, 0);
            isBad(0, wrong);
            isBad(wrong, wrong);
        }
        isBad(4, 0);
        isBad(3, 4);
        isBad(39, 39);
        Check.refused("in a full vault", () -> Scenes.full(new SnapshotVault()),
                x -> x.base(40, 39), SnapshotVault.BAD);
    }

    private static void isBad(int first, int second) {
        Check.refused("base of " + first + " and " + second, Scenes::busy,
                x -> x.base(first, second), SnapshotVault.BAD);
    }
}
