/** The boundary cases of the promises 1 to 5, 20 and 21, a test for each sentence. */
public final class StagingEdgeTest {
    private static final int[] NO_COUNTS = {-1, 9, 10, 16, 32, 64, 256, 1 << 30,
        Integer.MAX_VALUE, Integer.MIN_VALUE};

    public static void main(String[] args) {
        newObjectHasNoCommits();
        newObjectHasNoBranches();
        writeTakesFourBitsALine();
        writeLooksAtNoHigherBits();
        writeTakesNoneToEightLines();
        writeReplacesTheWholeText();
        writeNeedsARepository();
        writeNeedsAFile();
        writeNeedsACount();
        removeLeavesNothing();
        removeNeedsARepository();
        removeNeedsAFile();
        stageTakesWhatIsThere();
        stageNeedsARepository();
        stageNeedsAFile();
        commitHasNoParentWithoutAHead();
        commitHasTheHeadAsItsParent();
        commitIsHeldAndTheTip();
        commitNeedsARepository();
        commitNeedsAChange();
        commitNeedsRoom();
        commitAnswersNothingBeforeFull();
        workingAnswersNoneOrBad();
        stagedAnswersNoneOrBad();
        Check.end();
    }

    private static void newObjectHasNoCommits() {
        Check.sentence("Promise 1: No commits");
        SnapshotVault vault = new SnapshotVault();
        Check.due("commits", vault.commits(), 0);
        for (int commit : new int[] {-1, 0, 1, 39}) {
            Check.due("text", vault.text(commit, 0), SnapshotVault.BAD);
            Check.due("parent", vault.parent(commit, 0), SnapshotVault.BAD);
            Check.due("base", vault.base(commit, commit), SnapshotVault.BAD);
            Check.no("holds", vault.holds(0, commit) || vault.holds(1, commit));
            Check.refused("pick", SnapshotVault::new, x -> x.pick(0, commit), SnapshotVault.NONE);
        }
        Check.refused("commit", SnapshotVault::new, x -> x.commit(0), SnapshotVault.NOTHING);
        Check.refused("collect", SnapshotVault::new, x -> x.collect(1), 0);
    }

    private static void newObjectHasNoBranches() {
        Check.sentence("Promise 1: no branches");
        for (int k = 0; k < 8; k++) {
            int place = k / 4;
            int branch = k % 4;
            Check.due("tip", new SnapshotVault().tip(place, branch), SnapshotVault.NONE);
            Check.denied("branch", SnapshotVault::new, x -> x.branch(place, branch));
            Check.denied("drop", SnapshotVault::new, x -> x.drop(place, branch));
            isNone("checkout", x -> x.checkout(place, branch));
            isNone("merge", x -> x.merge(place, branch));
            isNone("rebase", x -> x.rebase(place, branch));
            isNone("send", x -> x.send(place, branch));
        }
    }

    private static void isNone(String what, java.util.function.ToLongFunction<SnapshotVault> call) {
        Check.refused(what, SnapshotVault::new, call, SnapshotVault.NONE);
    }

    private static void writeTakesFourBitsALine() {
        Check.sentence("Promise 2: the text of count lines whose k-th line (from 0) is lines / 16^k"
                + " modulo 16");
        SnapshotVault vault = new SnapshotVault();
        Check.yes("write", vault.write(0, 0, 0x80000000L, 8));
        Check.due("the highest bit of the last line", vault.working(0, 0), 0x880000000L);
        Check.yes("write", vault.write(0, 0, 0x76543210L, 8));
        Check.due("every line its own", vault.working(0, 0),
                Check.text(0, 1, 2, 3, 4, 5, 6, 7));
        Check.yes("write", vault.write(0, 0, -1L, 8));
        Check.due("every line 15", vault.working(0, 0),
                Check.text(15, 15, 15, 15, 15, 15, 15, 15));
        Check.yes("write", vault.write(0, 0, 0L, 8));
        Check.due("every line 0", vault.working(0, 0), Check.text(0, 0, 0, 0, 0, 0, 0, 0));
    }

    private static void writeLooksAtNoHigherBits() {
        Check.sentence("Promise 2: higher bits are not looked at");
        SnapshotVault vault = new SnapshotVault();
        for (int count = 0; count <= 8; count++) {
            Check.yes("write", vault.write(0, 0, -1L << 4 * count, count));
            Check.due("lines of 0", vault.working(0, 0), count * 4294967296L);
            Check.yes("write", vault.write(0, 0, -1L, count));
            Check.due("lines of 15", vault.working(0, 0),
                    count * 4294967296L + (1L << 4 * count) - 1);
        }
        Check.yes("write", vault.write(0, 0, Long.MIN_VALUE, 1));
        Check.due("one line 0", vault.working(0, 0), Check.text(0));
        Check.yes("write", vault.write(0, 0, Long.MAX_VALUE, 1));
        Check.due("one line 15", vault.working(0, 0), Check.text(15));
        Check.yes("stage", vault.stage(0, 0));
        Check.due("commit", vault.commit(0), 0);
        Check.yes("write", vault.write(0, 0, 15L, 1));
        Check.yes("stage", vault.stage(0, 0));
        Check.due("they make no difference", vault.commit(0), SnapshotVault.NOTHING);
    }

    private static void writeTakesNoneToEightLines() {
        Check.sentence("Promise 2: count is .. 0 .. 8");
        SnapshotVault vault = new SnapshotVault();
        Check.yes("no lines", vault.write(1, 3, 0x99999999L, 0));
        Check.due("no lines", vault.working(1, 3), 0);
        Check.yes("eight lines", vault.write(1, 3, 0x99999999L, 8));
        Check.due("eight lines", vault.working(1, 3), 0x899999999L);
    }

    private static void writeReplacesTheWholeText() {
        Check.sentence("Promise 2: The file has in the working snapshot the text of count lines");
        SnapshotVault vault = new SnapshotVault();
        Check.yes("long", vault.write(0, 1, 0x87654321L, 8));
        Check.yes("short", vault.write(0, 1, 0x0AL, 2));
        Check.due("nothing of the long one", vault.working(0, 1), Check.text(10, 0));
        for (int file = 0; file < 4; file++) {
            Check.due("not in the index", vault.staged(0, file), SnapshotVault.NONE);
            Check.due("not in repository 1", vault.working(1, file), SnapshotVault.NONE);
        }
        Check.due("not in file 0", vault.working(0, 0), SnapshotVault.NONE);
        Check.due("not in file 2", vault.working(0, 2), SnapshotVault.NONE);
    }

    private static void writeNeedsARepository() {
        Check.sentence("Promise 2: False when there is no such repository");
        for (int wrong : Check.NO_REPOSITORIES) {
            Check.denied("write in " + wrong, Scenes::busy, x -> x.write(wrong, 0, 1L, 1));
        }
    }

    private static void writeNeedsAFile() {
        Check.sentence("Promise 2: False when there is no such .. file");
        for (int wrong : Check.NO_FILES) {
            Check.denied("write of " + wrong, Scenes::busy, x -> x.write(0, wrong, 1L, 1));
            Check.denied("write of " + wrong, Scenes::busy, x -> x.write(1, wrong, 1L, 1));
        }
    }

    private static void writeNeedsACount() {
        Check.sentence("Promise 2: False when .. count is not 0 .. 8");
        for (int wrong : NO_COUNTS) {
            Check.denied(wrong + " lines", Scenes::busy, x -> x.write(0, 0, 1L, wrong));
        }
    }

    private static void removeLeavesNothing() {
        Check.sentence("Promise 3: The working snapshot has nothing for the file: true");
        SnapshotVault vault = Scenes.fork();
        Check.yes("of a text", vault.remove(0, 0));
        Check.due("nothing", vault.working(0, 0), SnapshotVault.NONE);
        Check.due("still in the index", vault.staged(0, 0), Check.text(1, 2, 3));
        Check.due("another file", vault.working(0, 1), Check.text(5));
        Check.yes("of nothing", vault.remove(0, 0));
        Check.due("nothing", vault.working(0, 0), SnapshotVault.NONE);
        Check.yes("write", vault.write(0, 3, 0L, 0));
        Check.yes("of a text without lines", vault.remove(0, 3));
        Check.due("nothing", vault.working(0, 3), SnapshotVault.NONE);
    }

    private static void removeNeedsARepository() {
        Check.sentence("Promise 3: False when there is no such repository");
        for (int wrong : Check.NO_REPOSITORIES) {
            Check.denied("remove in " + wrong, Scenes::busy, x -> x.remove(wrong, 0));
        }
    }

    private static void removeNeedsAFile() {
        Check.sentence("Promise 3: False when there is no such .. file");
        for (int wrong : Check.NO_FILES) {
            Check.denied("remove of " + wrong, Scenes::busy, x -> x.remove(0, wrong));
            Check.denied("remove of " + wrong, Scenes::busy, x -> x.remove(1, wrong));
        }
    }

    private static void stageTakesWhatIsThere() {
        Check.sentence("Promise 4: The index has for the file what the working snapshot has: true");
        SnapshotVault vault = Scenes.fork();
        Check.yes("of what is staged", vault.stage(0, 0));
        Check.due("the same", vault.staged(0, 0), Check.text(1, 2, 3));
        Check.yes("write", vault.write(0, 0, 0L, 0));
        Check.yes("of a text without lines", vault.stage(0, 0));
        Check.due("no lines", vault.staged(0, 0), 0);
        Check.yes("remove", vault.remove(0, 0));
        Check.yes("of nothing", vault.stage(0, 0));
        Check.due("nothing", vault.staged(0, 0), SnapshotVault.NONE);
        Check.yes("of nothing again", vault.stage(0, 0));
        Check.due("nothing", vault.staged(0, 0), SnapshotVault.NONE);
        Check.yes("write", vault.write(0, 2, 0xFFFFFFFFL, 8));
        Check.yes("of eight lines", vault.stage(0, 2));
        Check.due("eight lines", vault.staged(0, 2), 0x8FFFFFFFFL);
        Check.due("another file", vault.staged(0, 1), Check.text(5));
        Check.due("another repository", vault.staged(1, 2), SnapshotVault.NONE);
    }

    private static void stageNeedsARepository() {
        Check.sentence("Promise 4: False when there is no such repository");
        for (int wrong : Check.NO_REPOSITORIES) {
            Check.denied("stage in " + wrong, Scenes::busy, x -> x.stage(wrong, 0));
        }
    }

    private static void stageNeedsAFile() {
        Check.sentence("Promise 4: False when there is no such .. file");
        for (int wrong : Check.NO_FILES) {
            Check.denied("stage of " + wrong, Scenes::busy, x -> x.stage(0, wrong));
            Check.denied("stage of " + wrong, Scenes::busy, x -> x.stage(1, wrong));
        }
    }

    private static void commitHasNoParentWithoutAHead() {
        Check.sentence("Promise 5: the head as its parent (none without a head)");
        SnapshotVault vault = Scenes.fork();
        Check.due("commit in 1", Check.save(vault, 1, 0, 1), 3);
        Check.due("first parent", vault.parent(3, 0), SnapshotVault.NONE);
        Check.due("second parent", vault.parent(3, 1), SnapshotVault.NONE);
        for (int commit = 0; commit < 3; commit++) {
            Check.due("base", vault.base(3, commit), SnapshotVault.NONE);
        }
    }

    private static void commitHasTheHeadAsItsParent() {
        Check.sentence("Promise 5: with the index as its snapshot and the head as its parent");
        SnapshotVault vault = Scenes.fork();
        Check.put(vault, 0, 3);
        Check.yes("write", vault.write(0, 3, 1L, 1));
        Check.yes("write", vault.write(0, 0, 1L, 1));
        Check.due("commit", vault.commit(0), 3);
        Check.due("first parent", vault.parent(3, 0), 1);
        Check.due("second parent", vault.parent(3, 1), SnapshotVault.NONE);
        Check.due("the index, not the working snapshot", vault.text(3, 3), 0);
        Check.due("the index, not the working snapshot", vault.text(3, 0), Check.text(1, 2, 3));
        Check.due("working stays", vault.working(0, 3), Check.text(1));
        Check.due("working stays", vault.working(0, 0), Check.text(1));
    }

    private static void commitIsHeldAndTheTip() {
        Check.sentence("Promise 5: it is held, and is the tip of the current branch");
        SnapshotVault vault = Scenes.fork();
        Check.due("checkout", vault.checkout(0, 1), 2);
        Check.due("commit", Check.save(vault, 0, 0, 9), 3);
        Check.due("tip of the current branch", vault.tip(0, 1), 3);
        Check.due("tip of another one", vault.tip(0, 0), 1);
        Check.due("no tip", vault.tip(0, 2), SnapshotVault.NONE);
        Check.due("no tip in 1", vault.tip(1, 1), SnapshotVault.NONE);
        Check.yes("held", vault.holds(0, 3));
        Check.no("not in 1", vault.holds(1, 3));
    }

    private static void commitNeedsARepository() {
        Check.sentence("Promise 5: BAD when there is no such repository");
        for (int wrong : Check.NO_REPOSITORIES) {
            Check.refused("commit in " + wrong, Scenes::busy, x -> x.commit(wrong),
                    SnapshotVault.BAD);
            Check.refused("BAD before FULL", () -> Scenes.full(Scenes.unstaged(Scenes.fork())),
                    x -> x.commit(wrong), SnapshotVault.BAD);
        }
    }

    private static void commitNeedsAChange() {
        Check.sentence("Promise 5: NOTHING when the index is the same as the head's snapshot");
        Check.refused("clean", Scenes::fork, x -> x.commit(0), SnapshotVault.NOTHING);
        Check.refused("no head", Scenes::fork, x -> x.commit(1), SnapshotVault.NOTHING);
        Check.refused("written, not staged", () -> Scenes.unstaged(Scenes.fork()),
                x -> x.commit(0), SnapshotVault.NOTHING);
        SnapshotVault vault = Scenes.fork();
        Check.due("something", Check.save(vault, 0, 0, 7), 3);
        Check.due("what an earlier commit had", Check.save(vault, 0, 0, 1, 2, 3), 4);
        Check.due("its parent", vault.parent(4, 0), 3);
    }

    private static void commitNeedsRoom() {
        Check.sentence("Promise 5: FULL");
        Check.refused("with a head", () -> Scenes.full(Scenes.staged(Scenes.fork())),
                x -> x.commit(0), SnapshotVault.FULL);
        Check.refused("without a head", StagingEdgeTest::fullWithoutHead,
                x -> x.commit(0), SnapshotVault.FULL);
        SnapshotVault vault = Scenes.filled(Scenes.fork(), 39);
        Check.due("the last one", Check.save(vault, 0, 0, 1), 39);
        Check.due("tip", vault.tip(0, 0), 39);
        Check.due("one too many", Check.save(vault, 0, 0, 2), SnapshotVault.FULL);
        Check.due("tip", vault.tip(0, 0), 39);
    }

    private static SnapshotVault fullWithoutHead() {
        SnapshotVault vault = Scenes.full(new SnapshotVault());
        Check.put(vault, 0, 0, 1);
        return vault;
    }

    private static void commitAnswersNothingBeforeFull() {
        Check.sentence("Promise 5: NOTHING when ..; FULL");
        Check.refused("clean", () -> Scenes.full(Scenes.fork()), x -> x.commit(0),
                SnapshotVault.NOTHING);
        Check.refused("no head", () -> Scenes.full(new SnapshotVault()), x -> x.commit(0),
                SnapshotVault.NOTHING);
    }

    private static void workingAnswersNoneOrBad() {
        Check.sentence("Promise 20: likewise; BAD when there is no such repository or file");
        Check.refused("a text", Scenes::busy, x -> x.working(0, 3), Check.text(4));
        Check.refused("no lines", Scenes::busy, x -> x.working(1, 3), 0);
        Check.refused("nothing", Scenes::busy, x -> x.working(1, 1), SnapshotVault.NONE);
        for (int wrong : Check.NO_REPOSITORIES) {
            Check.refused("working of " + wrong, Scenes::busy, x -> x.working(wrong, 0),
                    SnapshotVault.BAD);
        }
        for (int wrong : Check.NO_FILES) {
            Check.refused("working of file " + wrong, Scenes::busy, x -> x.working(0, wrong),
                    SnapshotVault.BAD);
        }
    }

    private static void stagedAnswersNoneOrBad() {
        Check.sentence("Promise 21: likewise; BAD when there is no such repository or file");
        Check.refused("a text", Scenes::busy, x -> x.staged(1, 0), Check.text(9));
        Check.refused("nothing", Scenes::busy, x -> x.staged(1, 3), SnapshotVault.NONE);
        SnapshotVault vault = new SnapshotVault();
        Check.put(vault, 0, 3);
        Check.due("no lines", vault.staged(0, 3), 0);
        for (int wrong : Check.NO_REPOSITORIES) {
            Check.refused("staged of " + wrong, Scenes::busy, x -> x.staged(wrong, 0),
                    SnapshotVault.BAD);
        }
        for (int wrong : Check.NO_FILES) {
            Check.refused("staged of file " + wrong, Scenes::busy, x -> x.staged(0, wrong),
                    SnapshotVault.BAD);
        }
    }
}
