/** The boundary cases that 'What it is' and 'Terms' name, a test for each sentence. */
public final class TermsEdgeTest {
    public static void main(String[] args) {
        lastOf512Calls();
        dearestCallsFor512Calls();
        textHasNoneToEightLines();
        lineIsZeroToFifteen();
        filesAreZeroToThree();
        emptySnapshotHasNothingForAll();
        snapshotsAreComparedInEveryFile();
        emptyTextIsNotNothingInTheIndex();
        emptyTextIsNotNothingInTheWorkingSnapshot();
        emptyTextIsNotNothingForPick();
        commitsAreNumberedInBothTogether();
        refusedCallsTakeNoNumber();
        thereAreFortyCommits();
        commitHasNoOneOrTwoParents();
        commitReachesItself();
        commitReachesBothParents();
        commitReachesThroughFortyCommits();
        repositoriesAreZeroAndOne();
        branchesAreZeroToThree();
        allIsEmptyAtFirst();
        thereIsNoHeadAtFirst();
        headSnapshotIsEmptyWithoutAHead();
        cleanNeedsTheWorkingSnapshot();
        cleanNeedsTheIndex();
        cleanNeedsBothToBeTheHeads();
        moveChangesTipWorkingAndIndex();
        Check.end();
    }

    private static void lastOf512Calls() {
        Check.sentence("An object is used for at most 512 calls after it has been made");
        SnapshotVault vault = new SnapshotVault();
        for (int call = 1; call <= 509; call++) {
            Check.yes("call " + call, vault.write(call % 2, call % 4, call, call % 9));
        }
        Check.yes("call 510", vault.write(1, 3, 0x21L, 2));
        Check.yes("call 511", vault.stage(1, 3));
        Check.due("call 512", vault.commit(1), 0);
    }

    private static void dearestCallsFor512Calls() {
        Check.sentence("An object is used for at most 512 calls after it has been made");
        SnapshotVault vault = Scenes.clashingFork();
        for (int k = 0; k < 160; k++) {
            Check.due("merge " + k, vault.merge(0, 1), SnapshotVault.CLASH);
            Check.due("pick " + k, vault.pick(0, 2), SnapshotVault.CLASH);
            Check.due("rebase " + k, vault.rebase(0, 1), SnapshotVault.CLASH);
        }
        Check.due("commits", vault.commits(), 3);
    }

    private static void textHasNoneToEightLines() {
        Check.sentence("A TEXT is a row of 0 to 8 lines");
        SnapshotVault vault = new SnapshotVault();
        for (int count = 0; count <= 8; count++) {
            Check.yes("write of " + count, vault.write(0, 0, 0x11111111L, count));
            Check.due("lines", vault.working(0, 0) >> 32, count);
        }
        Check.denied("-1 lines", SnapshotVault::new, x -> x.write(0, 0, 0x11L, -1));
        Check.denied("9 lines", SnapshotVault::new, x -> x.write(0, 0, 0x111111111L, 9));
    }

    private static void lineIsZeroToFifteen() {
        Check.sentence("a line is a number 0 .. 15");
        SnapshotVault vault = new SnapshotVault();
        for (int k = 0; k < 8; k++) {
            for (int line = 0; line < 16; line++) {
                long lines = (long) line << 4 * k;
                Check.yes("write of line " + line, vault.write(0, 2, lines, k + 1));
                Check.due("line " + k, vault.working(0, 2), (k + 1) * 4294967296L + lines);
            }
        }
    }

    private static void filesAreZeroToThree() {
        Check.sentence("A SNAPSHOT has for each of the FILES 0 .. 3 a text or nothing");
        SnapshotVault vault = new SnapshotVault();
        for (int file = 0; file < 4; file++) {
            Check.put(vault, 0, file, file + 1, file + 2);
        }
        Check.due("commit", vault.commit(0), 0);
        for (int file = 0; file < 4; file++) {
            Check.due("file " + file, vault.text(0, file), Check.text(file + 1, file + 2));
        }
        Check.denied("file -1", Scenes::fork, x -> x.write(0, -1, 1L, 1));
        Check.denied("file 4", Scenes::fork, x -> x.write(0, 4, 1L, 1));
        Check.refused("file -1", Scenes::fork, x -> x.text(0, -1), SnapshotVault.BAD);
        Check.refused("file 4", Scenes::fork, x -> x.text(0, 4), SnapshotVault.BAD);
    }

    private static void emptySnapshotHasNothingForAll() {
        Check.sentence("the EMPTY snapshot has nothing for all");
        SnapshotVault vault = new SnapshotVault();
        Check.due("commit", Check.save(vault, 0, 1, 1), 0);
        Check.due("a commit of the empty snapshot", Check.saveRemoved(vault, 0, 1), 1);
        for (int file = 0; file < 4; file++) {
            Check.due("file " + file, vault.text(1, file), SnapshotVault.NONE);
        }
        Check.due("the same again", vault.commit(0), SnapshotVault.NOTHING);
    }

    private static void snapshotsAreComparedInEveryFile() {
        Check.sentence("Two snapshots are the same when they have the same for every file");
        for (int file = 0; file < 4; file++) {
            SnapshotVault vault = new SnapshotVault();
            for (int each = 0; each < 4; each++) {
                Check.put(vault, 0, each, 1, 2);
            }
            Check.due("commit", vault.commit(0), 0);
            Check.due("all the same", vault.commit(0), SnapshotVault.NOTHING);
            Check.due("file " + file + " differs", Check.save(vault, 0, file, 1, 3), 1);
            Check.due("one line more", Check.save(vault, 0, file, 1, 3, 0), 2);
            Check.due("no lines", Check.save(vault, 0, file), 3);
            Check.due("nothing", Check.saveRemoved(vault, 0, file), 4);
            Check.due("nothing again", Check.saveRemoved(vault, 0, file), SnapshotVault.NOTHING);
        }
    }

    private static void emptyTextIsNotNothingInTheIndex() {
        Check.sentence("a text without lines is not nothing");
        for (int file = 0; file < 4; file++) {
            SnapshotVault vault = new SnapshotVault();
            Check.due("commit of an empty text without a head", Check.save(vault, 0, file), 0);
            Check.due("text", vault.text(0, file), 0);
            Check.due("the same again", Check.save(vault, 0, file), SnapshotVault.NOTHING);
            Check.due("commit of nothing", Check.saveRemoved(vault, 0, file), 1);
            Check.due("text", vault.text(1, file), SnapshotVault.NONE);
            Check.due("commit of an empty text", Check.save(vault, 0, file), 2);
        }
    }

    private static void emptyTextIsNotNothingInTheWorkingSnapshot() {
        Check.sentence("a text without lines is not nothing");
        SnapshotVault vault = Scenes.oneCommit();
        for (int file = 1; file < 4; file++) {
            Check.yes("write", vault.write(0, file, 0L, 0));
            Check.due("empty, not nothing", vault.checkout(0, 1), SnapshotVault.DIRTY);
            Check.yes("remove", vault.remove(0, file));
            Check.due("clean", vault.checkout(0, 0), 0);
        }
        Check.due("commit", Check.save(vault, 0, 1), 1);
        Check.yes("remove", vault.remove(0, 1));
        Check.due("nothing, not empty", vault.checkout(0, 1), SnapshotVault.DIRTY);
        Check.yes("write", vault.write(0, 1, 0L, 0));
        Check.due("clean", vault.checkout(0, 1), 0);
    }

    private static void emptyTextIsNotNothingForPick() {
        Check.sentence("a text without lines is not nothing");
        SnapshotVault vault = Scenes.oneCommit();
        Check.due("commit of an empty text", Check.save(vault, 0, 1), 1);
        Check.due("checkout", vault.checkout(0, 1), 0);
        Check.due("pick is not NOTHING", vault.pick(0, 1), 2);
        Check.due("text", vault.text(2, 1), 0);
    }

    private static void commitsAreNumberedInBothTogether() {
        Check.sentence("COMMITS are numbered 0, 1, .. in the order in which they are made in both"
                + " repositories together");
        SnapshotVault vault = Scenes.fork();
        Check.due("commit in 1", Check.save(vault, 1, 0, 1), 3);
        Check.due("merge in 0", vault.merge(0, 1), 4);
        Check.due("commit in 1", Check.save(vault, 1, 0, 2), 5);
        Check.due("checkout", vault.checkout(0, 1), 2);
        Check.due("pick in 0", vault.pick(0, 1), 6);
        Check.due("commit in 1", Check.save(vault, 1, 0, 3), 7);
        Check.due("commit in 0", Check.save(vault, 0, 3, 3), 8);
        Check.due("rebase in 0", vault.rebase(0, 0), 1);
        Check.due("the rebased commit", vault.tip(0, 1), 9);
        Check.due("commit in 1", Check.save(vault, 1, 0, 4), 10);
        Check.due("commits", vault.commits(), 11);
    }

    private static void refusedCallsTakeNoNumber() {
        Check.sentence("a refused call changes nothing");
        SnapshotVault vault = Scenes.clashingFork();
        Check.due("merge", vault.merge(0, 1), SnapshotVault.CLASH);
        Check.due("pick", vault.pick(0, 2), SnapshotVault.CLASH);
        Check.due("rebase", vault.rebase(0, 1), SnapshotVault.CLASH);
        Check.due("pick", vault.pick(0, 1), SnapshotVault.NOTHING);
        Check.due("commit", vault.commit(0), SnapshotVault.NOTHING);
        Check.due("commit", vault.commit(2), SnapshotVault.BAD);
        Check.due("the next number, in 1", Check.save(vault, 1, 0, 1), 3);
        Check.no("held in 1 alone", vault.holds(0, 3));
        Check.due("the next number, in 0", Check.save(vault, 0, 3, 1), 4);
        Check.no("held in 0 alone", vault.holds(1, 4));
    }

    private static void thereAreFortyCommits() {
        Check.sentence("COMMITS are numbered 0, 1, .., at most 40");
        SnapshotVault vault = Scenes.filled(new SnapshotVault(), 39);
        Check.due("the last one", Check.save(vault, 1, 1, 1), 39);
        Check.due("its text", vault.text(39, 1), Check.text(1));
        Check.due("its parent", vault.parent(39, 0), 38);
        Check.yes("it is held", vault.holds(1, 39));
        Check.due("its base with the first one", vault.base(39, 0), 0);
        Check.due("one too many", Check.save(vault, 1, 1, 2), SnapshotVault.FULL);
        Check.due("commits", vault.commits(), 40);
        Check.due("text", vault.text(40, 1), SnapshotVault.BAD);
    }

    private static void commitHasNoOneOrTwoParents() {
        Check.sentence("a commit has a snapshot and no, one or two parents");
        SnapshotVault vault = Scenes.joined();
        int[][] want = {{SnapshotVault.NONE, SnapshotVault.NONE}, {0, SnapshotVault.NONE},
            {0, SnapshotVault.NONE}, {1, 2}};
        for (int commit = 0; commit < want.length; commit++) {
            Check.due("first parent", vault.parent(commit, 0), want[commit][0]);
            Check.due("second parent", vault.parent(commit, 1), want[commit][1]);
        }
    }

    private static void commitReachesItself() {
        Check.sentence("A commit REACHES itself");
        Check.refused("merge of itself", Scenes::fork, x -> x.merge(0, 0), SnapshotVault.NOTHING);
        SnapshotVault vault = Scenes.fork();
        Check.due("base with itself", vault.base(2, 2), 2);
        Check.due("send", vault.send(0, 1), 2);
        Check.due("send of the same tip is not behind", vault.send(0, 1), 0);
        Check.due("the tip is kept", vault.collect(0), 0);
        Check.yes("it holds the tip", vault.holds(0, 2));
    }

    private static void commitReachesBothParents() {
        Check.sentence("A commit REACHES .. its parents, and what these reach");
        SnapshotVault vault = Scenes.joined();
        Check.due("base with the first parent", vault.base(3, 1), 1);
        Check.due("base with the second parent", vault.base(3, 2), 2);
        Check.due("base with theirs", vault.base(0, 3), 0);
        Check.due("merge of the second parent", vault.merge(0, 1), SnapshotVault.NOTHING);
        Check.yes("drop", vault.drop(0, 1));
        Check.due("both are kept", vault.collect(0), 0);
        Check.due("both are sent", vault.send(0, 2), 4);
    }

    private static void commitReachesThroughFortyCommits() {
        Check.sentence("A commit REACHES .. what these reach");
        SnapshotVault vault = Scenes.full(new SnapshotVault());
        Check.yes("branch", vault.branch(1, 3));
        Check.due("send of all", vault.send(1, 3), 40);
        Check.due("base", vault.base(39, 0), 0);
        Check.due("base", vault.base(38, 39), 38);
        Check.yes("the first one", vault.holds(0, 0));
        Check.yes("the last one", vault.holds(0, 39));
        Check.yes("drop", vault.drop(0, 3));
        Check.due("all are forgotten", vault.collect(0), 40);
    }

    private static void repositoriesAreZeroAndOne() {
        Check.sentence("REPOSITORIES 0 and 1");
        SnapshotVault vault = new SnapshotVault();
        Check.yes("write in 0", vault.write(0, 0, 1L, 1));
        Check.yes("write in 1", vault.write(1, 0, 2L, 1));
        Check.due("working of 0", vault.working(0, 0), Check.text(1));
        Check.due("working of 1", vault.working(1, 0), Check.text(2));
        Check.denied("write in -1", Scenes::busy, x -> x.write(-1, 0, 1L, 1));
        Check.denied("write in 2", Scenes::busy, x -> x.write(2, 0, 1L, 1));
    }

    private static void branchesAreZeroToThree() {
        Check.sentence("each .. has the BRANCHES 0 .. 3");
        SnapshotVault vault = Scenes.fork();
        Check.yes("branch 2", vault.branch(0, 2));
        Check.yes("branch 3", vault.branch(0, 3));
        int[] want = {1, 2, 1, 1};
        for (int branch = 0; branch < 4; branch++) {
            Check.due("tip of " + branch, vault.tip(0, branch), want[branch]);
            Check.due("tip of " + branch + " in 1", vault.tip(1, branch), SnapshotVault.NONE);
        }
        Check.denied("branch -1", Scenes::busy, x -> x.branch(0, -1));
        Check.denied("branch 4", Scenes::busy, x -> x.branch(0, 4));
    }

    private static void allIsEmptyAtFirst() {
        Check.sentence("has a CURRENT branch (0 at first), a WORKING snapshot and an INDEX .."
                + " (all empty at first)");
        SnapshotVault vault = new SnapshotVault();
        for (int repository = 0; repository < 2; repository++) {
            Check.due("current", vault.current(repository), 0);
            for (int file = 0; file < 4; file++) {
                Check.due("working", vault.working(repository, file), SnapshotVault.NONE);
                Check.due("staged", vault.staged(repository, file), SnapshotVault.NONE);
                Check.no("holds", vault.holds(repository, file));
            }
        }
    }

    private static void thereIsNoHeadAtFirst() {
        Check.sentence("The HEAD is .. none when that is not there");
        Check.denied("branch", Scenes::sentWithoutHead, x -> x.branch(1, 2));
        Check.refused("merge", Scenes::sentWithoutHead, x -> x.merge(1, 1), SnapshotVault.NONE);
        Check.refused("pick", Scenes::sentWithoutHead, x -> x.pick(1, 2), SnapshotVault.NONE);
        Check.refused("rebase", Scenes::sentWithoutHead, x -> x.rebase(1, 1), SnapshotVault.NONE);
        SnapshotVault vault = Scenes.sentWithoutHead();
        Check.due("commit", Check.save(vault, 1, 0, 1), 3);
        Check.due("its parent", vault.parent(3, 0), SnapshotVault.NONE);
        Check.due("it is the head", vault.tip(1, 0), 3);
        Check.yes("branch with a head", vault.branch(1, 2));
    }

    private static void headSnapshotIsEmptyWithoutAHead() {
        Check.sentence("The head's snapshot is the empty one when there is no head");
        Check.refused("commit", Scenes::sentWithoutHead, x -> x.commit(1), SnapshotVault.NOTHING);
        SnapshotVault vault = Scenes.sentWithoutHead();
        Check.yes("write", vault.write(1, 0, 0L, 0));
        Check.due("not clean", vault.checkout(1, 1), SnapshotVault.DIRTY);
        Check.yes("stage", vault.stage(1, 0));
        Check.yes("remove", vault.remove(1, 0));
        Check.due("not clean, the index alone", vault.checkout(1, 1), SnapshotVault.DIRTY);
        Check.yes("stage", vault.stage(1, 0));
        Check.due("clean", vault.checkout(1, 1), 2);
    }

    private static void cleanNeedsTheWorkingSnapshot() {
        Check.sentence("CLEAN when its working snapshot .. the same as its head's snapshot");
        for (int file = 0; file < 4; file++) {
            SnapshotVault vault = Scenes.fork();
            long before = vault.working(0, file);
            Check.yes("write", vault.write(0, file, 0xFEL, 2));
            eachIsDirty(vault);
            restore(vault, file, before);
            Check.due("clean again", vault.checkout(0, 1), 2);
        }
    }

    private static void cleanNeedsTheIndex() {
        Check.sentence("CLEAN when .. its index .. the same as its head's snapshot");
        for (int file = 0; file < 4; file++) {
            SnapshotVault vault = Scenes.fork();
            long before = vault.working(0, file);
            Check.put(vault, 0, file, 14, 15);
            restore(vault, file, before);
            eachIsDirty(vault);
            Check.yes("stage", vault.stage(0, file));
            Check.due("clean again", vault.checkout(0, 1), 2);
        }
    }

    private static void cleanNeedsBothToBeTheHeads() {
        Check.sentence("CLEAN when its working snapshot and its index are both the same as its"
                + " head's snapshot");
        for (int file = 0; file < 4; file++) {
            SnapshotVault vault = Scenes.fork();
            Check.put(vault, 0, file, 14, 15);
            eachIsDirty(vault);
            Check.due("commit", vault.commit(0), 3);
            Check.due("clean by a commit", vault.checkout(0, 1), 2);
        }
    }

    private static void eachIsDirty(SnapshotVault vault) {
        String before = Check.state(vault);
        Check.due("checkout", vault.checkout(0, 1), SnapshotVault.DIRTY);
        Check.due("checkout of the current one", vault.checkout(0, 0), SnapshotVault.DIRTY);
        Check.due("merge", vault.merge(0, 1), SnapshotVault.DIRTY);
        Check.due("pick", vault.pick(0, 2), SnapshotVault.DIRTY);
        Check.due("rebase", vault.rebase(0, 1), SnapshotVault.DIRTY);
        Check.same("after DIRTY", Check.state(vault), before);
    }

    private static void restore(SnapshotVault vault, int file, long text) {
        if (text == SnapshotVault.NONE) {
            Check.yes("remove", vault.remove(0, file));
        } else {
            Check.yes("write", vault.write(0, file, text, (int) (text >> 32)));
        }
    }

    private static void moveChangesTipWorkingAndIndex() {
        Check.sentence("that is the tip of the current branch from then on, and working snapshot"
                + " and index become its snapshot");
        SnapshotVault vault = Scenes.fork();
        Check.due("merge", vault.merge(0, 1), 3);
        Check.due("tip", vault.tip(0, 0), 3);
        Check.due("the other tip", vault.tip(0, 1), 2);
        for (int file = 0; file < 4; file++) {
            Check.due("working", vault.working(0, file), vault.text(3, file));
            Check.due("staged", vault.staged(0, file), vault.text(3, file));
        }
        Check.due("file 2 has come", vault.working(0, 2), Check.text(6));
        Check.due("back", vault.checkout(0, 1), 2);
        Check.due("file 1 has gone", vault.working(0, 1), SnapshotVault.NONE);
        Check.due("file 1 has gone", vault.staged(0, 1), SnapshotVault.NONE);
    }
}
