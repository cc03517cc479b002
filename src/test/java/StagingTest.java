/** Promises 1 to 5, 20 and 21: a new object, write, remove, stage, commit, working, staged. */
public final class StagingTest {
    private static final int[] NO_REPOSITORIES = {-1, 2, Integer.MIN_VALUE, Integer.MAX_VALUE};
    private static final int[] NO_FILES = {-1, 4, Integer.MIN_VALUE, Integer.MAX_VALUE};

    public static void main(String[] args) {
        newObjectIsEmpty();
        objectsAreApart();
        writeTakesTheLinesOfItsCount();
        writeRefusesWrongNumbers();
        removeLeavesNothing();
        stageTakesOneFile();
        wrongFilesAreRefused();
        commitTakesTheIndex();
        commitNeedsAChange();
        emptyTextIsNotNothing();
        commitLeavesWorkingAlone();
        repositoriesShareTheNumbers();
        commitAnswersFull();
        nothingComesBeforeFull();
        Check.end();
    }

    private static void newObjectIsEmpty() {
        SnapshotVault vault = new SnapshotVault();
        Check.due("commits of a new object", vault.commits(), 0);
        for (int repository = 0; repository < 2; repository++) {
            Check.due("current of a new object", vault.current(repository), 0);
            Check.no("holds of a new object", vault.holds(repository, 0));
            for (int k = 0; k < 4; k++) {
                Check.due("tip of a new object", vault.tip(repository, k), SnapshotVault.NONE);
                Check.due("working, new", vault.working(repository, k), SnapshotVault.NONE);
                Check.due("staged, new", vault.staged(repository, k), SnapshotVault.NONE);
            }
        }
        Check.due("text of a new object", vault.text(0, 0), SnapshotVault.BAD);
        Check.due("parent of a new object", vault.parent(0, 0), SnapshotVault.BAD);
        Check.due("base of a new object", vault.base(0, 0), SnapshotVault.BAD);
    }

    private static void objectsAreApart() {
        SnapshotVault vault = new SnapshotVault();
        Check.due("commit in one object", Check.save(vault, 0, 0, 1), 0);
        Check.due("commits of another", new SnapshotVault().commits(), 0);
    }

    private static void writeTakesTheLinesOfItsCount() {
        SnapshotVault vault = new SnapshotVault();
        for (int count = 0; count <= 8; count++) {
            Check.yes("write " + count, vault.write(0, 1, 0x7EDCBA98_76543210L, count));
            long lines = 0x76543210L % (1L << 4 * count);
            Check.due("written " + count, vault.working(0, 1), ((long) count << 32) + lines);
        }
        Check.yes("write of a negative", vault.write(0, 1, -1L, 8));
        Check.due("eight lines of 15", vault.working(0, 1), 0x8FFFFFFFFL);
        Check.yes("write of a negative, short", vault.write(0, 1, Long.MIN_VALUE, 3));
        Check.due("three lines of 0", vault.working(0, 1), 0x300000000L);
        Check.due("another file", vault.working(0, 0), SnapshotVault.NONE);
        Check.due("another file", vault.working(0, 2), SnapshotVault.NONE);
        Check.due("another repository", vault.working(1, 1), SnapshotVault.NONE);
        Check.due("not staged yet", vault.staged(0, 1), SnapshotVault.NONE);
        Check.yes("write in repository 1", vault.write(1, 3, 0x21L, 2));
        Check.due("written in repository 1", vault.working(1, 3), Check.text(1, 2));
    }

    private static void writeRefusesWrongNumbers() {
        SnapshotVault vault = filled();
        String before = Check.state(vault);
        for (int repository : NO_REPOSITORIES) {
            Check.no("write in " + repository, vault.write(repository, 0, 1L, 1));
        }
        for (int file : NO_FILES) {
            Check.no("write of file " + file, vault.write(0, file, 1L, 1));
        }
        for (int count : new int[] {-1, 9, 64, Integer.MIN_VALUE, Integer.MAX_VALUE}) {
            Check.no("write of " + count + " lines", vault.write(0, 0, 1L, count));
        }
        Check.same("after writes that are refused", Check.state(vault), before);
    }

    private static void removeLeavesNothing() {
        SnapshotVault vault = filled();
        Check.yes("remove", vault.remove(0, 0));
        Check.due("removed", vault.working(0, 0), SnapshotVault.NONE);
        Check.due("still staged", vault.staged(0, 0), Check.text(1, 2));
        Check.due("another file", vault.working(0, 3), Check.text(3));
        Check.yes("remove of nothing", vault.remove(0, 0));
        Check.yes("stage of nothing", vault.stage(0, 0));
        Check.due("staged nothing", vault.staged(0, 0), SnapshotVault.NONE);
    }

    private static void stageTakesOneFile() {
        SnapshotVault vault = new SnapshotVault();
        Check.yes("write", vault.write(0, 0, 5L, 1));
        Check.yes("write", vault.write(0, 3, 6L, 1));
        Check.yes("stage", vault.stage(0, 3));
        Check.due("staged", vault.staged(0, 3), Check.text(6));
        Check.due("not staged", vault.staged(0, 0), SnapshotVault.NONE);
        Check.due("another repository", vault.staged(1, 3), SnapshotVault.NONE);
        Check.yes("write again", vault.write(0, 3, 7L, 1));
        Check.due("staged is a copy", vault.staged(0, 3), Check.text(6));
        Check.due("working goes on", vault.working(0, 3), Check.text(7));
    }

    private static void wrongFilesAreRefused() {
        SnapshotVault vault = filled();
        String before = Check.state(vault);
        for (int repository : NO_REPOSITORIES) {
            Check.no("remove in " + repository, vault.remove(repository, 0));
            Check.no("stage in " + repository, vault.stage(repository, 0));
            Check.due("commit in " + repository, vault.commit(repository), SnapshotVault.BAD);
            Check.due("working", vault.working(repository, 0), SnapshotVault.BAD);
            Check.due("staged", vault.staged(repository, 0), SnapshotVault.BAD);
        }
        for (int file : NO_FILES) {
            Check.no("remove of file " + file, vault.remove(0, file));
            Check.no("stage of file " + file, vault.stage(0, file));
            Check.due("working", vault.working(0, file), SnapshotVault.BAD);
            Check.due("staged", vault.staged(0, file), SnapshotVault.BAD);
        }
        Check.same("after wrong files", Check.state(vault), before);
    }

    private static void commitTakesTheIndex() {
        SnapshotVault vault = new SnapshotVault();
        Check.put(vault, 0, 0, 1, 2, 3);
        Check.put(vault, 0, 2);
        Check.due("first commit", vault.commit(0), 0);
        Check.due("its file 0", vault.text(0, 0), Check.text(1, 2, 3));
        Check.due("its file 1", vault.text(0, 1), SnapshotVault.NONE);
        Check.due("its file 2", vault.text(0, 2), 0);
        Check.due("its parent", vault.parent(0, 0), SnapshotVault.NONE);
        Check.due("its second parent", vault.parent(0, 1), SnapshotVault.NONE);
        Check.due("tip", vault.tip(0, 0), 0);
        Check.yes("held", vault.holds(0, 0));
        Check.no("held by the other one", vault.holds(1, 0));
        Check.due("second commit", Check.save(vault, 0, 1, 9), 1);
        Check.due("its parent", vault.parent(1, 0), 0);
        Check.due("its second parent", vault.parent(1, 1), SnapshotVault.NONE);
        Check.due("its file 0", vault.text(1, 0), Check.text(1, 2, 3));
        Check.due("its file 1", vault.text(1, 1), Check.text(9));
        Check.due("the first one's file 1", vault.text(0, 1), SnapshotVault.NONE);
        Check.due("tip", vault.tip(0, 0), 1);
        Check.due("commits", vault.commits(), 2);
    }

    private static void commitNeedsAChange() {
        SnapshotVault vault = new SnapshotVault();
        Check.due("commit of nothing", vault.commit(0), SnapshotVault.NOTHING);
        Check.yes("write", vault.write(0, 0, 1L, 1));
        Check.due("commit without stage", vault.commit(0), SnapshotVault.NOTHING);
        Check.due("commits", vault.commits(), 0);
        Check.due("tip", vault.tip(0, 0), SnapshotVault.NONE);
        Check.yes("stage", vault.stage(0, 0));
        Check.due("commit", vault.commit(0), 0);
        Check.due("commit again", vault.commit(0), SnapshotVault.NOTHING);
        Check.put(vault, 0, 0, 2);
        Check.put(vault, 0, 0, 1);
        Check.due("commit of the same text", vault.commit(0), SnapshotVault.NOTHING);
        Check.due("commit of the empty snapshot", Check.saveRemoved(vault, 0, 0), 1);
        Check.due("its file 0", vault.text(1, 0), SnapshotVault.NONE);
        for (int file = 0; file < 4; file++) {
            Check.due("commit of file " + file, Check.save(vault, 0, file, 4), 2 + file);
        }
    }

    private static void emptyTextIsNotNothing() {
        SnapshotVault vault = new SnapshotVault();
        Check.due("commit of an empty text", Check.save(vault, 0, 0), 0);
        Check.due("empty text", vault.text(0, 0), 0);
        Check.due("commit of a line 0", Check.save(vault, 0, 0, 0), 1);
        Check.due("line 0", vault.text(1, 0), Check.text(0));
        Check.due("commit of two lines 0", Check.save(vault, 0, 0, 0, 0), 2);
        Check.due("commit of an empty text", Check.save(vault, 0, 0), 3);
        Check.due("commit of nothing", Check.saveRemoved(vault, 0, 0), 4);
    }

    private static void commitLeavesWorkingAlone() {
        SnapshotVault vault = new SnapshotVault();
        Check.put(vault, 0, 0, 1);
        Check.yes("write", vault.write(0, 0, 2L, 1));
        Check.yes("write", vault.write(0, 1, 3L, 1));
        Check.due("commit", vault.commit(0), 0);
        Check.due("committed", vault.text(0, 0), Check.text(1));
        Check.due("working", vault.working(0, 0), Check.text(2));
        Check.due("working", vault.working(0, 1), Check.text(3));
        Check.due("staged", vault.staged(0, 0), Check.text(1));
        Check.due("staged", vault.staged(0, 1), SnapshotVault.NONE);
    }

    private static void repositoriesShareTheNumbers() {
        SnapshotVault vault = new SnapshotVault();
        Check.due("commit in 0", Check.save(vault, 0, 0, 1), 0);
        Check.due("commit in 1", Check.save(vault, 1, 0, 1), 1);
        Check.due("commit in 0", Check.save(vault, 0, 0, 2), 2);
        Check.due("its parent", vault.parent(2, 0), 0);
        Check.due("no parent", vault.parent(1, 0), SnapshotVault.NONE);
        Check.no("0 holds 1", vault.holds(0, 1));
        Check.yes("1 holds 1", vault.holds(1, 1));
        Check.due("commits", vault.commits(), 3);
    }

    private static void commitAnswersFull() {
        SnapshotVault vault = new SnapshotVault();
        for (int k = 0; k < 40; k++) {
            Check.due("commit " + k, Check.save(vault, k % 2, 0, k % 16, k / 16), k);
        }
        Check.put(vault, 0, 1, 1);
        Check.due("a commit too many", vault.commit(0), SnapshotVault.FULL);
        Check.due("tip after FULL", vault.tip(0, 0), 38);
        Check.due("staged after FULL", vault.staged(0, 1), Check.text(1));
        Check.due("text after FULL", vault.text(40, 1), SnapshotVault.BAD);
        Check.no("holds after FULL", vault.holds(0, 40));
        Check.put(vault, 1, 1, 1);
        Check.due("a commit too many in 1", vault.commit(1), SnapshotVault.FULL);
        Check.due("commits", vault.commits(), 40);
    }

    private static void nothingComesBeforeFull() {
        SnapshotVault vault = new SnapshotVault();
        for (int k = 0; k < 40; k++) {
            Check.due("commit " + k, Check.save(vault, 0, 0, k % 16, k / 16), k);
        }
        Check.due("nothing to commit", vault.commit(0), SnapshotVault.NOTHING);
        Check.due("nothing to commit in 1", vault.commit(1), SnapshotVault.NOTHING);
        Check.due("the last one's parent", vault.parent(39, 0), 38);
        Check.due("base", vault.base(39, 0), 0);
    }

    private static SnapshotVault filled() {
        SnapshotVault vault = new SnapshotVault();
        Check.put(vault, 0, 0, 1, 2);
        Check.put(vault, 0, 3, 3);
        Check.put(vault, 1, 1, 4);
        return vault;
    }
}
