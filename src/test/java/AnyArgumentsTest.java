import java.util.List;
import java.util.function.Supplier;

/** Calls with arguments from all over their range: none throws, and wrong ones are refused. */
public final class AnyArgumentsTest {
    private static final int[] ANY = {Integer.MIN_VALUE, Integer.MIN_VALUE + 1, -64, -2, -1, 0, 1,
        2, 3, 4, 5, 39, 40, 64, 256, 65537, 1 << 30, Integer.MAX_VALUE};

    public static void main(String[] args) {
        Check.sentence("A call whose repository, branch, file or commit is not there where it says"
                + " so is refused; a refused call changes nothing");
        List<Supplier<SnapshotVault>> scenes = List.of(SnapshotVault::new, Scenes::busy,
                () -> Scenes.full(Scenes.fork()));
        for (Supplier<SnapshotVault> scene : scenes) {
            String before = Check.state(scene.get());
            for (int first : ANY) {
                for (int second : ANY) {
                    wrongRepository(scene, before, first, second);
                    wrongBranchOrFile(scene, before, first, second);
                    wrongCommit(scene, before, first, second);
                    throwsNothing(scene.get(), first, second);
                }
            }
        }
        Check.end();
    }

    /** A wrong repository is refused whatever else the call says. */
    private static void wrongRepository(Supplier<SnapshotVault> scene, String before, int wrong,
            int other) {
        if (wrong == 0 || wrong == 1) {
            return;
        }
        SnapshotVault vault = scene.get();
        Check.no("write", vault.write(wrong, other, 1L, 1) || vault.write(wrong, 0, 1L, other));
        Check.no("remove", vault.remove(wrong, other));
        Check.no("stage", vault.stage(wrong, other));
        Check.no("branch", vault.branch(wrong, other));
        Check.no("drop", vault.drop(wrong, other));
        Check.no("holds", vault.holds(wrong, other));
        isBad("commit", vault.commit(wrong));
        isBad("pick", vault.pick(wrong, other));
        isBad("collect", vault.collect(wrong));
        isBad("current", vault.current(wrong));
        areBad(vault, wrong, other);
        Check.same("after a wrong repository", Check.state(vault), before);
    }

    /** A wrong branch or file is refused whatever else the call says. */
    private static void wrongBranchOrFile(Supplier<SnapshotVault> scene, String before, int other,
            int wrong) {
        if (wrong >= 0 && wrong < 4) {
            return;
        }
        SnapshotVault vault = scene.get();
        Check.no("write", vault.write(other, wrong, 1L, 1));
        Check.no("remove", vault.remove(other, wrong));
        Check.no("stage", vault.stage(other, wrong));
        Check.no("branch", vault.branch(other, wrong));
        Check.no("drop", vault.drop(other, wrong));
        isBad("text", vault.text(other, wrong));
        isBad("parent", vault.parent(other, wrong));
        areBad(vault, other, wrong);
        Check.same("after a wrong branch or file", Check.state(vault), before);
    }

    private static void areBad(SnapshotVault vault, int repository, int branchOrFile) {
        isBad("checkout", vault.checkout(repository, branchOrFile));
        isBad("merge", vault.merge(repository, branchOrFile));
        isBad("rebase", vault.rebase(repository, branchOrFile));
        isBad("send", vault.send(repository, branchOrFile));
        isBad("tip", vault.tip(repository, branchOrFile));
        isBad("working", vault.working(repository, branchOrFile));
        isBad("staged", vault.staged(repository, branchOrFile));
    }

    /** No vault has a commit 40, and none below 0. */
    private static void wrongCommit(Supplier<SnapshotVault> scene, String before, int wrong,
            int other) {
        if (wrong >= 0 && wrong < 40) {
            return;
        }
        SnapshotVault vault = scene.get();
        isBad("text", vault.text(wrong, other));
        isBad("parent", vault.parent(wrong, other));
        isBad("base", vault.base(wrong, other));
        isBad("base", vault.base(other, wrong));
        Check.no("holds", vault.holds(other, wrong));
        Check.due("pick", vault.pick(0, wrong), SnapshotVault.NONE);
        Check.due("pick", vault.pick(1, wrong), SnapshotVault.NONE);
        Check.same("after a wrong commit", Check.state(vault), before);
    }

    private static void isBad(String what, long got) {
        Check.due(what, got, SnapshotVault.BAD);
    }

    /** What these answer is looked at elsewhere; here an exception would end the test. */
    private static void throwsNothing(SnapshotVault vault, int first, int second) {
        vault.merge(first, second);
        vault.rebase(first, second);
        vault.pick(first, second);
        vault.send(first, second);
        vault.checkout(first, second);
        vault.collect(first);
        vault.branch(first, second);
        vault.drop(first, second);
        vault.write(first, second, Long.MIN_VALUE, 8);
        vault.write(first, 0, Long.MAX_VALUE, second);
        vault.stage(first, second);
        vault.commit(first);
        vault.remove(first, second);
        vault.tip(first, second);
        vault.holds(first, second);
        vault.parent(first, second);
        vault.text(first, second);
        vault.working(first, second);
        vault.staged(first, second);
        vault.base(first, second);
        Check.yes("a number of commits", vault.commits() >= 0 && vault.commits() <= 40);
    }
}
