import java.util.ArrayList;
import java.util.List;

/** Long runs of calls, the same in every session, compared with the model answer by answer. */
public final class ModelTest {
    private static final int RUNS = 3000;
    private static final int UNITED_TEXTS = 20000;

    /** How often each refusal was due. */
    private static final int[] REFUSALS = new int[8];

    /** A row of numbers that is the same each time: the tests draw their calls from it. */
    private static final class Numbers {
        private long state;

        Numbers(long seed) {
            state = seed;
        }

        int below(int bound) {
            state = state * 6364136223846793005L + 1442695040888963407L;
            return (int) ((state >>> 33) % bound);
        }
    }

    private final SnapshotVault vault = new SnapshotVault();
    private final VaultModel model = new VaultModel();
    private final Numbers numbers;
    private final int run;
    private final int lineKinds;
    private final int files;
    private final int repositoryShare;
    private int calls = 0;

    private ModelTest(int run) {
        this.run = run;
        numbers = new Numbers(run * 7919L + 17);
        lineKinds = 1 + numbers.below(6);
        files = 1 + numbers.below(4);
        repositoryShare = 1 + numbers.below(9);
    }

    public static void main(String[] args) {
        for (int run = 0; run < RUNS; run++) {
            new ModelTest(run).go();
        }
        for (int k = 1; k < REFUSALS.length; k++) {
            // Runs that hardly meet a refusal would test nothing of it.
            Check.yes("refusal -" + k + " was met", REFUSALS[k] > 100);
        }
        uniteManyTexts();
        Check.end();
    }

    /** So long that the calls and the final look at the state stay within 512 calls. */
    private void go() {
        int length = 20 + numbers.below(200);
        while (calls < length) {
            call();
        }
        compareState();
    }

    private int repository() {
        if (numbers.below(60) == 0) {
            return numbers.below(2) == 0 ? -1 : 2;
        }
        return numbers.below(10) < repositoryShare ? 0 : 1;
    }

    private int file() {
        if (numbers.below(60) == 0) {
            return numbers.below(2) == 0 ? -1 : 4;
        }
        return numbers.below(files);
    }

    /** Mostly a branch that is there, as most calls are refused otherwise. */
    private int branch(int repository) {
        if (numbers.below(60) == 0) {
            return numbers.below(2) == 0 ? -1 : 4;
        }
        int branch = numbers.below(4);
        for (int k = numbers.below(6); k > 0 && model.tip(repository, branch) < 0; k--) {
            branch = (branch + 1) % 4;
        }
        return branch;
    }

    private int commit() {
        return numbers.below(model.commits() + 2) - (numbers.below(30) == 0 ? 1 : 0);
    }

    private void call() {
        int repository = repository();
        switch (numbers.below(24)) {
            case 0, 1 -> edit(repository, file());
            case 2 -> stage(repository, file());
            case 3, 4, 5, 6, 7 -> save(repository, file());
            case 8, 9 -> branchOff(repository, numbers.below(4));
            case 10 -> drop(repository, branch(repository));
            case 11, 12, 13 -> checkout(repository, branch(repository));
            case 14, 15, 16 -> merge(repository, branch(repository));
            case 17, 18, 19 -> pick(repository, commit());
            case 20, 21 -> rebase(repository, branch(repository));
            case 22 -> due("collect", vault.collect(repository), model.collect(repository));
            default -> send(repository, branch(repository));
        }
    }

    private void save(int repository, int file) {
        edit(repository, file);
        stage(repository, file);
        due("commit", vault.commit(repository), model.commit(repository));
    }

    private void branchOff(int repository, int branch) {
        due("branch", vault.branch(repository, branch), model.branch(repository, branch));
    }

    private void drop(int repository, int branch) {
        due("drop", vault.drop(repository, branch), model.drop(repository, branch));
    }

    private void checkout(int repository, int branch) {
        tidy(repository);
        due("checkout", vault.checkout(repository, branch), model.checkout(repository, branch));
    }

    private void merge(int repository, int branch) {
        tidy(repository);
        due("merge", vault.merge(repository, branch), model.merge(repository, branch));
    }

    private void pick(int repository, int commit) {
        tidy(repository);
        due("pick", vault.pick(repository, commit), model.pick(repository, commit));
    }

    private void rebase(int repository, int branch) {
        tidy(repository);
        due("rebase", vault.rebase(repository, branch), model.rebase(repository, branch));
    }

    private void send(int repository, int branch) {
        due("send", vault.send(repository, branch), model.send(repository, branch));
    }

    /** Mostly makes a repository clean by a commit, as most calls are refused otherwise. */
    private void tidy(int repository) {
        boolean staged = false;
        for (int file = 0; file < 4 && numbers.below(30) != 0; file++) {
            if (model.working(repository, file) != model.staged(repository, file)) {
                stage(repository, file);
                staged = true;
            }
        }
        if (staged) {
            due("commit", vault.commit(repository), model.commit(repository));
        }
    }

    /** Changes a line or two of what is there, as two wholly different texts only ever clash. */
    private void edit(int repository, int file) {
        if (numbers.below(12) == 0) {
            due("remove", vault.remove(repository, file), model.remove(repository, file));
            return;
        }
        long before = model.working(repository, file);
        List<Integer> lines = new ArrayList<>();
        for (int k = 0; before >= 0 && k < before >> 32; k++) {
            lines.add((int) (before >> 4 * k & 15));
        }
        for (int changes = 1 + numbers.below(3); changes > 0; changes--) {
            changeLine(lines);
        }
        long packed = numbers.below(3) == 0 ? -1L << 32 : 0L;
        for (int k = 0; k < lines.size() && k < 8; k++) {
            packed |= (long) lines.get(k) << 4 * k;
        }
        int count = numbers.below(40) == 0 ? numbers.below(12) - 1 : lines.size();
        due("write", vault.write(repository, file, packed, count),
                model.write(repository, file, packed, count));
    }

    private void changeLine(List<Integer> lines) {
        int place = numbers.below(lines.size() + 1);
        int line = numbers.below(10) == 0 ? 15 - numbers.below(3) : numbers.below(lineKinds);
        if (place < lines.size() && numbers.below(3) == 0) {
            lines.remove(place);
        } else if (place < lines.size() && numbers.below(2) == 0) {
            lines.set(place, line);
        } else {
            lines.add(place, line);
        }
    }

    private void stage(int repository, int file) {
        due("stage", vault.stage(repository, file), model.stage(repository, file));
    }

    private void compareState() {
        int commits = model.commits();
        due("commits", vault.commits(), commits);
        for (int commit = -1; commit <= commits; commit++) {
            for (int k = 0; k < 2; k++) {
                due("parent", vault.parent(commit, k), model.parent(commit, k));
                due("holds", vault.holds(k, commit), model.holds(k, commit));
            }
            int file = numbers.below(4);
            due("text", vault.text(commit, file), model.text(commit, file));
            int other = commit();
            due("base", vault.base(commit, other), model.base(commit, other));
        }
        for (int repository = 0; repository < 2; repository++) {
            due("current", vault.current(repository), model.current(repository));
            for (int k = 0; k < 4; k++) {
                due("tip", vault.tip(repository, k), model.tip(repository, k));
                due("working", vault.working(repository, k), model.working(repository, k));
                due("staged", vault.staged(repository, k), model.staged(repository, k));
            }
        }
    }

    private void due(String what, boolean got, boolean want) {
        due(what, got ? 1L : 0L, want ? 1L : 0L);
    }

    private void due(String what, long got, long want) {
        calls++;
        if (want < 0) {
            REFUSALS[(int) -want]++;
        }
        Check.due("run " + run + ": " + what, got, want);
    }

    /** Unites texts by a merge each, of few kinds of lines so that matching has much to choose. */
    private static void uniteManyTexts() {
        Numbers numbers = new Numbers(4711);
        int united = 0;
        for (int k = 0; k < UNITED_TEXTS; k++) {
            int kinds = 1 + numbers.below(5);
            List<Integer> origin = text(numbers, numbers.below(9), kinds);
            List<Integer> first = edited(numbers, origin, kinds);
            List<Integer> second = edited(numbers, origin, kinds);
            List<Integer> want = first.equals(origin) ? second
                    : second.equals(origin) || second.equals(first) ? first
                    : VaultModel.uniteTexts(origin, first, second);
            united += want == null ? 0 : 1;
            long got = mergedText(ints(origin), ints(first), ints(second));
            Check.due("merge of " + first + " and " + second + " from " + origin, got,
                    want == null ? SnapshotVault.CLASH : Check.text(ints(want)));
        }
        Check.yes("many are united", united > UNITED_TEXTS / 4);
        Check.yes("many clash", UNITED_TEXTS - united > UNITED_TEXTS / 10);
    }

    private static List<Integer> text(Numbers numbers, int count, int kinds) {
        List<Integer> text = new ArrayList<>();
        for (int k = 0; k < count; k++) {
            text.add(numbers.below(kinds));
        }
        return text;
    }

    private static List<Integer> edited(Numbers numbers, List<Integer> origin, int kinds) {
        List<Integer> text = new ArrayList<>(origin);
        for (int changes = 1 + numbers.below(3); changes > 0; changes--) {
            int place = numbers.below(text.size() + 1);
            if (place < text.size() && numbers.below(2) == 0) {
                text.remove(place);
            } else if (text.size() < 8) {
                text.add(place, numbers.below(kinds));
            }
        }
        return text;
    }

    private static int[] ints(List<Integer> text) {
        return text.stream().mapToInt(Integer::intValue).toArray();
    }

    /** The text that a merge comes to, or its refusal. */
    private static long mergedText(int[] origin, int[] first, int[] second) {
        SnapshotVault vault = new SnapshotVault();
        Check.put(vault, 0, 0, origin);
        vault.commit(0);
        vault.branch(0, 1);
        // The files 1 and 2 change too, so that there is always something to commit.
        Check.put(vault, 0, 1, 1);
        Check.put(vault, 0, 0, first);
        vault.commit(0);
        vault.checkout(0, 1);
        Check.put(vault, 0, 2, 1);
        Check.put(vault, 0, 0, second);
        vault.commit(0);
        int answer = vault.merge(0, 0);
        return answer < 0 ? answer : vault.text(answer, 0);
    }
}
