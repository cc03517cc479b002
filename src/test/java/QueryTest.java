/** Promises 17, 18, 19 and 22: commits, parent, text, base. */
public final class QueryTest {
    private static final int[] NOT_MADE = {-1, -2, 8, 39, 40, 64, Integer.MIN_VALUE,
        Integer.MAX_VALUE};

    public static void main(String[] args) {
        commitsCountsBothRepositories();
        parentsOfCommits();
        textsOfCommits();
        basesOfCommits();
        Check.end();
    }

    private static void commitsCountsBothRepositories() {
        SnapshotVault vault = new SnapshotVault();
        Check.due("commits", vault.commits(), 0);
        Check.due("commit", Check.save(vault, 1, 0, 1), 0);
        Check.due("commits", vault.commits(), 1);
        Check.due("commit", Check.save(vault, 0, 0, 1), 1);
        Check.due("commits", vault.commits(), 2);
        Check.due("nothing new", vault.commit(0), SnapshotVault.NOTHING);
        Check.due("commits", vault.commits(), 2);
    }

    private static void parentsOfCommits() {
        SnapshotVault vault = history();
        int[][] want = {{-2, -2}, {0, -2}, {0, -2}, {1, 2}, {2, 1}, {3, -2}, {4, -2}, {-2, -2}};
        for (int commit = 0; commit < want.length; commit++) {
            Check.due("first parent of " + commit, vault.parent(commit, 0), want[commit][0]);
            Check.due("second parent of " + commit, vault.parent(commit, 1), want[commit][1]);
        }
        for (int wrong : NOT_MADE) {
            Check.due("parent of " + wrong, vault.parent(wrong, 0), SnapshotVault.BAD);
            Check.due("parent of " + wrong, vault.parent(wrong, 1), SnapshotVault.BAD);
        }
        for (int wrong : new int[] {-1, 2, Integer.MIN_VALUE, Integer.MAX_VALUE}) {
            Check.due("parent number " + wrong, vault.parent(3, wrong), SnapshotVault.BAD);
        }
    }

    private static void textsOfCommits() {
        SnapshotVault vault = history();
        Check.due("three lines", vault.text(0, 0), 0x300000F21L);
        Check.due("no lines", vault.text(0, 1), 0L);
        Check.due("nothing", vault.text(0, 2), SnapshotVault.NONE);
        Check.due("eight lines", vault.text(7, 3), 0x8FEDCBA98L);
        Check.due("the other repository's", vault.text(7, 0), SnapshotVault.NONE);
        for (int wrong : NOT_MADE) {
            Check.due("text of " + wrong, vault.text(wrong, 0), SnapshotVault.BAD);
        }
        for (int wrong : new int[] {-1, 4, Integer.MIN_VALUE, Integer.MAX_VALUE}) {
            Check.due("text of file " + wrong, vault.text(0, wrong), SnapshotVault.BAD);
        }
    }

    private static void basesOfCommits() {
        SnapshotVault vault = history();
        int none = SnapshotVault.NONE;
        int[][] want = {
            {0, 0, 0, 0, 0, 0, 0, none},
            {0, 1, 0, 1, 1, 1, 1, none},
            {0, 0, 2, 2, 2, 2, 2, none},
            {0, 1, 2, 3, 1, 3, 1, none},
            {0, 1, 2, 1, 4, 1, 4, none},
            {0, 1, 2, 3, 1, 5, 1, none},
            {0, 1, 2, 1, 4, 1, 6, none},
            {none, none, none, none, none, none, none, 7}};
        for (int first = 0; first < want.length; first++) {
            for (int second = 0; second < want.length; second++) {
                Check.due("base of " + first + " and " + second, vault.base(first, second),
                        want[first][second]);
            }
        }
        for (int wrong : NOT_MADE) {
            Check.due("base of " + wrong, vault.base(wrong, 0), SnapshotVault.BAD);
            Check.due("base of " + wrong, vault.base(0, wrong), SnapshotVault.BAD);
            Check.due("base of " + wrong, vault.base(wrong, wrong), SnapshotVault.BAD);
        }
    }

    /** 1 and 2 come from 0, 3 and 4 join them both ways, 5 and 6 go on; 7 is a root of its own. */
    private static SnapshotVault history() {
        SnapshotVault vault = new SnapshotVault();
        Check.put(vault, 0, 1);
        Check.due("commit", Check.save(vault, 0, 0, 1, 2, 15), 0);
        Check.yes("branch", vault.branch(0, 1));
        Check.due("commit", Check.save(vault, 0, 2, 1), 1);
        Check.yes("branch", vault.branch(0, 2));
        Check.due("checkout", vault.checkout(0, 1), 0);
        Check.due("commit", Check.save(vault, 0, 3, 1), 2);
        Check.due("checkout", vault.checkout(0, 0), 1);
        Check.due("merge", vault.merge(0, 1), 3);
        Check.due("checkout", vault.checkout(0, 1), 2);
        Check.due("merge", vault.merge(0, 2), 4);
        Check.due("checkout", vault.checkout(0, 0), 3);
        Check.due("commit", Check.save(vault, 0, 2, 2), 5);
        Check.due("checkout", vault.checkout(0, 1), 4);
        Check.due("commit", Check.save(vault, 0, 3, 2), 6);
        Check.due("a root", Check.save(vault, 1, 3, 8, 9, 10, 11, 12, 13, 14, 15), 7);
        return vault;
    }
}
