/**
 * Two repositories that keep snapshots of four files as commits on branches.
 *
 * <p>A text is held as one long, in the form in which the face answers it: the number of its lines
 * at the bits 32 and higher, the lines below. A file without a text is NONE, so that the same long
 * says both, and texts are equal exactly when their longs are.
 */
public final class SnapshotVault {
    public static final int BAD = -1;
    public static final int NONE = -2;
    public static final int DIRTY = -3;
    public static final int NOTHING = -4;
    public static final int CLASH = -5;
    public static final int FULL = -6;
    public static final int BEHIND = -7;

    private static final int REPOSITORIES = 2;
    private static final int BRANCHES = 4;
    private static final int FILES = 4;
    private static final int MOST_LINES = 8;
    private static final int MOST_COMMITS = 40;

    private final History history;
    private final Repository[] repositories;
    private final Uniter uniter;

    public SnapshotVault() {
        history = new History();
        repositories = new Repository[REPOSITORIES];
        for (int k = 0; k < REPOSITORIES; k++) {
            repositories[k] = new Repository();
        }
        uniter = new Uniter();
    }

    public boolean write(int repository, int file, long lines, int count) {
        if (!isRepository(repository) || !isFile(file) || count < 0 || count > MOST_LINES) {
            return false;
        }
        repositories[repository].working[file] = Texts.pack(lines, count);
        return true;
    }

    public boolean remove(int repository, int file) {
        if (!isRepository(repository) || !isFile(file)) {
            return false;
        }
        repositories[repository].working[file] = NONE;
        return true;
    }

    public boolean stage(int repository, int file) {
        if (!isRepository(repository) || !isFile(file)) {
            return false;
        }
        Repository place = repositories[repository];
        place.index[file] = place.working[file];
        return true;
    }

    public int commit(int repository) {
        if (!isRepository(repository)) {
            return BAD;
        }
        Repository place = repositories[repository];
        int head = place.head();
        if (history.hasSnapshot(head, place.index)) {
            return NOTHING;
        }
        int made = history.add(place.index, head, NONE);
        if (made != FULL) {
            // No move here: what is not staged stays in the working snapshot.
            place.held |= history.reachOf(made);
            place.tips[place.current] = made;
        }
        return made;
    }

    public boolean branch(int repository, int branch) {
        if (!isRepository(repository) || !isBranch(branch)) {
            return false;
        }
        Repository place = repositories[repository];
        if (place.tips[branch] != NONE || place.head() == NONE) {
            return false;
        }
        place.tips[branch] = place.head();
        return true;
    }

    public boolean drop(int repository, int branch) {
        if (!isRepository(repository) || !isBranch(branch)) {
            return false;
        }
        Repository place = repositories[repository];
        if (place.tips[branch] == NONE || place.current == branch) {
            return false;
        }
        place.tips[branch] = NONE;
        return true;
    }

    public int checkout(int repository, int branch) {
        if (!isRepository(repository) || !isBranch(branch)) {
            return BAD;
        }
        Repository place = repositories[repository];
        int target = place.tips[branch];
        if (target == NONE) {
            return NONE;
        }
        if (!isClean(place)) {
            return DIRTY;
        }
        place.current = branch;
        moveTo(place, target);
        return target;
    }

    public int merge(int repository, int branch) {
        int refusal = refusalToChangeHead(repository, branch);
        if (refusal != 0) {
            return refusal;
        }
        Repository place = repositories[repository];
        int head = place.head();
        int other = place.tips[branch];
        if (history.reaches(head, other)) {
            return NOTHING;
        }
        int target = history.reaches(other, head) ? other : joinCommits(head, other);
        if (target >= 0) {
            moveTo(place, target);
        }
        return target;
    }

    public int pick(int repository, int commit) {
        if (!isRepository(repository)) {
            return BAD;
        }
        Repository place = repositories[repository];
        if (!isHeld(place, commit) || place.head() == NONE) {
            return NONE;
        }
        if (!isClean(place)) {
            return DIRTY;
        }
        int made = doAgain(commit, place.head());
        if (made >= 0) {
            moveTo(place, made);
        }
        return made;
    }

    public int rebase(int repository, int branch) {
        int refusal = refusalToChangeHead(repository, branch);
        if (refusal != 0) {
            return refusal;
        }
        Repository place = repositories[repository];
        int onto = place.tips[branch];
        long wanted = history.reachOf(place.head()) & ~history.reachOf(onto);
        int before = history.size;
        int last = doAllAgain(wanted, onto);
        if (last < 0) {
            history.cutBackTo(before);
            return last;
        }
        moveTo(place, last);
        return history.size - before;
    }

    public int collect(int repository) {
        if (!isRepository(repository)) {
            return BAD;
        }
        Repository place = repositories[repository];
        long kept = 0;
        for (int k = 0; k < BRANCHES; k++) {
            kept |= history.reachOf(place.tips[k]);
        }
        int lost = Long.bitCount(place.held & ~kept);
        place.held &= kept;
        return lost;
    }

    public int send(int repository, int branch) {
        if (!isRepository(repository) || !isBranch(branch)) {
            return BAD;
        }
        int sent = repositories[repository].tips[branch];
        if (sent == NONE) {
            return NONE;
        }
        Repository receiver = repositories[REPOSITORIES - 1 - repository];
        if (receiver.current == branch) {
            return DIRTY;
        }
        int replaced = receiver.tips[branch];
        if (replaced != NONE && !history.reaches(sent, replaced)) {
            return BEHIND;
        }
        int gained = Long.bitCount(history.reachOf(sent) & ~receiver.held);
        receiver.held |= history.reachOf(sent);
        receiver.tips[branch] = sent;
        return gained;
    }

    public int current(int repository) {
        return isRepository(repository) ? repositories[repository].current : BAD;
    }

    public int tip(int repository, int branch) {
        if (!isRepository(repository) || !isBranch(branch)) {
            return BAD;
        }
        return repositories[repository].tips[branch];
    }

    public boolean holds(int repository, int commit) {
        return isRepository(repository) && isHeld(repositories[repository], commit);
    }

    public int commits() {
        return history.size;
    }

    public int parent(int commit, int k) {
        if (!history.isMade(commit) || k < 0 || k > 1) {
            return BAD;
        }
        return k == 0 ? history.firstParentOf(commit) : history.secondParentOf(commit);
    }

    public long text(int commit, int file) {
        if (!history.isMade(commit) || !isFile(file)) {
            return BAD;
        }
        return history.textOf(commit, file);
    }

    public long working(int repository, int file) {
        if (!isRepository(repository) || !isFile(file)) {
            return BAD;
        }
        return repositories[repository].working[file];
    }

    public long staged(int repository, int file) {
        if (!isRepository(repository) || !isFile(file)) {
            return BAD;
        }
        return repositories[repository].index[file];
    }

    public int base(int first, int second) {
        if (!history.isMade(first) || !history.isMade(second)) {
            return BAD;
        }
        return history.baseOf(first, second);
    }

    private static boolean isRepository(int repository) {
        return repository >= 0 && repository < REPOSITORIES;
    }

    private static boolean isBranch(int branch) {
        return branch >= 0 && branch < BRANCHES;
    }

    private static boolean isFile(int file) {
        return file >= 0 && file < FILES;
    }

    private boolean isHeld(Repository place, int commit) {
        return history.isMade(commit) && History.isIn(place.held, commit);
    }

    private boolean isClean(Repository place) {
        int head = place.head();
        return history.hasSnapshot(head, place.working) && history.hasSnapshot(head, place.index);
    }

    /** What merge and rebase refuse alike, in their order; 0 when they may go on. */
    private int refusalToChangeHead(int repository, int branch) {
        if (!isRepository(repository) || !isBranch(branch)) {
            return BAD;
        }
        Repository place = repositories[repository];
        if (place.tips[branch] == NONE || place.head() == NONE) {
            return NONE;
        }
        return isClean(place) ? 0 : DIRTY;
    }

    private void moveTo(Repository place, int commit) {
        // What its branches reach is held already, so that this adds new commits alone.
        place.held |= history.reachOf(commit);
        place.tips[place.current] = commit;
        history.copySnapshot(commit, place.working);
        history.copySnapshot(commit, place.index);
    }

    /** The commit that joins two others, or CLASH or FULL. */
    private int joinCommits(int head, int other) {
        if (!uniter.uniteSnapshots(history, history.baseOf(head, other), head, other)) {
            return CLASH;
        }
        return history.add(uniter.united, head, other);
    }

    /** The commit that does on another one what a commit did, or NOTHING, CLASH or FULL. */
    private int doAgain(int commit, int onto) {
        if (history.secondParentOf(commit) != NONE) {
            return NOTHING;
        }
        if (!uniter.uniteSnapshots(history, history.firstParentOf(commit), onto, commit)) {
            return CLASH;
        }
        if (history.hasSnapshot(onto, uniter.united)) {
            return NOTHING;
        }
        return history.add(uniter.united, onto, NONE);
    }

    /** Does the wanted commits again, the lowest first: where that has led to, or CLASH or FULL. */
    private int doAllAgain(long wanted, int onto) {
        int last = onto;
        for (int k = 0; k < MOST_COMMITS; k++) {
            if (History.isIn(wanted, k)) {
                int made = doAgain(k, last);
                if (made == CLASH || made == FULL) {
                    return made;
                }
                last = made == NOTHING ? last : made;
            }
        }
        return last;
    }

    /** The commits of both repositories; a set of commits is a long with a bit for each. */
    private static final class History {
        private final long[] texts;
        private final int[] firstParents;
        private final int[] secondParents;
        private final long[] reached;
        private int size;

        History() {
            texts = new long[MOST_COMMITS * FILES];
            firstParents = new int[MOST_COMMITS];
            secondParents = new int[MOST_COMMITS];
            reached = new long[MOST_COMMITS];
            size = 0;
        }

        static boolean isIn(long set, int commit) {
            return ((set >>> commit) & 1L) != 0;
        }

        boolean isMade(int commit) {
            return commit >= 0 && commit < size;
        }

        int firstParentOf(int commit) {
            return isMade(commit) ? firstParents[commit] : NONE;
        }

        int secondParentOf(int commit) {
            return isMade(commit) ? secondParents[commit] : NONE;
        }

        /** No commit (NONE) has the empty snapshot: no head, no parent and no base count so. */
        long textOf(int commit, int file) {
            return isMade(commit) ? texts[commit * FILES + file] : NONE;
        }

        boolean hasSnapshot(int commit, long[] snapshot) {
            for (int k = 0; k < FILES; k++) {
                if (textOf(commit, k) != snapshot[k]) {
                    return false;
                }
            }
            return true;
        }

        void copySnapshot(int commit, long[] target) {
            for (int k = 0; k < FILES; k++) {
                target[k] = textOf(commit, k);
            }
        }

        /** The set of the commits that a commit reaches; of none, the empty set. */
        long reachOf(int commit) {
            return isMade(commit) ? reached[commit] : 0L;
        }

        boolean reaches(int from, int to) {
            return isIn(reachOf(from), to);
        }

        int baseOf(int first, int second) {
            long common = reachOf(first) & reachOf(second);
            for (int k = 0; k < size; k++) {
                if (isIn(common, k) && !isReachedByLater(common, k)) {
                    return k;
                }
            }
            return NONE;
        }

        /** Only later commits are asked, as parents are always made before their children. */
        private boolean isReachedByLater(long set, int commit) {
            for (int k = commit + 1; k < size; k++) {
                if (isIn(set, k) && reaches(k, commit)) {
                    return true;
                }
            }
            return false;
        }

        int add(long[] snapshot, int firstParent, int secondParent) {
            if (size >= MOST_COMMITS) {
                return FULL;
            }
            int made = size;
            for (int k = 0; k < FILES; k++) {
                texts[made * FILES + k] = snapshot[k];
            }
            firstParents[made] = firstParent;
            secondParents[made] = secondParent;
            reached[made] = (1L << made) | reachOf(firstParent) | reachOf(secondParent);
            size = made + 1;
            return made;
        }

        /** Unmakes the newest commits, which nothing may have as a tip or hold yet. */
        void cutBackTo(int earlierSize) {
            size = earlierSize;
        }
    }

    private static final class Repository {
        private final int[] tips;
        private final long[] working;
        private final long[] index;
        private long held;
        private int current;

        Repository() {
            tips = new int[BRANCHES];
            for (int k = 0; k < BRANCHES; k++) {
                tips[k] = NONE;
            }
            working = new long[FILES];
            index = new long[FILES];
            for (int k = 0; k < FILES; k++) {
                working[k] = NONE;
                index[k] = NONE;
            }
            held = 0L;
            current = 0;
        }

        int head() {
            return tips[current];
        }
    }

    /** Functions of texts; pieces of a text are texts too. */
    private static final class Texts {
        private static final long EMPTY = 0L;
        private static final int COUNT_SHIFT = 32;
        private static final int LINE_BITS = 4;
        private static final long LINE_MASK = 15L;
        private static final long LINES_MASK = 0xFFFFFFFFL;

        private Texts() {
        }

        static long pack(long lines, int count) {
            long used = (1L << (LINE_BITS * count)) - 1;
            return ((long) count << COUNT_SHIFT) | (lines & used);
        }

        static int countOf(long text) {
            return (int) (text >>> COUNT_SHIFT);
        }

        static long lineAt(long text, int k) {
            return (text >>> (LINE_BITS * k)) & LINE_MASK;
        }

        static long piece(long text, int from, int to) {
            return pack(text >>> (LINE_BITS * from), to - from);
        }

        /** One text behind the other, or CLASH when one of them is that or they are too long. */
        static long join(long front, long back) {
            if (front == CLASH || back == CLASH) {
                return CLASH;
            }
            int frontCount = countOf(front);
            int count = frontCount + countOf(back);
            if (count > MOST_LINES) {
                return CLASH;
            }
            long added = (back & LINES_MASK) << (LINE_BITS * frontCount);
            return pack((front & LINES_MASK) | added, count);
        }
    }

    /** Unites texts and snapshots; its rows are made once and used again by every call. */
    private static final class Uniter {
        private static final int UNMATCHED = -1;

        private final long[] united;
        private final int[] firstPartners;
        private final int[] secondPartners;
        private final int[][] common;

        Uniter() {
            united = new long[FILES];
            firstPartners = new int[MOST_LINES + 1];
            secondPartners = new int[MOST_LINES + 1];
            common = new int[MOST_LINES + 1][MOST_LINES + 1];
        }

        /** Leaves the united snapshot in the row united; false when there is a clash. */
        boolean uniteSnapshots(History history, int origin, int first, int second) {
            for (int k = 0; k < FILES; k++) {
                long before = history.textOf(origin, k);
                long ours = history.textOf(first, k);
                long theirs = history.textOf(second, k);
                long taken = take(before, ours, theirs);
                if (taken == CLASH && before != NONE && ours != NONE && theirs != NONE) {
                    taken = uniteTexts(before, ours, theirs);
                }
                if (taken == CLASH) {
                    return false;
                }
                united[k] = taken;
            }
            return true;
        }

        /** The rule for whole files and for pieces alike: the side that changed is taken. */
        private static long take(long origin, long first, long second) {
            if (first == origin) {
                return second;
            }
            return second == origin || second == first ? first : CLASH;
        }

        private long uniteTexts(long origin, long first, long second) {
            countCommon(origin, first);
            matchLines(origin, first, firstPartners);
            countCommon(origin, second);
            matchLines(origin, second, secondPartners);
            int originCount = Texts.countOf(origin);
            int originFrom = 0;
            int firstFrom = 0;
            int secondFrom = 0;
            long result = Texts.EMPTY;
            for (int k = 0; k <= originCount; k++) {
                if (firstPartners[k] != UNMATCHED && secondPartners[k] != UNMATCHED) {
                    long taken = take(Texts.piece(origin, originFrom, k),
                            Texts.piece(first, firstFrom, firstPartners[k]),
                            Texts.piece(second, secondFrom, secondPartners[k]));
                    result = Texts.join(result, taken);
                    originFrom = k + 1;
                    firstFrom = firstPartners[k] + 1;
                    secondFrom = secondPartners[k] + 1;
                    if (k < originCount) {
                        result = Texts.join(result, Texts.piece(origin, k, k + 1));
                    }
                }
            }
            return result;
        }

        /** Tells for every line of origin the line of other that it is matched with. */
        private void matchLines(long origin, long other, int[] partners) {
            int originCount = Texts.countOf(origin);
            int otherCount = Texts.countOf(other);
            for (int k = 0; k < originCount; k++) {
                partners[k] = UNMATCHED;
            }
            // The two ends count as matched, so that the last piece is cut like the others.
            partners[originCount] = otherCount;
            int i = 0;
            int j = 0;
            while (i < originCount && j < otherCount) {
                if (Texts.lineAt(origin, i) == Texts.lineAt(other, j)) {
                    partners[i] = j;
                    i++;
                    j++;
                } else if (common[i + 1][j] >= common[i][j + 1]) {
                    i++;
                } else {
                    j++;
                }
            }
        }

        /** Fills common[i][j]: how long a subsequence both texts share from lines i and j on. */
        private void countCommon(long origin, long other) {
            int originCount = Texts.countOf(origin);
            int otherCount = Texts.countOf(other);
            for (int i = originCount; i >= 0; i--) {
                for (int j = otherCount; j >= 0; j--) {
                    if (i == originCount || j == otherCount) {
                        common[i][j] = 0;
                    } else if (Texts.lineAt(origin, i) == Texts.lineAt(other, j)) {
                        common[i][j] = common[i + 1][j + 1] + 1;
                    } else {
                        common[i][j] = Math.max(common[i + 1][j], common[i][j + 1]);
                    }
                }
            }
        }
    }
}
