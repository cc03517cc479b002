import java.util.ArrayList;
import java.util.Arrays;
import java.util.Collections;
import java.util.HashMap;
import java.util.HashSet;
import java.util.List;
import java.util.Map;
import java.util.Objects;
import java.util.Set;
import java.util.TreeSet;

/**
 * The document told again with lists and sets, word by word and without any care for speed: what
 * the program answers is compared with it. It shares no code and no form of data with the program.
 */
final class VaultModel {
    private static final int BAD = -1;
    private static final int NONE = -2;
    private static final int DIRTY = -3;
    private static final int NOTHING = -4;
    private static final int CLASH = -5;
    private static final int FULL = -6;
    private static final int BEHIND = -7;

    /** A snapshot: texts by file, without an entry where it has nothing. */
    private static final class Snapshot extends HashMap<Integer, List<Integer>> {
        private static final long serialVersionUID = 1L;

        Snapshot() {
        }

        Snapshot(Snapshot other) {
            super(other);
        }
    }

    private static final class Commit {
        final int number;
        final Snapshot snapshot;
        final List<Commit> parents;

        Commit(int number, Snapshot snapshot, Commit... parents) {
            this.number = number;
            this.snapshot = new Snapshot(snapshot);
            this.parents = new ArrayList<>(Arrays.asList(parents));
            this.parents.removeAll(Collections.singleton(null));
        }

        Set<Commit> reached() {
            Set<Commit> reached = new HashSet<>();
            reached.add(this);
            for (Commit parent : parents) {
                reached.addAll(parent.reached());
            }
            return reached;
        }

        boolean reaches(Commit other) {
            return reached().contains(other);
        }
    }

    private static final class Repository {
        Set<Commit> held = new HashSet<>();
        Map<Integer, Commit> tips = new HashMap<>();
        int current = 0;
        Snapshot working = new Snapshot();
        Snapshot index = new Snapshot();

        Commit head() {
            return tips.get(current);
        }

        Snapshot headSnapshot() {
            return head() == null ? new Snapshot() : head().snapshot;
        }

        boolean clean() {
            return working.equals(headSnapshot()) && index.equals(headSnapshot());
        }

        void moveTo(Commit commit) {
            tips.put(current, commit);
            working = new Snapshot(commit.snapshot);
            index = new Snapshot(commit.snapshot);
        }
    }

    private List<Commit> made = new ArrayList<>();
    private final List<Repository> repositories = List.of(new Repository(), new Repository());

    boolean write(int repository, int file, long lines, int count) {
        if (noRepository(repository) || noFile(file) || count < 0 || count > 8) {
            return false;
        }
        List<Integer> text = new ArrayList<>();
        long rest = lines;
        for (int k = 0; k < count; k++) {
            text.add((int) Math.floorMod(rest, 16L));
            rest = Math.floorDiv(rest, 16L);
        }
        repositories.get(repository).working.put(file, text);
        return true;
    }

    boolean remove(int repository, int file) {
        if (noRepository(repository) || noFile(file)) {
            return false;
        }
        repositories.get(repository).working.remove(file);
        return true;
    }

    boolean stage(int repository, int file) {
        if (noRepository(repository) || noFile(file)) {
            return false;
        }
        Repository place = repositories.get(repository);
        place.index.remove(file);
        if (place.working.containsKey(file)) {
            place.index.put(file, place.working.get(file));
        }
        return true;
    }

    int commit(int repository) {
        if (noRepository(repository)) {
            return BAD;
        }
        Repository place = repositories.get(repository);
        if (place.index.equals(place.headSnapshot())) {
            return NOTHING;
        }
        if (made.size() == 40) {
            return FULL;
        }
        Commit commit = new Commit(made.size(), place.index, place.head());
        made.add(commit);
        place.held.add(commit);
        place.tips.put(place.current, commit);
        return commit.number;
    }

    boolean branch(int repository, int branch) {
        if (noRepository(repository) || noBranch(branch)) {
            return false;
        }
        Repository place = repositories.get(repository);
        if (place.tips.containsKey(branch) || place.head() == null) {
            return false;
        }
        place.tips.put(branch, place.head());
        return true;
    }

    boolean drop(int repository, int branch) {
        if (noRepository(repository)) {
            return false;
        }
        Repository place = repositories.get(repository);
        return branch != place.current && place.tips.remove(branch) != null;
    }

    int checkout(int repository, int branch) {
        if (noRepository(repository) || noBranch(branch)) {
            return BAD;
        }
        Repository place = repositories.get(repository);
        Commit target = place.tips.get(branch);
        if (target == null) {
            return NONE;
        }
        if (!place.clean()) {
            return DIRTY;
        }
        place.current = branch;
        place.moveTo(target);
        return target.number;
    }

    int merge(int repository, int branch) {
        if (noRepository(repository) || noBranch(branch)) {
            return BAD;
        }
        Repository place = repositories.get(repository);
        Commit head = place.head();
        Commit other = place.tips.get(branch);
        if (other == null || head == null) {
            return NONE;
        }
        if (!place.clean()) {
            return DIRTY;
        }
        if (head.reaches(other)) {
            return NOTHING;
        }
        if (other.reaches(head)) {
            place.moveTo(other);
            return other.number;
        }
        Commit base = baseOf(head, other);
        Snapshot united = unite(base == null ? new Snapshot() : base.snapshot, head.snapshot,
                other.snapshot);
        if (united == null) {
            return CLASH;
        }
        if (made.size() == 40) {
            return FULL;
        }
        Commit commit = new Commit(made.size(), united, head, other);
        made.add(commit);
        place.held.add(commit);
        place.moveTo(commit);
        return commit.number;
    }

    int pick(int repository, int number) {
        if (noRepository(repository)) {
            return BAD;
        }
        Repository place = repositories.get(repository);
        if (!holds(repository, number) || place.head() == null) {
            return NONE;
        }
        if (!place.clean()) {
            return DIRTY;
        }
        int answer = pickOnto(made, made.get(number), place.head());
        if (answer >= 0) {
            place.held.add(made.get(answer));
            place.moveTo(made.get(answer));
        }
        return answer;
    }

    private static int pickOnto(List<Commit> all, Commit commit, Commit onto) {
        if (commit.parents.size() == 2) {
            return NOTHING;
        }
        Snapshot origin = commit.parents.isEmpty() ? new Snapshot()
                : commit.parents.get(0).snapshot;
        Snapshot united = unite(origin, onto.snapshot, commit.snapshot);
        if (united == null) {
            return CLASH;
        }
        if (united.equals(onto.snapshot)) {
            return NOTHING;
        }
        if (all.size() == 40) {
            return FULL;
        }
        all.add(new Commit(all.size(), united, onto));
        return all.size() - 1;
    }

    int rebase(int repository, int branch) {
        if (noRepository(repository) || noBranch(branch)) {
            return BAD;
        }
        Repository place = repositories.get(repository);
        Commit last = place.tips.get(branch);
        if (last == null || place.head() == null) {
            return NONE;
        }
        if (!place.clean()) {
            return DIRTY;
        }
        Set<Integer> todo = new TreeSet<>();
        for (Commit commit : place.head().reached()) {
            if (!last.reaches(commit) && commit.parents.size() < 2) {
                todo.add(commit.number);
            }
        }
        List<Commit> all = new ArrayList<>(made);
        for (int number : todo) {
            int answer = pickOnto(all, made.get(number), last);
            if (answer == CLASH || answer == FULL) {
                return answer;
            }
            if (answer != NOTHING) {
                last = all.get(answer);
            }
        }
        int added = all.size() - made.size();
        place.held.addAll(all.subList(made.size(), all.size()));
        made = all;
        place.moveTo(last);
        return added;
    }

    int collect(int repository) {
        if (noRepository(repository)) {
            return BAD;
        }
        Repository place = repositories.get(repository);
        Set<Commit> reached = new HashSet<>();
        for (Commit tip : place.tips.values()) {
            reached.addAll(tip.reached());
        }
        int before = place.held.size();
        place.held.retainAll(reached);
        return before - place.held.size();
    }

    int send(int repository, int branch) {
        if (noRepository(repository) || noBranch(branch)) {
            return BAD;
        }
        Commit tip = repositories.get(repository).tips.get(branch);
        if (tip == null) {
            return NONE;
        }
        Repository other = repositories.get(repository == 0 ? 1 : 0);
        if (other.current == branch) {
            return DIRTY;
        }
        if (other.tips.containsKey(branch) && !tip.reaches(other.tips.get(branch))) {
            return BEHIND;
        }
        int before = other.held.size();
        other.held.addAll(tip.reached());
        other.tips.put(branch, tip);
        return other.held.size() - before;
    }

    int current(int repository) {
        return noRepository(repository) ? BAD : repositories.get(repository).current;
    }

    int tip(int repository, int branch) {
        if (noRepository(repository) || noBranch(branch)) {
            return BAD;
        }
        Commit tip = repositories.get(repository).tips.get(branch);
        return tip == null ? NONE : tip.number;
    }

    boolean holds(int repository, int number) {
        return !noRepository(repository) && !notMade(number)
                && repositories.get(repository).held.contains(made.get(number));
    }

    int commits() {
        return made.size();
    }

    int parent(int number, int k) {
        if (notMade(number) || k != 0 && k != 1) {
            return BAD;
        }
        List<Commit> parents = made.get(number).parents;
        return k < parents.size() ? parents.get(k).number : NONE;
    }

    long text(int number, int file) {
        return notMade(number) || noFile(file) ? BAD : told(made.get(number).snapshot, file);
    }

    long working(int repository, int file) {
        return noRepository(repository) || noFile(file) ? BAD
                : told(repositories.get(repository).working, file);
    }

    long staged(int repository, int file) {
        return noRepository(repository) || noFile(file) ? BAD
                : told(repositories.get(repository).index, file);
    }

    int base(int first, int second) {
        if (notMade(first) || notMade(second)) {
            return BAD;
        }
        Commit base = baseOf(made.get(first), made.get(second));
        return base == null ? NONE : base.number;
    }

    private static boolean noRepository(int repository) {
        return repository != 0 && repository != 1;
    }

    private static boolean noBranch(int branch) {
        return branch < 0 || branch > 3;
    }

    private static boolean noFile(int file) {
        return file < 0 || file > 3;
    }

    private boolean notMade(int number) {
        return number < 0 || number >= made.size();
    }

    private static long told(Snapshot snapshot, int file) {
        if (!snapshot.containsKey(file)) {
            return NONE;
        }
        List<Integer> text = snapshot.get(file);
        long answer = text.size() * 65536L * 65536L;
        long worth = 1;
        for (int line : text) {
            answer += worth * line;
            worth *= 16;
        }
        return answer;
    }

    private static Commit baseOf(Commit first, Commit second) {
        Set<Commit> common = first.reached();
        common.retainAll(second.reached());
        Commit lowest = null;
        for (Commit commit : common) {
            boolean best = true;
            for (Commit other : common) {
                best &= other == commit || !other.reaches(commit);
            }
            if (best && (lowest == null || commit.number < lowest.number)) {
                lowest = commit;
            }
        }
        return lowest;
    }

    /** Null when there is a clash. */
    private static Snapshot unite(Snapshot origin, Snapshot first, Snapshot second) {
        Snapshot united = new Snapshot();
        for (int file = 0; file < 4; file++) {
            List<Integer> o = origin.get(file);
            List<Integer> a = first.get(file);
            List<Integer> b = second.get(file);
            List<Integer> text;
            if (Objects.equals(a, o)) {
                text = b;
            } else if (Objects.equals(b, o) || Objects.equals(b, a)) {
                text = a;
            } else if (o == null || a == null || b == null) {
                return null;
            } else {
                text = uniteTexts(o, a, b);
                if (text == null) {
                    return null;
                }
            }
            if (text != null) {
                united.put(file, text);
            }
        }
        return united;
    }

    /** Null when there is a clash. */
    static List<Integer> uniteTexts(List<Integer> o, List<Integer> a, List<Integer> b) {
        Map<Integer, Integer> inA = match(o, a);
        Map<Integer, Integer> inB = match(o, b);
        Set<Integer> firm = new TreeSet<>(inA.keySet());
        firm.retainAll(inB.keySet());
        List<List<Integer>> piecesOfO = cut(o, new ArrayList<>(firm));
        List<List<Integer>> piecesOfA = cut(a, firm.stream().map(inA::get).toList());
        List<List<Integer>> piecesOfB = cut(b, firm.stream().map(inB::get).toList());
        List<Integer> firmLines = firm.stream().map(o::get).toList();
        List<Integer> united = new ArrayList<>();
        for (int k = 0; k < piecesOfO.size(); k++) {
            List<Integer> pieceOfO = piecesOfO.get(k);
            List<Integer> pieceOfA = piecesOfA.get(k);
            List<Integer> pieceOfB = piecesOfB.get(k);
            if (pieceOfA.equals(pieceOfO)) {
                united.addAll(pieceOfB);
            } else if (pieceOfB.equals(pieceOfO) || pieceOfB.equals(pieceOfA)) {
                united.addAll(pieceOfA);
            } else {
                return null;
            }
            if (k < firmLines.size()) {
                united.add(firmLines.get(k));
            }
        }
        return united.size() > 8 ? null : united;
    }

    private static List<List<Integer>> cut(List<Integer> text, List<Integer> places) {
        List<List<Integer>> pieces = new ArrayList<>();
        int from = 0;
        for (int place : places) {
            pieces.add(text.subList(from, place));
            from = place + 1;
        }
        pieces.add(text.subList(from, text.size()));
        return pieces;
    }

    private static Map<Integer, Integer> match(List<Integer> a, List<Integer> b) {
        Map<Integer, Integer> matched = new HashMap<>();
        int i = 0;
        int j = 0;
        while (i < a.size() && j < b.size()) {
            if (a.get(i).equals(b.get(j))) {
                matched.put(i++, j++);
                continue;
            }
            int m = longestCommon(a.subList(i + 1, a.size()), b.subList(j, b.size()));
            int n = longestCommon(a.subList(i, a.size()), b.subList(j + 1, b.size()));
            if (m >= n) {
                i++;
            } else {
                j++;
            }
        }
        return matched;
    }

    /** Tries every choice of lines of a: how many lines the longest one has that b has too. */
    private static int longestCommon(List<Integer> a, List<Integer> b) {
        int longest = 0;
        for (int choice = 0; choice < 1 << a.size(); choice++) {
            if (Integer.bitCount(choice) > longest && standsIn(a, choice, b)) {
                longest = Integer.bitCount(choice);
            }
        }
        return longest;
    }

    private static boolean standsIn(List<Integer> a, int choice, List<Integer> b) {
        int from = 0;
        for (int k = 0; k < a.size(); k++) {
            if ((choice >> k & 1) == 1) {
                int place = b.subList(from, b.size()).indexOf(a.get(k));
                if (place < 0) {
                    return false;
                }
                from += place + 1;
            }
        }
        return true;
    }
}
