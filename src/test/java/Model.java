import java.util.ArrayList;
import java.util.List;
import java.util.Set;
import java.util.TreeMap;
import java.util.TreeSet;

/** The document, said once more with sets, lists and maps, and without any sums or counts kept. */
final class Model {
    private record Run(int test, int commit, boolean passed) {
    }

    private record Triage(int good, int bad) {
    }

    private final int[] uses = new int[16];
    private final List<Integer> changes = new ArrayList<>();
    private final List<Integer> tests = new ArrayList<>();
    private final List<Run> allRuns = new ArrayList<>();
    private final TreeMap<Integer, Triage> triages = new TreeMap<>();
    private final List<Integer> queue = new ArrayList<>();
    private int limit = 2;
    private int window = 10;
    private int noise = 0;
    private int budget = 0;

    private static void index(boolean fine) {
        if (!fine) {
            throw new IndexOutOfBoundsException();
        }
    }

    private static void argument(boolean fine) {
        if (!fine) {
            throw new IllegalArgumentException();
        }
    }

    private static void state(boolean fine) {
        if (!fine) {
            throw new IllegalStateException();
        }
    }

    private static boolean within(int value, int least, int greatest) {
        return least <= value && value <= greatest;
    }

    private boolean isTest(int test) {
        return within(test, 0, tests.size() - 1);
    }

    private boolean isCommit(int commit) {
        return within(commit, 0, changes.size() - 1);
    }

    private static Set<Integer> members(long bits) {
        Set<Integer> set = new TreeSet<>();
        for (int i = 0; i < 64; i++) {
            if ((bits & 1L << i) != 0) {
                set.add(i);
            }
        }
        return set;
    }

    private static long bits(Iterable<Integer> set) {
        long sum = 0;
        for (int i : set) {
            sum += 1L << i;
        }
        return sum;
    }

    int setUses(int part, int parts) {
        index(within(part, 0, 15));
        argument(within(parts, 0, 65535));
        int before = uses[part];
        uses[part] = parts;
        return before;
    }

    int addCommit(int parts) {
        argument(within(parts, 0, 65535));
        state(changes.size() < 40);
        changes.add(parts);
        return changes.size() - 1;
    }

    int addTest(int parts) {
        argument(within(parts, 0, 65535));
        state(tests.size() < 12);
        tests.add(parts);
        return tests.size() - 1;
    }

    void setQuarantine(int newLimit, int newWindow) {
        argument(within(newLimit, 1, 10) && within(newWindow, 1, 40));
        limit = newLimit;
        window = newWindow;
    }

    int setNoise(int runs) {
        argument(within(runs, 0, 20));
        int before = noise;
        noise = runs;
        return before;
    }

    int record(int test, int commit, boolean passed) {
        index(isTest(test) && isCommit(commit));
        state(runs(test) < 200);
        allRuns.add(new Run(test, commit, passed));
        return verdict(test, commit);
    }

    int triage(int test, int good, int bad) {
        index(isTest(test) && isCommit(good) && isCommit(bad));
        argument(bad > good);
        triages.put(test, new Triage(good, bad));
        return members(candidates(test)).size();
    }

    int close(int test) {
        Set<Integer> candidates = members(candidates(test));
        triages.remove(test);
        queue.remove((Integer) test);
        return candidates.size() == 1 ? candidates.iterator().next() : -1;
    }

    int enqueue(int test) {
        index(isTest(test));
        state(triages.containsKey(test) && !queue.contains(test));
        queue.add(test);
        return queue.size();
    }

    int newDay(int newBudget) {
        argument(within(newBudget, 0, 100));
        int before = budget;
        budget = newBudget;
        return before;
    }

    int take() {
        state(!queue.isEmpty() && budget > 0);
        budget--;
        int test = queue.remove(0);
        if (members(candidates(test)).size() > 1) {
            queue.add(test);
        }
        return test;
    }

    int commits() {
        return changes.size();
    }

    int tests() {
        return tests.size();
    }

    int budget() {
        return budget;
    }

    int queued() {
        return queue.size();
    }

    int partsOf(int test) {
        index(isTest(test));
        Set<Integer> found = new TreeSet<>();
        List<Integer> open = new ArrayList<>(members(tests.get(test)));
        while (!open.isEmpty()) {
            int part = open.remove(open.size() - 1);
            if (found.add(part)) {
                open.addAll(members(uses[part]));
            }
        }
        return (int) bits(found);
    }

    private boolean touch(int commit, int test) {
        Set<Integer> both = members(changes.get(commit));
        both.retainAll(members(partsOf(test)));
        return !both.isEmpty();
    }

    int touches(int commit) {
        index(isCommit(commit));
        Set<Integer> touched = new TreeSet<>();
        for (int test = 0; test < tests.size(); test++) {
            if (touch(commit, test)) {
                touched.add(test);
            }
        }
        return (int) bits(touched);
    }

    private List<Run> runsOf(int test) {
        return allRuns.stream().filter(run -> run.test == test).toList();
    }

    private List<Run> runsAt(int test, int commit) {
        return runsOf(test).stream().filter(run -> run.commit == commit).toList();
    }

    int runs(int test) {
        index(isTest(test));
        return runsOf(test).size();
    }

    int verdict(int test, int commit) {
        index(isTest(test) && isCommit(commit));
        List<Run> there = runsAt(test, commit);
        if (there.isEmpty()) {
            return 0;
        }
        if (there.stream().allMatch(Run::passed)) {
            return 1;
        }
        return there.stream().noneMatch(Run::passed) ? 2 : 3;
    }

    int failing(int test) {
        index(isTest(test));
        List<Run> all = runsOf(test);
        long failed = all.stream().filter(run -> !run.passed).count();
        return all.isEmpty() ? 0 : (int) Math.floor(failed * 100.0 / all.size() + 1e-9);
    }

    boolean isQuarantined(int test) {
        index(isTest(test));
        int mixed = 0;
        int looked = 0;
        for (int commit = changes.size() - 1; commit >= 0 && looked < window; commit--, looked++) {
            mixed += verdict(test, commit) == 3 ? 1 : 0;
        }
        return mixed >= limit;
    }

    int broken(int commit) {
        index(isCommit(commit));
        Set<Integer> failed = new TreeSet<>();
        for (int test = 0; test < tests.size(); test++) {
            if (verdict(test, commit) == 2 && !isQuarantined(test)) {
                failed.add(test);
            }
        }
        return (int) bits(failed);
    }

    long suspects(int test) {
        index(isTest(test));
        state(triages.containsKey(test));
        Triage triage = triages.get(test);
        Set<Integer> found = new TreeSet<>();
        for (int commit = 0; commit < changes.size(); commit++) {
            if (within(commit, triage.good + 1, triage.bad) && touch(commit, test)) {
                found.add(commit);
            }
        }
        return bits(found);
    }

    int contradictions(int test, int commit) {
        index(isTest(test) && isCommit(commit));
        if (!members(suspects(test)).contains(commit)) {
            return -1;
        }
        Triage triage = triages.get(test);
        int count = 0;
        for (Run run : runsOf(test)) {
            if (within(run.commit, triage.good, triage.bad)) {
                if (run.passed && run.commit >= commit) {
                    count++;
                }
                if (!run.passed && run.commit < commit) {
                    count++;
                }
            }
        }
        return count;
    }

    long candidates(int test) {
        Set<Integer> found = members(suspects(test));
        found.removeIf(commit -> contradictions(test, commit) > noise);
        return bits(found);
    }

    int likeliest(int test) {
        Set<Integer> found = members(suspects(test));
        int fewest = found.stream().mapToInt(commit -> contradictions(test, commit)).min().orElse(0);
        return found.stream().filter(commit -> contradictions(test, commit) == fewest).findFirst().orElse(-1);
    }

    int next(int test) {
        Set<Integer> candidates = members(candidates(test));
        Triage triage = triages.get(test);
        List<int[]> between = new ArrayList<>();
        for (int commit = triage.good + 1; commit < triage.bad; commit++) {
            int at = commit;
            long upTo = candidates.stream().filter(candidate -> candidate <= at).count();
            long behind = candidates.stream().filter(candidate -> candidate > at).count();
            between.add(new int[] {(int) Math.max(upTo, behind), runsAt(test, at).size(), at});
        }
        return between.stream().min(java.util.Arrays::compare).map(row -> row[2]).orElse(-1);
    }
}
