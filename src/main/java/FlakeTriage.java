/** A finder of unsteady tests and of changes that break tests. */
public final class FlakeTriage {

    private static final int PARTS = 16;
    private static final int ALL_PARTS = 65535;
    private static final int MAX_COMMITS = 40;
    private static final int MAX_TESTS = 12;
    private static final int MAX_RUNS = 200;
    private static final int MAX_LIMIT = 10;
    private static final int MAX_WINDOW = 40;
    private static final int MAX_NOISE = 20;
    private static final int MAX_BUDGET = 100;

    private static final int PASSED = 1;
    private static final int FAILED = 2;
    private static final int MIXED = 3;

    private final int[] usedByPart = new int[PARTS];
    private final int[] changedBy = new int[MAX_COMMITS];
    private final int[] usedByTest = new int[MAX_TESTS];
    private final RunLog log = new RunLog();

    private final boolean[] inTriage = new boolean[MAX_TESTS];
    private final int[] goodOf = new int[MAX_TESTS];
    private final int[] badOf = new int[MAX_TESTS];

    // The place of each test in the queue, from 1 on; 0 for one that is not in it.
    private final int[] placeOf = new int[MAX_TESTS];
    private int queueLength = 0;

    private int commitCount = 0;
    private int testCount = 0;
    private int limit = 2;
    private int window = 10;
    private int noise = 0;
    private int budgetLeft = 0;

    public FlakeTriage() {
    }

    // ---- parts, commits, tests, settings

    public int setUses(int part, int parts) throws IndexOutOfBoundsException, IllegalArgumentException {
        if (part < 0 || part >= PARTS) {
            throw new IndexOutOfBoundsException("no such part");
        }
        needParts(parts);
        int before = usedByPart[part];
        usedByPart[part] = parts;
        return before;
    }

    public int addCommit(int parts) throws IllegalArgumentException, IllegalStateException {
        needParts(parts);
        int commit = commitCount;
        if (commit >= MAX_COMMITS) {
            throw new IllegalStateException("there are 40 commits");
        }
        changedBy[commit] = parts;
        commitCount = commit + 1;
        return commit;
    }

    public int addTest(int parts) throws IllegalArgumentException, IllegalStateException {
        needParts(parts);
        int test = testCount;
        if (test >= MAX_TESTS) {
            throw new IllegalStateException("there are 12 tests");
        }
        usedByTest[test] = parts;
        testCount = test + 1;
        return test;
    }

    public void setQuarantine(int limit, int window) throws IllegalArgumentException {
        if (limit < 1 || limit > MAX_LIMIT) {
            throw new IllegalArgumentException("the limit is not 1 to 10");
        }
        if (window < 1 || window > MAX_WINDOW) {
            throw new IllegalArgumentException("the window is not 1 to 40");
        }
        this.limit = limit;
        this.window = window;
    }

    public int setNoise(int runs) throws IllegalArgumentException {
        if (runs < 0 || runs > MAX_NOISE) {
            throw new IllegalArgumentException("the noise is not 0 to 20");
        }
        int before = noise;
        noise = runs;
        return before;
    }

    // ---- runs and triage

    public int record(int test, int commit, boolean passed)
            throws IndexOutOfBoundsException, IllegalStateException {
        needTest(test);
        needCommit(commit);
        if (!log.add(test, commit, passed)) {
            throw new IllegalStateException("the test has 200 runs");
        }
        return log.verdictAt(test, commit);
    }

    public int triage(int test, int good, int bad) throws IndexOutOfBoundsException, IllegalArgumentException {
        needTest(test);
        needCommit(good);
        needCommit(bad);
        if (bad <= good) {
            throw new IllegalArgumentException("the bad commit is not later than the good one");
        }
        inTriage[test] = true;
        goodOf[test] = good;
        badOf[test] = bad;
        return Long.bitCount(candidatesOf(test));
    }

    public int close(int test) throws IndexOutOfBoundsException, IllegalStateException {
        needTest(test);
        needTriage(test);
        // Runs contradict each other suspect more than an only candidate, so it is the likeliest one.
        int culprit = Long.bitCount(candidatesOf(test)) == 1 ? likeliestOf(test) : -1;
        leaveQueue(test);
        inTriage[test] = false;
        return culprit;
    }

    // ---- the queue

    public int enqueue(int test) throws IndexOutOfBoundsException, IllegalStateException {
        needTest(test);
        needTriage(test);
        if (placeOf[test] != 0) {
            throw new IllegalStateException("the test is in the queue already");
        }
        joinQueue(test);
        return queueLength;
    }

    public int newDay(int budget) throws IllegalArgumentException {
        if (budget < 0 || budget > MAX_BUDGET) {
            throw new IllegalArgumentException("the budget is not 0 to 100");
        }
        int before = budgetLeft;
        budgetLeft = budget;
        return before;
    }

    public int take() throws IllegalStateException {
        int test = firstInQueue();
        if (test < 0) {
            throw new IllegalStateException("the queue is empty");
        }
        if (budgetLeft == 0) {
            throw new IllegalStateException("nothing is left of the budget");
        }
        budgetLeft--;
        leaveQueue(test);
        if (Long.bitCount(candidatesOf(test)) > 1) {
            joinQueue(test);
        }
        return test;
    }

    // ---- what there is; nothing from here on changes anything

    public int commits() {
        return commitCount;
    }

    public int tests() {
        return testCount;
    }

    public int budget() {
        return budgetLeft;
    }

    public int queued() {
        return queueLength;
    }

    public int partsOf(int test) throws IndexOutOfBoundsException {
        needTest(test);
        return allPartsOf(test);
    }

    public int touches(int commit) throws IndexOutOfBoundsException {
        needCommit(commit);
        int touched = 0;
        for (int test = 0; test < testCount; test++) {
            if ((changedBy[commit] & allPartsOf(test)) != 0) {
                touched |= 1 << test;
            }
        }
        return touched;
    }

    // ---- verdicts

    public int runs(int test) throws IndexOutOfBoundsException {
        needTest(test);
        return log.countOf(test);
    }

    public int verdict(int test, int commit) throws IndexOutOfBoundsException {
        needTest(test);
        needCommit(commit);
        return log.verdictAt(test, commit);
    }

    public int failing(int test) throws IndexOutOfBoundsException {
        needTest(test);
        int all = log.countOf(test);
        return all == 0 ? 0 : 100 * log.failuresOf(test) / all;
    }

    public boolean isQuarantined(int test) throws IndexOutOfBoundsException {
        needTest(test);
        return isUnsteady(test);
    }

    public int broken(int commit) throws IndexOutOfBoundsException {
        needCommit(commit);
        int failed = 0;
        for (int test = 0; test < testCount; test++) {
            if (log.verdictAt(test, commit) == FAILED && !isUnsteady(test)) {
                failed |= 1 << test;
            }
        }
        return failed;
    }

    // ---- culprits; each of these throws IllegalStateException if the test is not in triage

    public long suspects(int test) throws IndexOutOfBoundsException, IllegalStateException {
        needTest(test);
        needTriage(test);
        return suspectsOf(test);
    }

    public int contradictions(int test, int commit) throws IndexOutOfBoundsException, IllegalStateException {
        needTest(test);
        needCommit(commit);
        needTriage(test);
        if (!has(suspectsOf(test), commit)) {
            return -1;
        }
        return log.contradicting(test, goodOf[test], badOf[test], commit);
    }

    public long candidates(int test) throws IndexOutOfBoundsException, IllegalStateException {
        needTest(test);
        needTriage(test);
        return candidatesOf(test);
    }

    public int likeliest(int test) throws IndexOutOfBoundsException, IllegalStateException {
        needTest(test);
        needTriage(test);
        return likeliestOf(test);
    }

    public int next(int test) throws IndexOutOfBoundsException, IllegalStateException {
        needTest(test);
        needTriage(test);
        long candidates = candidatesOf(test);
        int best = -1;
        int bestWeight = 0;
        int bestRuns = 0;
        for (int commit = goodOf[test] + 1; commit < badOf[test]; commit++) {
            int weight = weightAt(candidates, commit);
            int runsThere = log.countAt(test, commit);
            if (best < 0 || weight < bestWeight || weight == bestWeight && runsThere < bestRuns) {
                best = commit;
                bestWeight = weight;
                bestRuns = runsThere;
            }
        }
        return best;
    }

    // ---- what arguments must be

    private static void needParts(int parts) {
        if (parts < 0 || parts > ALL_PARTS) {
            throw new IllegalArgumentException("parts are not 0 to 65535");
        }
    }

    private void needTest(int test) {
        if (test < 0 || test >= testCount) {
            throw new IndexOutOfBoundsException("no such test");
        }
    }

    private void needCommit(int commit) {
        if (commit < 0 || commit >= commitCount) {
            throw new IndexOutOfBoundsException("no such commit");
        }
    }

    private void needTriage(int test) {
        if (!inTriage[test]) {
            throw new IllegalStateException("the test is not in triage");
        }
    }

    // ---- parts and quarantine

    private static boolean has(long set, int number) {
        return ((set >> number) & 1) != 0;
    }

    private int allPartsOf(int test) {
        int all = usedByTest[test];
        // A round that changes something adds a part, so there are at most as many such rounds as parts.
        for (int round = 0; round < PARTS; round++) {
            int wider = all;
            for (int part = 0; part < PARTS; part++) {
                if (has(all, part)) {
                    wider |= usedByPart[part];
                }
            }
            if (wider == all) {
                break;
            }
            all = wider;
        }
        return all;
    }

    private boolean isUnsteady(int test) {
        int mixed = 0;
        for (int commit = Math.max(0, commitCount - window); commit < commitCount; commit++) {
            if (log.verdictAt(test, commit) == MIXED) {
                mixed++;
            }
        }
        return mixed >= limit;
    }

    // ---- culprits of a test in triage

    private long suspectsOf(int test) {
        int parts = allPartsOf(test);
        long suspects = 0;
        for (int commit = goodOf[test] + 1; commit <= badOf[test]; commit++) {
            if ((changedBy[commit] & parts) != 0) {
                suspects |= 1L << commit;
            }
        }
        return suspects;
    }

    private long candidatesOf(int test) {
        long suspects = suspectsOf(test);
        int good = goodOf[test];
        int bad = badOf[test];
        long candidates = 0;
        int contradicting = log.passesWithin(test, good, bad);
        for (int commit = good + 1; commit <= bad; commit++) {
            contradicting += log.riseBehind(test, commit - 1);
            if (has(suspects, commit) && contradicting <= noise) {
                candidates |= 1L << commit;
            }
        }
        return candidates;
    }

    private int likeliestOf(int test) {
        long suspects = suspectsOf(test);
        int good = goodOf[test];
        int bad = badOf[test];
        int likeliest = -1;
        int fewest = 0;
        int contradicting = log.passesWithin(test, good, bad);
        for (int commit = good + 1; commit <= bad; commit++) {
            contradicting += log.riseBehind(test, commit - 1);
            if (has(suspects, commit) && (likeliest < 0 || contradicting < fewest)) {
                likeliest = commit;
                fewest = contradicting;
            }
        }
        return likeliest;
    }

    private static int weightAt(long candidates, int commit) {
        int behind = Long.bitCount(candidates >> (commit + 1));
        int upToHere = Long.bitCount(candidates) - behind;
        return Math.max(upToHere, behind);
    }

    // ---- places in the queue

    private int firstInQueue() {
        for (int test = 0; test < testCount; test++) {
            if (placeOf[test] == 1) {
                return test;
            }
        }
        return -1;
    }

    private void joinQueue(int test) {
        queueLength++;
        placeOf[test] = queueLength;
    }

    private void leaveQueue(int test) {
        int place = placeOf[test];
        if (place == 0) {
            return;
        }
        for (int other = 0; other < testCount; other++) {
            if (placeOf[other] > place) {
                placeOf[other]--;
            }
        }
        placeOf[test] = 0;
        queueLength--;
    }

    /** The runs of all tests: one by one, and how many passed and failed at each commit. */
    private static final class RunLog {

        private final int[] count = new int[MAX_TESTS];
        private final int[][] commitOfRun = new int[MAX_TESTS][MAX_RUNS];
        // 1 for a run that passed, 0 for one that failed.
        private final int[][] passedOfRun = new int[MAX_TESTS][MAX_RUNS];
        private final int[][] passes = new int[MAX_TESTS][MAX_COMMITS];
        private final int[][] failures = new int[MAX_TESTS][MAX_COMMITS];

        /** Answers false, and keeps nothing, if the test has all the runs that it may have. */
        boolean add(int test, int commit, boolean passed) {
            int run = count[test];
            if (run >= MAX_RUNS) {
                return false;
            }
            commitOfRun[test][run] = commit;
            passedOfRun[test][run] = passed ? 1 : 0;
            if (passed) {
                passes[test][commit]++;
            } else {
                failures[test][commit]++;
            }
            count[test] = run + 1;
            return true;
        }

        int countOf(int test) {
            return count[test];
        }

        int countAt(int test, int commit) {
            return passes[test][commit] + failures[test][commit];
        }

        int failuresOf(int test) {
            int sum = 0;
            for (int commit = 0; commit < MAX_COMMITS; commit++) {
                sum += failures[test][commit];
            }
            return sum;
        }

        int verdictAt(int test, int commit) {
            // MIXED is the sum of PASSED and FAILED.
            return (passes[test][commit] > 0 ? PASSED : 0) + (failures[test][commit] > 0 ? FAILED : 0);
        }

        int contradicting(int test, int good, int bad, int suspect) {
            int found = 0;
            for (int run = 0; run < count[test]; run++) {
                int commit = commitOfRun[test][run];
                boolean within = commit >= good && commit <= bad;
                boolean passed = passedOfRun[test][run] == 1;
                boolean withSuspect = commit >= suspect;
                if (within && passed == withSuspect) {
                    found++;
                }
            }
            return found;
        }

        int passesWithin(int test, int good, int bad) {
            int sum = 0;
            for (int commit = good; commit <= bad; commit++) {
                sum += passes[test][commit];
            }
            return sum;
        }

        /** How many more runs contradict the commit behind this one than this one. */
        int riseBehind(int test, int commit) {
            return failures[test][commit] - passes[test][commit];
        }
    }
}
