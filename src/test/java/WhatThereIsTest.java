/** Promises 13 to 18: commits, tests, budget, queued, partsOf, touches. */
final class WhatThereIsTest {
    private static final Class<IndexOutOfBoundsException> NO_SUCH = IndexOutOfBoundsException.class;

    private static final Check check = new Check();

    public static void main(String[] args) {
        promises13And14CommitsAndTests();
        promise15Budget();
        promise16Queued();
        promise17PartsOf();
        promise17PartsOfAlongChain();
        promise17PartsOfRefuses();
        promise18Touches();
        promise18TouchesRefuses();
        check.end();
    }

    private static void promises13And14CommitsAndTests() {
        FlakeTriage x = new FlakeTriage();
        for (int i = 1; i <= 40; i++) {
            x.addCommit(0);
            check.due("commits()", x.commits(), i);
        }
        check.due("tests() without tests", x.tests(), 0);
        for (int i = 1; i <= 12; i++) {
            x.addTest(0);
            check.due("tests()", x.tests(), i);
        }
        check.due("commits() with tests", x.commits(), 40);
    }

    private static void promise15Budget() {
        FlakeTriage x = Make.plain(3, 1);
        x.triage(0, 0, 2);
        x.enqueue(0);
        x.newDay(100);
        check.due("budget()", x.budget(), 100);
        for (int left = 99; left >= 0; left--) {
            x.take();
            check.due("budget() after a taking", x.budget(), left);
        }
        x.newDay(3);
        x.newDay(2);
        check.due("budget() of the later day", x.budget(), 2);
    }

    private static void promise16Queued() {
        FlakeTriage x = Make.plain(3, 2);
        x.triage(0, 0, 2);
        x.triage(1, 0, 2);
        check.due("queued() with tests in triage alone", x.queued(), 0);
        x.enqueue(1);
        check.due("queued()", x.queued(), 1);
        x.enqueue(0);
        check.due("queued()", x.queued(), 2);
        x.close(1);
        check.due("queued() after a close", x.queued(), 1);
    }

    private static void promise17PartsOf() {
        FlakeTriage x = new FlakeTriage();
        x.setUses(0, 2);
        x.setUses(1, 4 + 2);
        x.setUses(2, 1);
        x.setUses(8, 256);
        x.addTest(1);
        x.addTest(256);
        x.addTest(0);
        x.addTest(4 + 8);
        check.due("partsOf(0), round a ring", x.partsOf(0), 7);
        check.due("partsOf(1), a part that uses itself", x.partsOf(1), 256);
        check.due("partsOf(2), no parts", x.partsOf(2), 0);
        check.due("partsOf(3), two parts", x.partsOf(3), 15);
        x.setUses(1, 0);
        check.due("partsOf(0) when the ring is open", x.partsOf(0), 3);
        check.due("partsOf(3) then", x.partsOf(3), 15);
    }

    private static void promise17PartsOfAlongChain() {
        FlakeTriage up = new FlakeTriage();
        FlakeTriage down = new FlakeTriage();
        for (int part = 0; part < 15; part++) {
            up.setUses(part, 1 << part + 1);
            down.setUses(part + 1, 1 << part);
        }
        up.addTest(1);
        down.addTest(32768);
        check.due("partsOf(0) along a chain upwards", up.partsOf(0), 65535);
        check.due("partsOf(0) along a chain downwards", down.partsOf(0), 65535);
        down.setUses(1, 0);
        check.due("partsOf(0) along a shorter chain", down.partsOf(0), 65534);
    }

    private static void promise17PartsOfRefuses() {
        FlakeTriage x = Make.plain(3, 1);
        check.refuses(x, "partsOf(-1)", NO_SUCH, () -> x.partsOf(-1));
        check.refuses(x, "partsOf(1)", NO_SUCH, () -> x.partsOf(1));
        check.refuses(x, "partsOf(greatest)", NO_SUCH, () -> x.partsOf(Integer.MAX_VALUE));
        check.refuses(x, "partsOf(least)", NO_SUCH, () -> x.partsOf(Integer.MIN_VALUE));
    }

    private static void promise18Touches() {
        FlakeTriage x = new FlakeTriage();
        for (int test = 0; test < 12; test++) {
            x.addTest(1 << test);
        }
        x.addCommit(0);
        x.addCommit(65535);
        x.addCommit(1 + 2048);
        x.addCommit(4096);
        check.due("touches(0)", x.touches(0), 0);
        check.due("touches(1)", x.touches(1), 4095);
        check.due("touches(2)", x.touches(2), 1 + 2048);
        check.due("touches(3)", x.touches(3), 0);
        x.setUses(5, 64);
        x.setUses(6, 4096);
        check.due("touches(3) as parts use each other then", x.touches(3), 32 + 64);
        x.setUses(6, 0);
        check.due("touches(3) as they do no longer", x.touches(3), 0);
    }

    private static void promise18TouchesRefuses() {
        FlakeTriage x = Make.plain(2, 3);
        check.refuses(x, "touches(-1)", NO_SUCH, () -> x.touches(-1));
        check.refuses(x, "touches(2)", NO_SUCH, () -> x.touches(2));
        check.refuses(x, "touches(greatest)", NO_SUCH, () -> x.touches(Integer.MAX_VALUE));
        check.refuses(x, "touches(least)", NO_SUCH, () -> x.touches(Integer.MIN_VALUE));
    }
}
