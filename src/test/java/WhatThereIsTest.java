/** Promises 13 to 18 in ordinary use; their boundary cases are in EdgesOfWhatThereIsTest. */
final class WhatThereIsTest {
    public static void main(String[] args) {
        Cases.run(WhatThereIsTest.class);
    }

    static void promise13Commits(Check check) {
        FlakeTriage x = Make.plain(5, 3);
        check.due("commits()", x.commits(), 5);
        x.addCommit(1);
        check.due("commits()", x.commits(), 6);
    }

    static void promise14Tests(Check check) {
        FlakeTriage x = Make.plain(5, 3);
        check.due("tests()", x.tests(), 3);
        x.addTest(1);
        check.due("tests()", x.tests(), 4);
    }

    static void promise15Budget(Check check) {
        FlakeTriage x = Make.inQueue(3, 2);
        x.newDay(9);
        check.due("budget()", x.budget(), 9);
        x.take();
        x.take();
        check.due("budget() behind two takings", x.budget(), 7);
        x.newDay(3);
        check.due("budget() of the next day", x.budget(), 3);
    }

    static void promise16Queued(Check check) {
        FlakeTriage x = Make.inTriage(3, 3);
        x.enqueue(1);
        check.due("queued()", x.queued(), 1);
        x.enqueue(0);
        x.enqueue(2);
        check.due("queued()", x.queued(), 3);
        x.close(1);
        check.due("queued() behind a close", x.queued(), 2);
    }

    static void promise17PartsOf(Check check) {
        FlakeTriage x = new FlakeTriage();
        x.setUses(0, 2);
        x.setUses(1, 4 + 2);
        x.setUses(2, 1);
        x.setUses(8, 256);
        x.addTest(1);
        x.addTest(256);
        x.addTest(0);
        x.addTest(4 + 8);
        check.due("partsOf(0), round a ring", x.partsOf(0), 7);
        check.due("partsOf(1), a part that uses itself", x.partsOf(1), 256);
        check.due("partsOf(2), no parts", x.partsOf(2), 0);
        check.due("partsOf(3), two parts", x.partsOf(3), 15);
        x.setUses(1, 0);
        check.due("partsOf(0) when the ring is open", x.partsOf(0), 3);
        check.due("partsOf(3) then", x.partsOf(3), 15);
    }

    static void promise18Touches(Check check) {
        FlakeTriage x = new FlakeTriage();
        for (int test = 0; test < 12; test++) {
            x.addTest(1 << test);
        }
        x.addCommit(0);
        x.addCommit(65535);
        x.addCommit(1 + 2048);
        x.addCommit(4096);
        check.due("touches(0)", x.touches(0), 0);
        check.due("touches(1)", x.touches(1), 4095);
        check.due("touches(2)", x.touches(2), 1 + 2048);
        check.due("touches(3)", x.touches(3), 0);
        x.setUses(5, 64);
        x.setUses(6, 4096);
        check.due("touches(3) as parts use each other then", x.touches(3), 32 + 64);
        x.setUses(6, 0);
        check.due("touches(3) as they do no longer", x.touches(3), 0);
    }
}
