/**
 * Each sentence of the document that names a boundary (too small, too large, empty, full,
 * a wrap-around, none such) has a test here, at the boundary and on both sides of it. That
 * refused calls change nothing is tested by ProcessRoomRefusals.
 */
public final class ProcessRoomBoundaries {
    private static final int NONE = -1;
    private static final int MIN = Integer.MIN_VALUE;
    private static final int MAX = Integer.MAX_VALUE;
    private static final int[] BELOW = {-1, -2, MIN};

    private static String sentence = "";
    private static int wrong = 0;

    public static void main(String[] args) {
        terms();
        toWake();
        toPutAside();
        toSignal();
        endOfAStep();
        changingCalls();
        questions();
        fiveHundredAndTwelveCalls();
        System.out.println(wrong == 0 ? "all boundaries hold" : wrong + " answers are not as due");
        if (wrong != 0) {
            System.exit(1);
        }
    }

    private static void terms() {
        noneIsMadeAtFirst();
        processesAre0To31();
        prioritiesAre1To8();
        placesAreAnyInt();
        semaphoresAre0To15();
        aReadyRowForEachPriority();
        inOneRowAtMost();
        thePresentOne();
    }

    private static void toWake() {
        wakeAgainstEachPriority();
        wakeWithNoPresentOne();
    }

    private static void toPutAside() {
        putAsideToTheHighestThatHasAny();
        yieldOnlyToItsOwnPriority();
    }

    private static void toSignal() {
        for (int waiting : new int[] {0, 1, 2, 31, 32}) {
            signalWithSoManyWaiting(waiting);
        }
    }

    private static void endOfAStep() {
        postedAreSignalledInTheirOrder();
        postedAreSignalledAtTheEndOnly();
        postedFirstThenTheChange();
        noChangeWantedKeepsThePlace();
        changeToAnother();
        changeToItself();
        changeToNone();
        changeFromNone();
        changeFromOneThatEnded();
    }

    private static void changingCalls() {
        makeOnceUntilItEnds();
        resumeOfEachKind();
        suspendDownToNone();
        endDownToNone();
        awaitWithSoManySignals();
        awaitWithNoPresentOne();
        postUpTo40();
        stepWithNothingToDo();
        workFrom1To1000();
        workWhenAChangeIsWanted();
        hereWrapsAround();
        takeFromEachPartOfARow();
        rateFromEachToEach();
    }

    private static void questions() {
        activeAndPresentWithNone();
        askAboutOneNotMade();
        rowTellsItsNumber();
        atInRowsOfEachLength();
        atInRowsThatAreNone();
        extraNeverBelow0();
        postedUpToTheLast();
    }

    private static void fiveHundredAndTwelveCalls() {
        signalsOf512Calls();
        workOf512Calls();
        postsOf512Calls();
        makesAndEndsOf512Calls();
        waitsOf512Calls();
        yieldsOf512Calls();
    }

    // ---- what the tests share

    private static void says(String text) {
        sentence = text;
    }

    private static void due(String what, int got, int want) {
        if (got != want) {
            wrong++;
            System.out.println("\"" + sentence + "\": " + what + " answered " + got + ", due is " + want);
        }
    }

    private static void due(String what, boolean got, boolean want) {
        due(what, got ? 1 : 0, want ? 1 : 0);
    }

    private static void dueRow(String when, ProcessRoom x, int row, int... want) {
        for (int i = 0; i < want.length; i++) {
            due(when + ": at(" + row + ", " + i + ")", x.at(row, i), want[i]);
            due(when + ": row(" + want[i] + ")", x.row(want[i]), row);
        }
        due(when + ": at(" + row + ", " + want.length + ")", x.at(row, want.length), NONE);
    }

    /** Processes 0, 1, 2 .. of these priorities are made, with places 100, 200, 300 .. */
    private static ProcessRoom made(int... priorities) {
        ProcessRoom x = new ProcessRoom();
        for (int p = 0; p < priorities.length; p++) {
            x.make(p, priorities[p], 100 * (p + 1));
        }
        return x;
    }

    /** The same, and process 0 is active, the others are in no row. */
    private static ProcessRoom started(int... priorities) {
        ProcessRoom x = made(priorities);
        x.resume(0);
        x.step();
        return x;
    }

    /** All 32 are made with one priority; 0 is active, the others are ready in order. */
    private static ProcessRoom crowd(int priority) {
        ProcessRoom x = new ProcessRoom();
        for (int p = 0; p < 32; p++) {
            x.make(p, priority, p);
            x.resume(p);
        }
        x.step();
        return x;
    }

    // ---- terms

    private static void noneIsMadeAtFirst() {
        says("PROCESSES are 0 .. 31, none is MADE at first");
        ProcessRoom x = new ProcessRoom();
        for (int p = 0; p < 32; p++) {
            due("priority(" + p + ")", x.priority(p), NONE);
            due("place(" + p + ")", x.place(p), 0);
            due("row(" + p + ")", x.row(p), NONE);
            due("resume(" + p + ")", x.resume(p), false);
            due("take(" + p + ")", x.take(p), false);
            due("rate(" + p + ", 1)", x.rate(p, 1), NONE);
        }
        says("there is a number HERE, 0 at first");
        due("here()", x.here(), 0);
        says("Whether a change is wanted");
        due("wanted()", x.wanted(), false);
        says("nothing is posted");
        due("posted(0)", x.posted(0), NONE);
        due("step()", x.step(), NONE);
        for (int s = 0; s < 16; s++) {
            due("extra(" + s + ")", x.extra(s), 0);
        }
    }

    private static void processesAre0To31() {
        says("PROCESSES are 0 .. 31");
        for (int p : new int[] {0, 1, 30, 31}) {
            ProcessRoom x = new ProcessRoom();
            due("make(" + p + ", 3, 9)", x.make(p, 3, 9), true);
            due("priority(" + p + ")", x.priority(p), 3);
            due("place(" + p + ")", x.place(p), 9);
            due("row(" + p + ")", x.row(p), 0);
            due("rate(" + p + ", 4)", x.rate(p, 4), 3);
            due("resume(" + p + ")", x.resume(p), true);
            due("step()", x.step(), p);
            due("await(0)", x.await(0), 0);
            due("at(16, 0)", x.at(16, 0), p);
            due("take(" + p + ")", x.take(p), true);
        }
        for (int p : BELOW) {
            noSuchProcess(p);
        }
        for (int p : new int[] {32, 33, 63, 64, 256, MAX}) {
            noSuchProcess(p);
        }
    }

    private static void noSuchProcess(int p) {
        ProcessRoom empty = new ProcessRoom();
        due("make(" + p + ", 3, 9)", empty.make(p, 3, 9), false);
        ProcessRoom x = crowd(5);
        due("make(" + p + ", 3, 9)", x.make(p, 3, 9), false);
        due("resume(" + p + ")", x.resume(p), false);
        due("take(" + p + ")", x.take(p), false);
        due("rate(" + p + ", 4)", x.rate(p, 4), NONE);
        due("place(" + p + ")", x.place(p), 0);
        due("priority(" + p + ")", x.priority(p), NONE);
        due("row(" + p + ")", x.row(p), NONE);
    }

    private static void prioritiesAre1To8() {
        says("a PRIORITY (1 .. 8)");
        for (int priority : new int[] {MIN, -8, -1, 0, 1, 2, 7, 8, 9, 10, 16, MAX}) {
            boolean is = priority >= 1 && priority <= 8;
            ProcessRoom x = started(4);
            due("make(1, " + priority + ", 9)", x.make(1, priority, 9), is);
            due("priority(1)", x.priority(1), is ? priority : NONE);
            due("rate(0, " + priority + ")", x.rate(0, priority), is ? 4 : NONE);
            due("priority(0)", x.priority(0), is ? priority : 4);
        }
    }

    private static void placesAreAnyInt() {
        says("and a PLACE, where it goes on");
        for (int place : new int[] {MIN, MIN + 1, -1, 0, 1, MAX - 1, MAX}) {
            ProcessRoom x = new ProcessRoom();
            due("make(7, 1, " + place + ")", x.make(7, 1, place), true);
            due("place(7)", x.place(7), place);
            x.resume(7);
            due("step()", x.step(), 7);
            due("here()", x.here(), place);
            x.suspend();
            x.step();
            due("place(7) after its turn", x.place(7), place);
        }
    }

    private static void semaphoresAre0To15() {
        says("SEMAPHORES are 0 .. 15; each has a number of signals TOO MANY, 0 at first, and a row of processes");
        for (int s : new int[] {0, 1, 14, 15}) {
            ProcessRoom x = started(4);
            due("extra(" + s + ")", x.extra(s), 0);
            due("signal(" + s + ")", x.signal(s), true);
            due("extra(" + s + ")", x.extra(s), 1);
            due("post(" + s + ")", x.post(s), 1);
            due("posted(0)", x.posted(0), s);
            due("await(" + s + ")", x.await(s), 1);
            due("await(" + s + ")", x.await(s), 0);
            dueRow("waiting", x, 16 + s, 0);
            due("step()", x.step(), 0);
            for (int other = 0; other < 16; other++) {
                due("extra(" + other + ")", x.extra(other), 0);
                due("at(" + (16 + other) + ", 0)", x.at(16 + other, 0), NONE);
            }
        }
        for (int s : BELOW) {
            noSuchSemaphore(s);
        }
        for (int s : new int[] {16, 17, 31, 32, 256, MAX}) {
            noSuchSemaphore(s);
        }
    }

    private static void noSuchSemaphore(int s) {
        ProcessRoom x = started(4);
        due("await(" + s + ")", x.await(s), NONE);
        due("signal(" + s + ")", x.signal(s), false);
        due("post(" + s + ")", x.post(s), NONE);
        due("extra(" + s + ")", x.extra(s), NONE);
        due("present()", x.present(), 0);
        due("posted(0)", x.posted(0), NONE);
    }

    private static void aReadyRowForEachPriority() {
        says("For each priority there is a row of READY processes");
        ProcessRoom x = started(8);
        for (int p = 1; p <= 16; p++) {
            x.make(p, 1 + (p - 1) % 8, 0);
            x.resume(p);
        }
        for (int priority = 1; priority <= 8; priority++) {
            dueRow("two of each", x, priority, priority, priority + 8);
        }
    }

    private static void inOneRowAtMost() {
        says("A process is in one row at most");
        ProcessRoom x = crowd(3);
        x.await(0);
        x.resume(0);
        eachInItsRowAlone(x, "resumed while it waits");
        x = crowd(3);
        x.rate(0, 1);
        x.signal(5);
        x.await(5);
        x.rate(9, 8);
        x.take(9);
        x.resume(9);
        eachInItsRowAlone(x, "rated, taken and resumed");
        x = crowd(3);
        for (int p = 0; p < 32; p++) {
            x.await(p % 16);
        }
        eachInItsRowAlone(x, "all waiting");
    }

    private static void eachInItsRowAlone(ProcessRoom x, String when) {
        int[] found = new int[32];
        for (int row = 1; row < 32; row = row == 8 ? 16 : row + 1) {
            for (int i = 0; i < 32; i++) {
                int p = x.at(row, i);
                if (p == NONE) {
                    break;
                }
                found[p]++;
                due(when + ": row(" + p + ")", x.row(p), row);
            }
        }
        for (int p = 0; p < 32; p++) {
            due(when + ": rows of " + p, found[p], x.row(p) == 0 ? 0 : 1);
        }
    }

    private static void thePresentOne() {
        says("THE PRESENT ONE is, if a change is wanted, that to which, otherwise the active one");
        ProcessRoom x = made(4, 6);
        due("none active: present()", x.present(), NONE);
        x.resume(0);
        due("none active, change wanted: present()", x.present(), 0);
        x.step();
        due("active: present()", x.present(), 0);
        x.resume(1);
        due("active, change wanted to another: present()", x.present(), 1);
        x.suspend();
        due("active, change wanted to itself: present()", x.present(), 0);
        x.suspend();
        due("active, change wanted to none: present()", x.present(), NONE);
        due("active()", x.active(), 0);
        x.step();
        due("none active again: present()", x.present(), NONE);
    }

    // ---- to wake

    private static void wakeAgainstEachPriority() {
        says("if there is a present one whose priority is not less, the process goes to the end of the ready row");
        for (int present = 1; present <= 8; present++) {
            for (int woken = 1; woken <= 8; woken++) {
                for (int way = 0; way < 3; way++) {
                    wake(present, woken, way, true);
                    wake(present, woken, way, false);
                }
            }
        }
    }

    /** Wakes process 1 by resume (way 0), signal (1) or post (2); 2 and 3 are in the two rows already. */
    private static void wake(int present, int woken, int way, boolean isActive) {
        String when = "present " + present + ", woken " + woken + ", way " + way + (isActive ? "" : ", wanted");
        ProcessRoom x = made(8, woken, present, woken);
        if (way != 0) {
            x.resume(1);
            x.step();
            x.await(9);
            x.step();
        }
        x.resume(0);
        if (isActive) {
            x.step();
        }
        x.resume(2);
        x.resume(3);
        x.rate(0, present);
        if (way == 0) {
            due(when + ": resume(1)", x.resume(1), true);
        } else if (way == 1) {
            due(when + ": signal(9)", x.signal(9), true);
        } else {
            due(when + ": post(9)", x.post(9), 1);
        }
        boolean goesFirst = present < woken;
        if (way == 2) {
            due(when + ": step()", x.step(), goesFirst ? 1 : 0);
            due(when + ": wanted()", x.wanted(), false);
        } else {
            due(when + ": active()", x.active(), isActive ? 0 : NONE);
            due(when + ": wanted()", x.wanted(), goesFirst || !isActive);
        }
        due(when + ": present()", x.present(), goesFirst ? 1 : 0);
        due(when + ": row of the present one", x.row(goesFirst ? 1 : 0), 0);
        if (goesFirst) {
            dueRow(when, x, present, 2, 0);
            dueRow(when, x, woken, 3);
        } else if (present == woken) {
            dueRow(when, x, woken, 2, 3, 1);
        } else {
            dueRow(when, x, present, 2);
            dueRow(when, x, woken, 3, 1);
        }
    }

    private static void wakeWithNoPresentOne() {
        says("Otherwise the present one, if there is one, goes to the end of the ready row");
        for (int priority = 1; priority <= 8; priority++) {
            ProcessRoom x = made(priority);
            due("new room: resume(0)", x.resume(0), true);
            due("new room: present()", x.present(), 0);
            due("new room: wanted()", x.wanted(), true);
            due("new room: row(0)", x.row(0), 0);
            dueRow("new room", x, priority);
            ProcessRoom y = started(8, priority);
            y.suspend();
            due("wanted to none: resume(1)", y.resume(1), true);
            due("wanted to none: present()", y.present(), 1);
            due("wanted to none: active()", y.active(), 0);
            due("wanted to none: row(0)", y.row(0), 0);
            due("wanted to none: row(1)", y.row(1), 0);
            dueRow("wanted to none", y, 8);
            due("wanted to none: step()", y.step(), 1);
        }
    }

    // ---- to put aside

    private static void putAsideToTheHighestThatHasAny() {
        says("a change is wanted to the first process of the ready row of the highest priority that has any; to none, if no process is ready");
        for (int ready = 0; ready < 256; ready++) {
            for (int way = 0; way < 3; way++) {
                putAside(ready, way);
            }
        }
    }

    /** Process 0 is active; of each priority r in the set, 2r - 1 and 2r are ready. */
    private static ProcessRoom withReady(int set) {
        ProcessRoom x = started(8);
        for (int r = 1; r <= 8; r++) {
            if (has(set, r)) {
                x.make(2 * r - 1, r, r);
                x.make(2 * r, r, r);
                x.resume(2 * r - 1);
                x.resume(2 * r);
            }
        }
        return x;
    }

    private static boolean has(int set, int r) {
        return (set >> (r - 1) & 1) == 1;
    }

    private static int highestOf(int set) {
        int highest = 0;
        for (int r = 1; r <= 8; r++) {
            if (has(set, r)) {
                highest = r;
            }
        }
        return highest;
    }

    private static void putAside(int ready, int way) {
        String when = "ready " + Integer.toBinaryString(ready) + ", way " + way;
        ProcessRoom x = withReady(ready);
        if (way == 0) {
            due(when + ": suspend()", x.suspend(), 0);
        } else if (way == 1) {
            due(when + ": end()", x.end(), 0);
        } else {
            due(when + ": await(2)", x.await(2), 0);
        }
        int highest = highestOf(ready);
        int next = highest == 0 ? NONE : 2 * highest - 1;
        due(when + ": present()", x.present(), next);
        due(when + ": wanted()", x.wanted(), true);
        due(when + ": active()", x.active(), way == 1 ? NONE : 0);
        due(when + ": row(0)", x.row(0), way == 0 ? 0 : way == 1 ? NONE : 18);
        for (int r = 1; r <= 8; r++) {
            if (r == highest) {
                dueRow(when, x, r, 2 * r);
            } else if (has(ready, r)) {
                dueRow(when, x, r, 2 * r - 1, 2 * r);
            } else {
                dueRow(when, x, r);
            }
        }
        due(when + ": step()", x.step(), next);
        due(when + ": here()", x.here(), highest);
    }

    private static void yieldOnlyToItsOwnPriority() {
        says("The present one, if some process is ready of its own priority, goes to the end of their row, and is put aside");
        for (int ready = 0; ready < 256; ready++) {
            for (int own = 1; own <= 8; own++) {
                yieldWith(ready, own);
            }
        }
        for (int others : new int[] {0, 1, 2, 31}) {
            yieldToSoMany(others);
        }
        due("new room: yield()", new ProcessRoom().yield(), false);
        ProcessRoom x = started(4);
        x.suspend();
        due("wanted to none: yield()", x.yield(), false);
        x.step();
        due("none active: yield()", x.yield(), false);
    }

    private static void yieldToSoMany(int others) {
        ProcessRoom x = started(4);
        for (int p = 1; p <= others; p++) {
            x.make(p, 4, p);
            x.resume(p);
        }
        String when = others + " ready";
        due(when + ": yield()", x.yield(), others > 0);
        due(when + ": present()", x.present(), others > 0 ? 1 : 0);
        due(when + ": at the end of the row", x.at(4, others - 1), others > 0 ? 0 : NONE);
        due(when + ": past the end", x.at(4, others), NONE);
    }

    private static void yieldWith(int ready, int own) {
        String when = "ready " + Integer.toBinaryString(ready) + ", own " + own;
        ProcessRoom x = withReady(ready);
        x.rate(0, own);
        due(when + ": yield()", x.yield(), has(ready, own));
        due(when + ": wanted()", x.wanted(), has(ready, own));
        if (!has(ready, own)) {
            due(when + ": present()", x.present(), 0);
            due(when + ": row(0)", x.row(0), 0);
            return;
        }
        int highest = highestOf(ready);
        due(when + ": present()", x.present(), 2 * highest - 1);
        if (highest == own) {
            dueRow(when, x, own, 2 * own, 0);
        } else {
            dueRow(when, x, own, 2 * own - 1, 2 * own, 0);
            dueRow(when, x, highest, 2 * highest);
        }
    }

    // ---- to signal

    private static void signalWithSoManyWaiting(int waiting) {
        says("if no process is in its row, there is one signal more too many; otherwise the first one leaves it and is woken");
        String when = waiting + " waiting";
        ProcessRoom x = crowd(3);
        for (int p = 0; p < waiting; p++) {
            due(when + ": await(9)", x.await(9), 0);
        }
        for (int p = 0; p < waiting; p++) {
            due(when + ": at(25, 0)", x.at(25, 0), p);
            due(when + ": signal(9)", x.signal(9), true);
            due(when + ": extra(9)", x.extra(9), 0);
            boolean nobodyElse = waiting == 32 && p == 0;
            due(when + ": row(" + p + ")", x.row(p), nobodyElse ? 0 : 3);
        }
        due(when + ": at(25, 0)", x.at(25, 0), NONE);
        due(when + ": signal(9)", x.signal(9), true);
        due(when + ": extra(9)", x.extra(9), 1);
        due(when + ": signal(9)", x.signal(9), true);
        due(when + ": extra(9)", x.extra(9), 2);
        int present = waiting == 32 ? 0 : waiting;
        due(when + ": present()", x.present(), present);
        for (int i = 0; i < 31; i++) {
            due(when + ": at(3, " + i + ")", x.at(3, i), (present + 1 + i) % 32);
        }
    }

    // ---- the end of a step

    private static void postedAreSignalledInTheirOrder() {
        says("semaphores that were POSTED are signalled, in the order in which they were posted");
        for (int turned = 0; turned < 2; turned++) {
            ProcessRoom x = started(4, 4, 4, 4);
            x.resume(1);
            x.resume(2);
            x.resume(3);
            x.await(0);
            x.await(15);
            x.await(0);
            due("step()", x.step(), 3);
            if (turned == 0) {
                x.post(0);
                x.post(15);
                x.post(0);
            } else {
                x.post(15);
                x.post(0);
                x.post(0);
            }
            due("step()", x.step(), 3);
            if (turned == 0) {
                dueRow("0, 15, 0", x, 4, 0, 1, 2);
            } else {
                dueRow("15, 0, 0", x, 4, 1, 0, 2);
            }
        }
    }

    private static void postedAreSignalledAtTheEndOnly() {
        says("AT THE END OF A STEP semaphores that were POSTED are signalled");
        ProcessRoom x = started(4);
        x.work(3);
        due("post(6)", x.post(6), 1);
        due("extra(6)", x.extra(6), 0);
        due("await(6) after the post", x.await(6), 0);
        due("present()", x.present(), NONE);
        due("step()", x.step(), 0);
        due("here()", x.here(), 103);
        due("extra(6)", x.extra(6), 0);
        due("posted(0)", x.posted(0), NONE);
        due("step() again", x.step(), 0);
        due("extra(6)", x.extra(6), 0);
    }

    private static void postedFirstThenTheChange() {
        says("then, if a change is wanted, it is done");
        ProcessRoom x = started(4, 5, 6, 3);
        x.suspend();
        x.resume(1);
        x.await(1);
        x.resume(2);
        x.await(2);
        x.resume(3);
        due("step()", x.step(), 3);
        x.resume(0);
        due("present()", x.present(), 0);
        x.post(1);
        x.post(2);
        due("step() to the highest posted", x.step(), 2);
        due("here()", x.here(), 300);
        dueRow("the one wanted before", x, 4, 0);
        dueRow("the one wanted by the first post", x, 5, 1);
        dueRow("the one that was active", x, 3, 3);
        due("wanted()", x.wanted(), false);
    }

    private static void noChangeWantedKeepsThePlace() {
        says("the active one's place, if there is one, becomes what here is (if a change is wanted)");
        ProcessRoom x = started(4, 4);
        x.work(1);
        x.resume(1);
        x.post(0);
        due("step()", x.step(), 0);
        due("place(0)", x.place(0), 100);
        due("here()", x.here(), 101);
        due("extra(0)", x.extra(0), 1);
    }

    private static void changeToAnother() {
        says("the one to which is active, and here becomes its place");
        ProcessRoom x = started(4, 5);
        x.work(1);
        x.resume(1);
        due("place(0) before", x.place(0), 100);
        due("here() before", x.here(), 101);
        due("step()", x.step(), 1);
        due("active()", x.active(), 1);
        due("place(0)", x.place(0), 101);
        due("place(1)", x.place(1), 200);
        due("here()", x.here(), 200);
        due("row(0)", x.row(0), 4);
        due("row(1)", x.row(1), 0);
        due("wanted()", x.wanted(), false);
    }

    private static void changeToItself() {
        says("whatever was wanted and unwanted before");
        ProcessRoom x = started(4, 5);
        x.work(1);
        x.resume(1);
        due("suspend()", x.suspend(), 1);
        due("wanted()", x.wanted(), true);
        due("step()", x.step(), 0);
        due("place(0)", x.place(0), 101);
        due("here()", x.here(), 101);
        due("place(1)", x.place(1), 200);
        due("row(0)", x.row(0), 0);
        due("wanted()", x.wanted(), false);
        due("work(1)", x.work(1), true);
    }

    private static void changeToNone() {
        says("here becomes its place, or 0 if there is none");
        ProcessRoom x = started(4);
        x.work(1);
        x.suspend();
        due("step()", x.step(), NONE);
        due("active()", x.active(), NONE);
        due("place(0)", x.place(0), 101);
        due("here()", x.here(), 0);
        due("wanted()", x.wanted(), false);
    }

    private static void changeFromNone() {
        says("the active one's place, if there is one, becomes what here is");
        ProcessRoom x = made(4, 4);
        x.resume(1);
        due("step()", x.step(), 1);
        due("here()", x.here(), 200);
        due("place(0)", x.place(0), 100);
        due("place(1)", x.place(1), 200);
    }

    private static void changeFromOneThatEnded() {
        says("if it is the active one, none is active then");
        ProcessRoom x = started(4, 4);
        x.work(9);
        x.resume(1);
        due("end()", x.end(), 0);
        due("active()", x.active(), NONE);
        due("make(0, 4, 55) anew", x.make(0, 4, 55), true);
        due("step()", x.step(), 1);
        due("place(0) of the new one", x.place(0), 55);
        due("place(1)", x.place(1), 200);
        due("here()", x.here(), 200);
    }

    // ---- the calls that change something

    private static void makeOnceUntilItEnds() {
        says("Answers true; false when it is made already");
        for (int p : new int[] {0, 31}) {
            ProcessRoom x = new ProcessRoom();
            due("make(" + p + ", 4, 1)", x.make(p, 4, 1), true);
            due("make again, in no row", x.make(p, 5, 2), false);
            x.resume(p);
            due("make again, present", x.make(p, 5, 2), false);
            x.step();
            due("make again, active", x.make(p, 5, 2), false);
            x.await(0);
            due("make again, waiting", x.make(p, 5, 2), false);
            x.step();
            x.make(15, 8, 0);
            x.resume(15);
            x.signal(0);
            due("row(" + p + ")", x.row(p), 4);
            due("make again, ready", x.make(p, 5, 2), false);
            x.end();
            due("end()", x.end(), p);
            due("make after the end", x.make(p, 5, 2), true);
            due("priority(" + p + ")", x.priority(p), 5);
            due("place(" + p + ")", x.place(p), 2);
            due("row(" + p + ")", x.row(p), 0);
            due("make again", x.make(p, 6, 3), false);
        }
    }

    private static void resumeOfEachKind() {
        says("Answers true; false when it is not made, is in a row, or the present one, or the active one");
        ProcessRoom x = made(4, 4, 6);
        due("not made: resume(3)", x.resume(3), false);
        due("made: resume(0)", x.resume(0), true);
        due("present, not active: resume(0)", x.resume(0), false);
        x.step();
        due("present and active: resume(0)", x.resume(0), false);
        due("in no row: resume(1)", x.resume(1), true);
        due("in a ready row: resume(1)", x.resume(1), false);
        due("in no row: resume(2)", x.resume(2), true);
        due("active and ready: resume(0)", x.resume(0), false);
        due("take(0)", x.take(0), true);
        due("active alone: resume(0)", x.resume(0), false);
        due("await(4)", x.await(4), 0);
        due("in a semaphore's row: resume(2)", x.resume(2), false);
        due("take(2)", x.take(2), true);
        due("taken out of it: resume(2)", x.resume(2), true);
        due("step()", x.step(), 2);
        due("active no more: resume(0)", x.resume(0), true);
        due("end()", x.end(), 2);
        due("made no more: resume(2)", x.resume(2), false);
    }

    private static void suspendDownToNone() {
        says("The present one is put aside, in no row. Answers which one it was; NONE when there is none");
        ProcessRoom x = crowd(1);
        for (int p = 0; p < 32; p++) {
            due("suspend()", x.suspend(), p);
            due("row(" + p + ")", x.row(p), 0);
            due("priority(" + p + ")", x.priority(p), 1);
        }
        due("suspend() with none", x.suspend(), NONE);
        due("active()", x.active(), 0);
        due("step()", x.step(), NONE);
        due("suspend() with none", x.suspend(), NONE);
        due("wanted()", x.wanted(), false);
        due("new room: suspend()", new ProcessRoom().suspend(), NONE);
    }

    private static void endDownToNone() {
        says("The present one is made no more, and put aside. Answers which one it was; NONE when there is none");
        ProcessRoom x = crowd(8);
        for (int p = 0; p < 32; p++) {
            due("end()", x.end(), p);
            due("priority(" + p + ")", x.priority(p), NONE);
            due("active()", x.active(), NONE);
        }
        due("end() with none", x.end(), NONE);
        due("wanted()", x.wanted(), true);
        due("step()", x.step(), NONE);
        due("end() with none", x.end(), NONE);
        due("wanted()", x.wanted(), false);
        due("new room: end()", new ProcessRoom().end(), NONE);
        says("if it is the active one, none is active then");
        ProcessRoom y = started(4, 5);
        y.resume(1);
        due("end() of another", y.end(), 1);
        due("active()", y.active(), 0);
        due("end() of the active one", y.end(), 0);
        due("active()", y.active(), NONE);
    }

    private static void awaitWithSoManySignals() {
        says("If a semaphore has signals too many, it has one less; otherwise the present one goes to the end of its row");
        for (int signals : new int[] {0, 1, 2, 100}) {
            ProcessRoom x = started(4);
            for (int i = 0; i < signals; i++) {
                x.signal(15);
            }
            for (int i = signals - 1; i >= 0; i--) {
                due("await(15)", x.await(15), 1);
                due("extra(15)", x.extra(15), i);
                due("present()", x.present(), 0);
                due("wanted()", x.wanted(), false);
            }
            due("await(15) of none", x.await(15), 0);
            due("extra(15)", x.extra(15), 0);
            dueRow("waiting", x, 31, 0);
            due("present()", x.present(), NONE);
        }
    }

    private static void awaitWithNoPresentOne() {
        says("NONE when there is no such semaphore, or no present one");
        ProcessRoom x = started(4);
        x.signal(0);
        x.suspend();
        due("wanted to none: await(0)", x.await(0), NONE);
        due("wanted to none: await(1)", x.await(1), NONE);
        x.step();
        due("none active: await(0)", x.await(0), NONE);
        due("none active: await(1)", x.await(1), NONE);
        due("extra(0)", x.extra(0), 1);
        x.resume(0);
        due("none active, one wanted: await(0)", x.await(0), 1);
        due("none active, one wanted: await(1)", x.await(1), 0);
        due("row(0)", x.row(0), 17);
    }

    private static void postUpTo40() {
        says("Answers how many are; NONE when there is none such, or 40 are");
        ProcessRoom x = new ProcessRoom();
        for (int i = 1; i <= 38; i++) {
            due("post(15)", x.post(15), i);
        }
        due("post(15), the 39th", x.post(15), 39);
        due("post(16), with 39", x.post(16), NONE);
        due("post(0), the 40th", x.post(0), 40);
        due("posted(38)", x.posted(38), 15);
        due("posted(39)", x.posted(39), 0);
        due("post(0), with 40", x.post(0), NONE);
        due("post(15), with 40", x.post(15), NONE);
        due("posted(39)", x.posted(39), 0);
        due("posted(40)", x.posted(40), NONE);
        due("extra(15) before the step", x.extra(15), 0);
        due("step()", x.step(), NONE);
        due("extra(15)", x.extra(15), 39);
        due("extra(0)", x.extra(0), 1);
        due("posted(0)", x.posted(0), NONE);
        due("post(3), the first again", x.post(3), 1);
        due("posted(0)", x.posted(0), 3);
    }

    private static void stepWithNothingToDo() {
        says("Answers the active process then; NONE when there is none");
        ProcessRoom x = made(4);
        due("none active: step()", x.step(), NONE);
        due("none active: here()", x.here(), 0);
        x.resume(0);
        due("one wanted: step()", x.step(), 0);
        due("none wanted: step()", x.step(), 0);
        x.suspend();
        due("wanted to none: step()", x.step(), NONE);
        due("none wanted: step()", x.step(), NONE);
    }

    private static void workFrom1To1000() {
        says("here grows by n (1 .. 1000)");
        for (int n : new int[] {MIN, -1000, -1, 0, 1, 2, 999, 1000, 1001, 1002, MAX}) {
            boolean is = n >= 1 && n <= 1000;
            ProcessRoom x = started(4);
            due("work(" + n + ")", x.work(n), is);
            due("here()", x.here(), is ? 100 + n : 100);
            due("work(" + n + ")", x.work(n), is);
            due("here()", x.here(), is ? 100 + 2 * n : 100);
            due("place(0)", x.place(0), 100);
        }
    }

    private static void workWhenAChangeIsWanted() {
        says("false when n is not so, there is none, or a change is wanted");
        ProcessRoom x = made(4, 5);
        due("none active: work(1)", x.work(1), false);
        x.resume(0);
        due("none active, change wanted: work(1)", x.work(1), false);
        x.step();
        due("active: work(1)", x.work(1), true);
        x.resume(1);
        due("change wanted to another: work(1)", x.work(1), false);
        x.suspend();
        due("change wanted to itself: work(1)", x.work(1), false);
        x.suspend();
        due("change wanted to none: work(1)", x.work(1), false);
        due("here()", x.here(), 101);
        x.step();
        due("none active: work(1000)", x.work(1000), false);
        due("here()", x.here(), 0);
    }

    private static void hereWrapsAround() {
        says("here grows by n");
        ProcessRoom x = new ProcessRoom();
        x.make(0, 1, MAX - 1);
        x.resume(0);
        x.step();
        due("work(1) below the largest", x.work(1), true);
        due("here()", x.here(), MAX);
        due("work(1) at the largest", x.work(1), true);
        due("here()", x.here(), MIN);
        due("work(1) past it", x.work(1), true);
        due("here()", x.here(), MIN + 1);
        x.suspend();
        x.step();
        due("place(0)", x.place(0), MIN + 1);
        x.make(1, 1, MAX);
        x.resume(1);
        x.step();
        due("work(1000) at the largest", x.work(1000), true);
        due("here()", x.here(), MIN + 999);
        ProcessRoom y = new ProcessRoom();
        y.make(0, 1, -1);
        y.resume(0);
        y.step();
        y.work(1);
        due("here() from -1", y.here(), 0);
    }

    private static void takeFromEachPartOfARow() {
        says("A process leaves the row in which it is. Answers true; false when it is in none");
        for (int waits = 0; waits < 2; waits++) {
            for (int taken = 0; taken < 3; taken++) {
                takeOneOfThree(waits == 1, taken);
            }
        }
        ProcessRoom x = started(4, 5);
        due("active, in none: take(0)", x.take(0), false);
        due("made, in none: take(1)", x.take(1), false);
        due("not made: take(2)", x.take(2), false);
        x.resume(1);
        due("present, in none: take(1)", x.take(1), false);
        due("active, ready: take(0)", x.take(0), true);
        due("row(0)", x.row(0), 0);
        due("active, in none: take(0)", x.take(0), false);
        x.end();
        due("made no more: take(1)", x.take(1), false);
        due("present()", x.present(), NONE);
    }

    private static void takeOneOfThree(boolean waits, int taken) {
        String when = (waits ? "waiting" : "ready") + ", the " + taken + "th";
        ProcessRoom x = started(2, 2, 2, 2, 1);
        int row = waits ? 31 : 2;
        for (int p = 1; p <= 4; p++) {
            x.resume(p);
        }
        if (waits) {
            x.suspend();
            x.await(15);
            x.await(15);
            x.await(15);
        }
        dueRow(when, x, row, 1, 2, 3);
        int p = 1 + taken;
        due(when + ": take(" + p + ")", x.take(p), true);
        due(when + ": row(" + p + ")", x.row(p), 0);
        dueRow(when, x, row, taken == 0 ? 2 : 1, taken == 2 ? 2 : 3);
        due(when + ": take(" + p + ") again", x.take(p), false);
        due(when + ": present()", x.present(), waits ? 4 : 0);
        due(when + ": extra(15)", x.extra(15), 0);
    }

    private static void rateFromEachToEach() {
        says("The priority of a process becomes another one (it stays where it is). Answers the one before");
        for (int before = 1; before <= 8; before++) {
            for (int after = 1; after <= 8; after++) {
                ProcessRoom x = started(8, before, before, before);
                x.resume(1);
                x.resume(2);
                String when = "from " + before + " to " + after;
                due(when + ": rate(1)", x.rate(1, after), before);
                due(when + ": priority(1)", x.priority(1), after);
                due(when + ": priority(2)", x.priority(2), before);
                dueRow(when, x, before, 1, 2);
                due(when + ": wanted()", x.wanted(), false);
                due(when + ": rate(3), in no row", x.rate(3, after), before);
                due(when + ": row(3)", x.row(3), 0);
                due(when + ": rate(0), active", x.rate(0, after), 8);
                due(when + ": present()", x.present(), 0);
                due(when + ": wanted()", x.wanted(), false);
                x.suspend();
                due(when + ": next, by its row", x.present(), 1);
                due(when + ": rate(1), present", x.rate(1, before), after);
                x.await(0);
                due(when + ": rate(1), waiting", x.rate(1, after), before);
                dueRow(when, x, 16, 1);
            }
        }
        says("NONE when it is not made, or there is no such priority");
        ProcessRoom y = started(4);
        due("not made: rate(1, 4)", y.rate(1, 4), NONE);
        due("made: rate(0, 4)", y.rate(0, 4), 4);
        y.end();
        due("made no more: rate(0, 4)", y.rate(0, 4), NONE);
    }

    // ---- questions

    private static void activeAndPresentWithNone() {
        says("The active process; NONE when there is none");
        ProcessRoom x = made(4, 5);
        due("active()", x.active(), NONE);
        x.resume(0);
        due("active() before the step", x.active(), NONE);
        x.step();
        due("active()", x.active(), 0);
        x.suspend();
        due("active() before the step", x.active(), 0);
        says("Whether a change is wanted");
        due("wanted(), to none", x.wanted(), true);
        x.step();
        due("wanted(), done", x.wanted(), false);
        says("The active process; NONE when there is none");
        due("active()", x.active(), NONE);
    }

    private static void askAboutOneNotMade() {
        says("0 when it is not made; NONE when it is not made");
        for (int p : new int[] {0, 31}) {
            ProcessRoom x = new ProcessRoom();
            askedOfOneNotMade(x, p);
            x.make(p, 8, -7);
            due("place(" + p + ")", x.place(p), -7);
            due("priority(" + p + ")", x.priority(p), 8);
            due("row(" + p + ")", x.row(p), 0);
            x.resume(p);
            x.step();
            x.end();
            askedOfOneNotMade(x, p);
            x.step();
            askedOfOneNotMade(x, p);
        }
    }

    private static void askedOfOneNotMade(ProcessRoom x, int p) {
        due("place(" + p + ")", x.place(p), 0);
        due("priority(" + p + ")", x.priority(p), NONE);
        due("row(" + p + ")", x.row(p), NONE);
    }

    private static void rowTellsItsNumber() {
        says("0 in no row, 1 .. 8 in the ready row of that priority, 16 and more in the row of that semaphore");
        for (int priority = 1; priority <= 8; priority++) {
            ProcessRoom x = started(8, priority);
            due("in no row: row(1)", x.row(1), 0);
            x.resume(1);
            due("ready: row(1)", x.row(1), priority);
            x.rate(1, 9 - priority);
            due("ready, rated: row(1)", x.row(1), priority);
        }
        for (int s = 0; s < 16; s++) {
            ProcessRoom x = started(4);
            due("active: row(0)", x.row(0), 0);
            x.await(s);
            due("waiting: row(0)", x.row(0), 16 + s);
        }
    }

    private static void atInRowsOfEachLength() {
        says("The i-th process (from 0) of a ready row (1 .. 8), or of a semaphore's (16 and more); NONE when there is none such");
        for (int length : new int[] {0, 1, 2, 30, 31}) {
            for (int priority : new int[] {1, 8}) {
                ProcessRoom x = started(8);
                for (int p = 1; p <= length; p++) {
                    x.make(p, priority, 0);
                    x.resume(p);
                }
                atOfARow(x, priority, length, 1);
            }
        }
        for (int length : new int[] {0, 1, 2, 31, 32}) {
            for (int s : new int[] {0, 15}) {
                ProcessRoom x = crowd(5);
                for (int i = 0; i < length; i++) {
                    x.await(s);
                }
                atOfARow(x, 16 + s, length, 0);
            }
        }
    }

    private static void atOfARow(ProcessRoom x, int row, int length, int first) {
        for (int i = 0; i < length; i++) {
            due("at(" + row + ", " + i + ") of " + length, x.at(row, i), first + i);
        }
        for (int i : new int[] {MIN, -2, -1, length, length + 1, 32, 33, MAX}) {
            due("at(" + row + ", " + i + ") of " + length, x.at(row, i), NONE);
        }
    }

    private static void atInRowsThatAreNone() {
        says("of a ready row (1 .. 8), or of a semaphore's (16 and more); NONE when there is none such");
        ProcessRoom x = new ProcessRoom();
        for (int p = 0; p < 16; p++) {
            x.make(p, 1, 0);
            x.resume(p);
            x.await(p);
        }
        x.make(30, 8, 0);
        x.resume(30);
        for (int r = 1; r <= 8; r++) {
            x.make(15 + r, r, 0);
            x.resume(15 + r);
        }
        x.make(29, 1, 0);
        for (int r = 1; r <= 8; r++) {
            due("at(" + r + ", 0)", x.at(r, 0), 15 + r);
        }
        for (int s = 0; s < 16; s++) {
            due("at(" + (16 + s) + ", 0)", x.at(16 + s, 0), s);
        }
        for (int row : new int[] {MIN, -16, -1, 0, 9, 10, 14, 15, 32, 33, 48, MAX}) {
            for (int i : new int[] {MIN, -1, 0, 1, MAX}) {
                due("at(" + row + ", " + i + ")", x.at(row, i), NONE);
            }
        }
    }

    private static void extraNeverBelow0() {
        says("How many signals a semaphore has too many");
        ProcessRoom x = started(4, 4);
        x.resume(1);
        due("extra(0)", x.extra(0), 0);
        x.await(0);
        due("extra(0), one waits", x.extra(0), 0);
        x.await(0);
        due("extra(0), two wait", x.extra(0), 0);
        x.signal(0);
        x.signal(0);
        due("extra(0), none waits", x.extra(0), 0);
        x.signal(0);
        due("extra(0), one too many", x.extra(0), 1);
        due("extra(1)", x.extra(1), 0);
    }

    private static void postedUpToTheLast() {
        says("The i-th semaphore (from 0) of those that are posted; NONE when there are not so many");
        for (int count : new int[] {0, 1, 2, 39, 40}) {
            ProcessRoom x = new ProcessRoom();
            for (int i = 0; i < count; i++) {
                x.post((i + 3) % 16);
            }
            for (int i = 0; i < count; i++) {
                due("posted(" + i + ") of " + count, x.posted(i), (i + 3) % 16);
            }
            for (int i : new int[] {MIN, -2, -1, count, count + 1, 40, 41, MAX}) {
                due("posted(" + i + ") of " + count, x.posted(i), NONE);
            }
            x.step();
            for (int i : new int[] {-1, 0, count - 1, count, 39, 40}) {
                due("posted(" + i + ") after the step", x.posted(i), NONE);
            }
        }
    }

    // ---- an object is used for at most 512 calls: the last of them is answered like the first

    private static void signalsOf512Calls() {
        says("An object is used for at most 512 calls after it has been made");
        ProcessRoom x = new ProcessRoom();
        for (int i = 0; i < 511; i++) {
            due("signal(15)", x.signal(15), true);
        }
        due("extra(15), the 512th call", x.extra(15), 511);
    }

    private static void workOf512Calls() {
        ProcessRoom x = new ProcessRoom();
        x.make(0, 8, MIN);
        x.resume(0);
        x.step();
        for (int i = 0; i < 508; i++) {
            due("work(1000)", x.work(1000), true);
        }
        due("here(), the 512th call", x.here(), MIN + 508000);
    }

    private static void postsOf512Calls() {
        ProcessRoom x = new ProcessRoom();
        for (int round = 0; round < 12; round++) {
            for (int i = 0; i < 40; i++) {
                due("post(" + i % 16 + ")", x.post(i % 16), i + 1);
            }
            due("step()", x.step(), NONE);
        }
        for (int s = 0; s < 16; s++) {
            due("extra(" + s + ")", x.extra(s), s < 8 ? 36 : 24);
        }
        due("post(1)", x.post(1), 1);
        due("posted(0)", x.posted(0), 1);
        due("step()", x.step(), NONE);
        due("extra(1), the 512th call", x.extra(1), 37);
    }

    private static void makesAndEndsOf512Calls() {
        ProcessRoom x = new ProcessRoom();
        for (int i = 0; i < 128; i++) {
            int p = i % 32;
            due("make(" + p + ")", x.make(p, 1 + i % 8, i), true);
            due("resume(" + p + ")", x.resume(p), true);
            due("step()", x.step(), p);
            due("end(), call " + (4 * i + 4), x.end(), p);
        }
    }

    private static void waitsOf512Calls() {
        ProcessRoom x = new ProcessRoom();
        for (int p = 0; p < 32; p++) {
            due("make(" + p + ")", x.make(p, 4, p), true);
            due("resume(" + p + ")", x.resume(p), true);
        }
        for (int round = 0; round < 6; round++) {
            for (int p = 0; p < 32; p++) {
                due("await(2)", x.await(2), 0);
            }
            for (int p = 0; p < 32; p++) {
                due("signal(2)", x.signal(2), true);
            }
        }
        for (int p = 0; p < 32; p++) {
            due("row(" + p + ")", x.row(p), p == 0 ? 0 : 4);
        }
        for (int i = 0; i < 31; i++) {
            due("at(4, " + i + ")", x.at(4, i), i + 1);
        }
        due("present(), the 512th call", x.present(), 0);
    }

    private static void yieldsOf512Calls() {
        ProcessRoom x = crowd(4);
        for (int i = 0; i < 446; i++) {
            due("yield()", x.yield(), true);
        }
        due("present(), the 512th call", x.present(), 446 % 32);
    }
}
