/** For each promise of the document: ordinary inputs, the edges that it names, wrong inputs. */
public final class ProcessRoomPromises {
    private static final int NONE = -1;
    private static final int MIN = Integer.MIN_VALUE;
    private static final int MAX = Integer.MAX_VALUE;
    private static final int[] NO_PROCESS = {MIN, -33, -1, 32, 33, 64, MAX};
    private static final int[] NO_SEMAPHORE = {MIN, -17, -1, 16, 17, 32, MAX};
    private static final int[] NO_PRIORITY = {MIN, -1, 0, 9, 16, MAX};

    private static int promise = 0;
    private static int wrong = 0;

    public static void main(String[] args) {
        newObject();
        make();
        resume();
        resumeRefused();
        suspend();
        suspendGoesDownThePriorities();
        end();
        endOfTheOneThatIsNotActive();
        await();
        awaitPutsThePresentOneAside();
        signal();
        post();
        stepSignalsThenChanges();
        stepKeepsPlaces();
        work();
        take();
        rate();
        rateLeavesRowsAlone();
        yieldTurn();
        active();
        present();
        wanted();
        here();
        place();
        priority();
        row();
        at();
        extra();
        posted();
        System.out.println(wrong == 0 ? "all promises hold" : wrong + " answers are not as due");
        if (wrong != 0) {
            System.exit(1);
        }
    }

    private static void due(String what, int got, int want) {
        if (got != want) {
            wrong++;
            System.out.println("promise " + promise + ": " + what + " answered " + got + ", due is " + want);
        }
    }

    private static void yes(String what, boolean got) {
        due(what, got ? 1 : 0, 1);
    }

    private static void no(String what, boolean got) {
        due(what, got ? 1 : 0, 0);
    }

    /** The row holds exactly these, in this order, and they say so themselves. */
    private static void dueRow(ProcessRoom x, int row, int... want) {
        for (int i = 0; i < want.length; i++) {
            due("at(" + row + ", " + i + ")", x.at(row, i), want[i]);
            due("row(" + want[i] + ")", x.row(want[i]), row);
        }
        due("at(" + row + ", " + want.length + ")", x.at(row, want.length), NONE);
    }

    /** Process 0 (priority 4, place 100) is active; 1 to 4 are made with priorities 4, 4, 6, 2. */
    private static ProcessRoom running() {
        ProcessRoom x = new ProcessRoom();
        x.make(0, 4, 100);
        x.make(1, 4, 200);
        x.make(2, 4, 300);
        x.make(3, 6, 400);
        x.make(4, 2, 500);
        x.resume(0);
        due("step() to start", x.step(), 0);
        return x;
    }

    private static void newObject() {
        promise = 1;
        ProcessRoom x = new ProcessRoom();
        due("NONE", ProcessRoom.NONE, -1);
        due("active()", x.active(), NONE);
        due("present()", x.present(), NONE);
        no("wanted()", x.wanted());
        due("here()", x.here(), 0);
        due("posted(0)", x.posted(0), NONE);
        for (int p = 0; p < 32; p++) {
            due("priority", x.priority(p), NONE);
            due("place", x.place(p), 0);
            due("row", x.row(p), NONE);
        }
        for (int s = 0; s < 16; s++) {
            due("extra", x.extra(s), 0);
            dueRow(x, 16 + s);
        }
        for (int row = 1; row <= 8; row++) {
            dueRow(x, row);
        }
        due("step()", x.step(), NONE);
        ProcessRoom other = running();
        other.post(3);
        due("another's posted(0)", x.posted(0), NONE);
        due("another's priority(0)", x.priority(0), NONE);
    }

    private static void make() {
        promise = 2;
        ProcessRoom x = new ProcessRoom();
        yes("make(0, 1, MIN)", x.make(0, 1, MIN));
        yes("make(31, 8, MAX)", x.make(31, 8, MAX));
        due("place(0)", x.place(0), MIN);
        due("place(31)", x.place(31), MAX);
        due("priority(0)", x.priority(0), 1);
        due("priority(31)", x.priority(31), 8);
        due("row(31)", x.row(31), 0);
        no("wanted()", x.wanted());
        no("make(0, 2, 7) again", x.make(0, 2, 7));
        due("priority(0) after a refusal", x.priority(0), 1);
        due("place(0) after a refusal", x.place(0), MIN);
        for (int p : NO_PROCESS) {
            no("make(" + p + ", 1, 1)", x.make(p, 1, 1));
        }
        for (int priority : NO_PRIORITY) {
            no("make(1, " + priority + ", 1)", x.make(1, priority, 1));
        }
        due("priority(1) after refusals", x.priority(1), NONE);
        for (int p = 1; p < 31; p++) {
            yes("make(" + p + ")", x.make(p, 1 + p % 8, p));
        }
        no("make(5) of a full room", x.make(5, 1, 1));
    }

    private static void resume() {
        promise = 3;
        ProcessRoom x = running();
        yes("resume(1) of the same priority", x.resume(1));
        yes("resume(4) of a lower one", x.resume(4));
        no("wanted()", x.wanted());
        dueRow(x, 4, 1);
        dueRow(x, 2, 4);
        yes("resume(3) of a higher one", x.resume(3));
        yes("wanted()", x.wanted());
        due("present()", x.present(), 3);
        due("active()", x.active(), 0);
        due("row(3)", x.row(3), 0);
        dueRow(x, 4, 1, 0);
        yes("make(5, 7, 9)", x.make(5, 7, 9));
        yes("resume(5) above the one wanted", x.resume(5));
        due("present()", x.present(), 5);
        dueRow(x, 6, 3);
        dueRow(x, 4, 1, 0);
        yes("resume(2)", x.resume(2));
        dueRow(x, 4, 1, 0, 2);
    }

    private static void resumeRefused() {
        promise = 3;
        ProcessRoom x = running();
        for (int p : NO_PROCESS) {
            no("resume(" + p + ")", x.resume(p));
        }
        no("resume(7), not made", x.resume(7));
        no("resume(0), active and present", x.resume(0));
        x.resume(1);
        no("resume(1), in a ready row", x.resume(1));
        dueRow(x, 4, 1);
        x.resume(3);
        no("resume(3), present", x.resume(3));
        no("resume(0), active and in a row", x.resume(0));
        x.take(0);
        no("resume(0), active alone", x.resume(0));
        x.await(2);
        no("resume(3), in a semaphore's row", x.resume(3));
        dueRow(x, 18, 3);
        due("step()", x.step(), 1);
        yes("resume(0), active no more", x.resume(0));
        dueRow(x, 4, 0);
    }

    private static void suspend() {
        promise = 4;
        ProcessRoom x = running();
        x.resume(1);
        x.resume(4);
        due("suspend()", x.suspend(), 0);
        due("row(0)", x.row(0), 0);
        due("priority(0)", x.priority(0), 4);
        due("present()", x.present(), 1);
        due("active()", x.active(), 0);
        dueRow(x, 4);
        due("suspend() of the one wanted", x.suspend(), 1);
        due("present()", x.present(), 4);
        dueRow(x, 2);
        due("suspend() of the last", x.suspend(), 4);
        due("present()", x.present(), NONE);
        yes("wanted()", x.wanted());
        due("suspend() with none", x.suspend(), NONE);
        yes("resume(1)", x.resume(1));
        due("present()", x.present(), 1);
        ProcessRoom y = new ProcessRoom();
        due("suspend() in a new room", y.suspend(), NONE);
        no("wanted()", y.wanted());
    }

    private static void suspendGoesDownThePriorities() {
        promise = 4;
        ProcessRoom x = new ProcessRoom();
        x.make(0, 8, 0);
        x.resume(0);
        for (int p = 1; p <= 16; p++) {
            x.make(p, 1 + (p - 1) % 8, 0);
            x.resume(p);
        }
        due("suspend()", x.suspend(), 0);
        for (int priority = 8; priority >= 1; priority--) {
            due("suspend()", x.suspend(), priority);
            due("suspend()", x.suspend(), priority + 8);
        }
        due("suspend() with none", x.suspend(), NONE);
    }

    private static void end() {
        promise = 5;
        ProcessRoom x = running();
        x.work(5);
        x.resume(1);
        due("end()", x.end(), 0);
        due("active()", x.active(), NONE);
        due("priority(0)", x.priority(0), NONE);
        due("place(0)", x.place(0), 0);
        due("row(0)", x.row(0), NONE);
        yes("wanted()", x.wanted());
        due("present()", x.present(), 1);
        no("resume(0)", x.resume(0));
        yes("make(0, 8, 7) anew", x.make(0, 8, 7));
        due("step()", x.step(), 1);
        due("here()", x.here(), 200);
        due("place(0), not that of the ended one", x.place(0), 7);
        due("end() of the last", x.end(), 1);
        yes("wanted()", x.wanted());
        due("present()", x.present(), NONE);
        due("end() with none", x.end(), NONE);
        due("step()", x.step(), NONE);
        due("here()", x.here(), 0);
        due("end() with none", x.end(), NONE);
        no("wanted()", x.wanted());
    }

    private static void endOfTheOneThatIsNotActive() {
        promise = 5;
        ProcessRoom x = running();
        x.work(5);
        x.resume(3);
        due("end() of the one wanted", x.end(), 3);
        due("active()", x.active(), 0);
        due("present()", x.present(), 0);
        yes("wanted()", x.wanted());
        due("row(0)", x.row(0), 0);
        due("step()", x.step(), 0);
        due("here()", x.here(), 105);
        due("place(0)", x.place(0), 105);
        x.resume(1);
        yes("yield()", x.yield());
        yes("yield() back", x.yield());
        due("end() of the active one, wanted again", x.end(), 0);
        due("active()", x.active(), NONE);
        due("present()", x.present(), 1);
    }

    private static void await() {
        promise = 6;
        ProcessRoom x = running();
        x.signal(0);
        x.signal(0);
        x.signal(15);
        due("await(0)", x.await(0), 1);
        due("extra(0)", x.extra(0), 1);
        due("await(15)", x.await(15), 1);
        due("extra(15)", x.extra(15), 0);
        due("await(0)", x.await(0), 1);
        no("wanted()", x.wanted());
        due("present()", x.present(), 0);
        for (int s : NO_SEMAPHORE) {
            due("await(" + s + ")", x.await(s), NONE);
        }
        no("wanted() after refusals", x.wanted());
        due("await(0)", x.await(0), 0);
        due("extra(0)", x.extra(0), 0);
        x.signal(5);
        due("await(5) with no present one", x.await(5), NONE);
        due("extra(5)", x.extra(5), 1);
        due("await(6) with no present one", x.await(6), NONE);
        due("step()", x.step(), NONE);
        due("await(5) with none active", x.await(5), NONE);
        due("extra(5)", x.extra(5), 1);
        no("wanted()", x.wanted());
    }

    private static void awaitPutsThePresentOneAside() {
        promise = 6;
        ProcessRoom x = running();
        x.resume(4);
        x.resume(1);
        x.resume(2);
        due("await(15)", x.await(15), 0);
        due("present()", x.present(), 1);
        due("active()", x.active(), 0);
        dueRow(x, 4, 2);
        due("await(15)", x.await(15), 0);
        due("await(15)", x.await(15), 0);
        dueRow(x, 31, 0, 1, 2);
        dueRow(x, 4);
        due("present()", x.present(), 4);
        due("await(0)", x.await(0), 0);
        dueRow(x, 16, 4);
        due("present()", x.present(), NONE);
    }

    private static void signal() {
        promise = 7;
        ProcessRoom x = running();
        for (int s : NO_SEMAPHORE) {
            no("signal(" + s + ")", x.signal(s));
        }
        yes("signal(0)", x.signal(0));
        yes("signal(0)", x.signal(0));
        yes("signal(15)", x.signal(15));
        due("extra(0)", x.extra(0), 2);
        due("extra(15)", x.extra(15), 1);
        x.resume(1);
        x.resume(3);
        x.await(7);
        x.await(7);
        dueRow(x, 23, 3, 1);
        due("present()", x.present(), 0);
        yes("signal(7) for a higher one", x.signal(7));
        due("extra(7)", x.extra(7), 0);
        due("present()", x.present(), 3);
        due("row(3)", x.row(3), 0);
        dueRow(x, 23, 1);
        dueRow(x, 4, 0);
        yes("signal(7) for a lower one", x.signal(7));
        dueRow(x, 23);
        dueRow(x, 4, 0, 1);
        due("present()", x.present(), 3);
        yes("signal(7) for none", x.signal(7));
        due("extra(7)", x.extra(7), 1);
        due("step()", x.step(), 3);
        x.suspend();
        x.suspend();
        x.await(6);
        due("present()", x.present(), NONE);
        yes("signal(6) with no present one", x.signal(6));
        due("present()", x.present(), 1);
    }

    private static void post() {
        promise = 8;
        ProcessRoom x = new ProcessRoom();
        for (int s : NO_SEMAPHORE) {
            due("post(" + s + ")", x.post(s), NONE);
        }
        due("posted(0)", x.posted(0), NONE);
        for (int i = 0; i < 40; i++) {
            due("post, the " + i + "th", x.post(i % 16), i + 1);
        }
        due("post(0), the 41st", x.post(0), NONE);
        due("post(15), the 41st", x.post(15), NONE);
        due("extra(0) before the step", x.extra(0), 0);
        for (int i = 0; i < 40; i++) {
            due("posted(" + i + ")", x.posted(i), i % 16);
        }
        due("step()", x.step(), NONE);
        for (int s = 0; s < 16; s++) {
            due("extra(" + s + ")", x.extra(s), s < 8 ? 3 : 2);
        }
        due("post(4) after the step", x.post(4), 1);
    }

    private static void stepSignalsThenChanges() {
        promise = 9;
        ProcessRoom x = running();
        x.resume(1);
        x.resume(2);
        x.await(1);
        x.await(2);
        due("step()", x.step(), 2);
        due("post(2)", x.post(2), 1);
        due("post(1)", x.post(1), 2);
        due("post(1)", x.post(1), 3);
        no("wanted() before the step", x.wanted());
        due("step()", x.step(), 2);
        dueRow(x, 4, 1, 0);
        due("extra(1)", x.extra(1), 1);
        due("posted(0)", x.posted(0), NONE);
        due("step() again", x.step(), 2);
        due("extra(1), signalled once", x.extra(1), 1);
        x.resume(3);
        x.await(9);
        x.post(9);
        due("present()", x.present(), 1);
        due("step() to the one that the post woke", x.step(), 3);
        no("wanted()", x.wanted());
        dueRow(x, 4, 0, 2, 1);
    }

    private static void stepKeepsPlaces() {
        promise = 9;
        ProcessRoom x = running();
        x.work(11);
        due("step() with no change wanted", x.step(), 0);
        due("here()", x.here(), 111);
        due("place(0)", x.place(0), 100);
        x.resume(3);
        due("step()", x.step(), 3);
        due("place(0)", x.place(0), 111);
        due("here()", x.here(), 400);
        x.suspend();
        due("step() back", x.step(), 0);
        due("here()", x.here(), 111);
        due("place(3)", x.place(3), 400);
        x.suspend();
        due("step() to none", x.step(), NONE);
        due("here()", x.here(), 0);
        no("wanted()", x.wanted());
        due("step() with none", x.step(), NONE);
    }

    private static void work() {
        promise = 10;
        ProcessRoom x = running();
        yes("work(1)", x.work(1));
        yes("work(1000)", x.work(1000));
        due("here()", x.here(), 1101);
        for (int n : new int[] {MIN, -1, 0, 1001, MAX}) {
            no("work(" + n + ")", x.work(n));
        }
        due("here() after refusals", x.here(), 1101);
        x.resume(3);
        no("work(1) when a change is wanted", x.work(1));
        due("end()", x.end(), 3);
        no("work(1) when the change is to the active one", x.work(1));
        x.suspend();
        no("work(1) when the change is to none", x.work(1));
        due("here()", x.here(), 1101);
        x.step();
        no("work(1) when none is active", x.work(1));
        due("here()", x.here(), 0);
        x.make(9, 8, MAX);
        x.resume(9);
        x.step();
        yes("work(1) at the largest place", x.work(1));
        due("here()", x.here(), MIN);
    }

    private static void take() {
        promise = 11;
        ProcessRoom x = running();
        for (int p : NO_PROCESS) {
            no("take(" + p + ")", x.take(p));
        }
        no("take(9), not made", x.take(9));
        no("take(1), in no row", x.take(1));
        no("take(0), active", x.take(0));
        x.make(5, 4, 0);
        x.resume(1);
        x.resume(2);
        x.resume(5);
        yes("take(2) from the middle", x.take(2));
        due("row(2)", x.row(2), 0);
        dueRow(x, 4, 1, 5);
        no("take(2) again", x.take(2));
        yes("resume(2) goes to the end", x.resume(2));
        dueRow(x, 4, 1, 5, 2);
        yes("take(1) from the front", x.take(1));
        yes("take(2) from the end", x.take(2));
        dueRow(x, 4, 5);
        x.await(3);
        yes("take(0) from a semaphore's row", x.take(0));
        dueRow(x, 19);
        yes("signal(3)", x.signal(3));
        due("extra(3)", x.extra(3), 1);
        no("take(5), the one wanted", x.take(5));
        due("present()", x.present(), 5);
    }

    private static void rate() {
        promise = 12;
        ProcessRoom x = running();
        due("rate(0, 8)", x.rate(0, 8), 4);
        due("rate(0, 8) again", x.rate(0, 8), 8);
        due("rate(0, 1)", x.rate(0, 1), 8);
        due("priority(0)", x.priority(0), 1);
        for (int p : NO_PROCESS) {
            due("rate(" + p + ", 1)", x.rate(p, 1), NONE);
        }
        for (int priority : NO_PRIORITY) {
            due("rate(0, " + priority + ")", x.rate(0, priority), NONE);
        }
        due("rate(9, 1), not made", x.rate(9, 1), NONE);
        due("priority(9)", x.priority(9), NONE);
        due("priority(0) after refusals", x.priority(0), 1);
        no("wanted()", x.wanted());
        yes("resume(4) is above it now", x.resume(4));
        due("present()", x.present(), 4);
        dueRow(x, 1, 0);
    }

    private static void rateLeavesRowsAlone() {
        promise = 12;
        ProcessRoom x = running();
        x.resume(1);
        x.resume(2);
        x.resume(4);
        due("rate(1, 1)", x.rate(1, 1), 4);
        due("rate(4, 8)", x.rate(4, 8), 2);
        dueRow(x, 4, 1, 2);
        dueRow(x, 2, 4);
        dueRow(x, 8);
        no("wanted()", x.wanted());
        x.suspend();
        due("present(), by its row", x.present(), 1);
        x.suspend();
        due("present()", x.present(), 2);
        due("await(0)", x.await(0), 0);
        due("present()", x.present(), 4);
        due("rate(2, 3) in a semaphore's row", x.rate(2, 3), 4);
        dueRow(x, 16, 2);
        x.signal(0);
        dueRow(x, 3, 2);
        yes("take(2)", x.take(2));
        dueRow(x, 3);
    }

    private static void yieldTurn() {
        promise = 13;
        ProcessRoom x = running();
        no("yield() alone", x.yield());
        x.resume(4);
        no("yield() with a lower one ready", x.yield());
        no("wanted()", x.wanted());
        due("row(0)", x.row(0), 0);
        x.resume(1);
        x.resume(2);
        yes("yield()", x.yield());
        due("present()", x.present(), 1);
        dueRow(x, 4, 2, 0);
        yes("yield() of the one wanted", x.yield());
        due("present()", x.present(), 2);
        dueRow(x, 4, 0, 1);
        due("active()", x.active(), 0);
        due("step()", x.step(), 2);
        x.make(5, 2, 0);
        due("rate(2, 2)", x.rate(2, 2), 4);
        yes("yield() while higher ones are ready", x.yield());
        due("present()", x.present(), 0);
        dueRow(x, 2, 4, 2);
        due("rate(0, 5)", x.rate(0, 5), 4);
        no("yield() with none of its priority", x.yield());
        due("present()", x.present(), 0);
        ProcessRoom y = new ProcessRoom();
        no("yield() in a new room", y.yield());
        no("wanted()", y.wanted());
        ProcessRoom z = running();
        z.suspend();
        no("yield() with none wanted", z.yield());
    }

    private static void active() {
        promise = 14;
        ProcessRoom x = running();
        due("active()", x.active(), 0);
        x.resume(3);
        due("active() before the step", x.active(), 0);
        x.step();
        due("active() after it", x.active(), 3);
        x.suspend();
        x.suspend();
        due("active()", x.active(), 3);
        x.step();
        due("active() with none", x.active(), NONE);
    }

    private static void present() {
        promise = 15;
        ProcessRoom x = running();
        due("present(), active", x.present(), 0);
        x.resume(3);
        due("present(), wanted", x.present(), 3);
        x.suspend();
        due("present(), wanted back", x.present(), 0);
        x.suspend();
        due("present(), none wanted", x.present(), NONE);
        due("active()", x.active(), 0);
        x.step();
        due("present(), none active", x.present(), NONE);
    }

    private static void wanted() {
        promise = 16;
        ProcessRoom x = running();
        no("wanted()", x.wanted());
        x.resume(1);
        no("wanted(), only ready", x.wanted());
        x.resume(3);
        yes("wanted(), to another", x.wanted());
        x.step();
        no("wanted(), done", x.wanted());
        x.suspend();
        x.suspend();
        x.suspend();
        yes("wanted(), to none", x.wanted());
        x.step();
        no("wanted(), done", x.wanted());
    }

    private static void here() {
        promise = 17;
        ProcessRoom x = running();
        due("here()", x.here(), 100);
        x.work(20);
        due("here()", x.here(), 120);
        x.resume(3);
        due("here() before the step", x.here(), 120);
        x.step();
        due("here() after it", x.here(), 400);
        x.end();
        due("here() after the end, before the step", x.here(), 400);
        x.step();
        due("here() back", x.here(), 120);
        x.suspend();
        x.step();
        due("here() with none", x.here(), 0);
    }

    private static void place() {
        promise = 18;
        ProcessRoom x = running();
        x.work(20);
        due("place(0), as it was made", x.place(0), 100);
        x.resume(3);
        due("place(0) before the step", x.place(0), 100);
        x.step();
        due("place(0) after it", x.place(0), 120);
        due("place(3)", x.place(3), 400);
        due("place(9), not made", x.place(9), 0);
        x.end();
        due("place(3), made no more", x.place(3), 0);
        for (int p : NO_PROCESS) {
            due("place(" + p + ")", x.place(p), 0);
        }
    }

    private static void priority() {
        promise = 19;
        ProcessRoom x = running();
        due("priority(0)", x.priority(0), 4);
        due("priority(3)", x.priority(3), 6);
        due("priority(31), not made", x.priority(31), NONE);
        x.end();
        due("priority(0), made no more", x.priority(0), NONE);
        for (int p : NO_PROCESS) {
            due("priority(" + p + ")", x.priority(p), NONE);
        }
    }

    private static void row() {
        promise = 20;
        ProcessRoom x = running();
        due("row(0), active", x.row(0), 0);
        due("row(1), in none", x.row(1), 0);
        due("row(31), not made", x.row(31), NONE);
        x.make(30, 1, 0);
        x.make(31, 8, 0);
        x.make(29, 8, 0);
        x.resume(30);
        x.resume(31);
        x.resume(29);
        due("row(30)", x.row(30), 1);
        due("row(31), present", x.row(31), 0);
        due("row(29)", x.row(29), 8);
        due("row(0)", x.row(0), 4);
        x.await(0);
        x.await(15);
        due("row(31)", x.row(31), 16);
        due("row(29)", x.row(29), 31);
        for (int p : NO_PROCESS) {
            due("row(" + p + ")", x.row(p), NONE);
        }
    }

    private static void at() {
        promise = 21;
        ProcessRoom x = new ProcessRoom();
        for (int p = 0; p < 32; p++) {
            x.make(p, 8, p);
            x.resume(p);
        }
        due("at(8, 30)", x.at(8, 30), 31);
        due("at(8, 31)", x.at(8, 31), NONE);
        for (int p = 0; p < 32; p++) {
            due("await(15)", x.await(15), 0);
        }
        for (int i = 0; i < 32; i++) {
            due("at(31, " + i + ")", x.at(31, i), i);
        }
        due("at(8, 0)", x.at(8, 0), NONE);
        for (int i : new int[] {MIN, -1, 32, 33, MAX}) {
            due("at(31, " + i + ")", x.at(31, i), NONE);
        }
        for (int row : new int[] {MIN, -1, 0, 9, 15, 32, 33, MAX}) {
            due("at(" + row + ", 0)", x.at(row, 0), NONE);
        }
        ProcessRoom y = running();
        due("at(0, 0) with some in no row", y.at(0, 0), NONE);
        due("at(-1, 0) with some not made", y.at(-1, 0), NONE);
    }

    private static void extra() {
        promise = 22;
        ProcessRoom x = running();
        for (int i = 0; i < 45; i++) {
            x.signal(15);
        }
        due("extra(15)", x.extra(15), 45);
        due("extra(14)", x.extra(14), 0);
        x.await(15);
        due("extra(15)", x.extra(15), 44);
        for (int s : NO_SEMAPHORE) {
            due("extra(" + s + ")", x.extra(s), NONE);
        }
    }

    private static void posted() {
        promise = 23;
        ProcessRoom x = new ProcessRoom();
        x.post(15);
        x.post(0);
        x.post(15);
        due("posted(0)", x.posted(0), 15);
        due("posted(1)", x.posted(1), 0);
        due("posted(2)", x.posted(2), 15);
        for (int i : new int[] {MIN, -1, 3, 39, 40, 41, MAX}) {
            due("posted(" + i + ")", x.posted(i), NONE);
        }
        x.step();
        due("posted(0) after the step", x.posted(0), NONE);
        for (int i = 0; i < 40; i++) {
            x.post(7);
        }
        due("posted(39)", x.posted(39), 7);
        due("posted(40) of a full list", x.posted(40), NONE);
    }
}
