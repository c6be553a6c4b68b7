import java.util.ArrayList;
import java.util.List;
import java.util.Random;

/**
 * Long runs of calls, ordinary and wrong ones mixed, on the room and on a second
 * telling of the document that holds each row as a list of its own. The answers must be
 * the same. The document speaks of 512 calls: some runs use them all for changes, others
 * stop earlier and ask for everything that can be asked. The seeds are fixed.
 */
public final class ProcessRoomAgainstModel {
    private static final int RUNS = 16000;
    private static final int CALLS = 512;
    private static final int CALLS_OF_A_WHOLE_LOOK = 266;
    private static final int[] ODD = {Integer.MIN_VALUE, -1, 0, 9, 15, 16, 31, 32, 1000, 1001, Integer.MAX_VALUE};

    public static void main(String[] args) {
        for (int run = 0; run < RUNS; run++) {
            String fault = faultOf(run);
            if (fault != null) {
                System.out.println("run " + run + ": " + fault);
                System.exit(1);
            }
        }
        System.out.println("the room and the model agree");
    }

    private static String faultOf(int run) {
        Random random = new Random(run);
        // Few processes crowd the rows of few semaphores; many fill long rows.
        int processes = 2 + random.nextInt(31);
        int semaphores = 1 + random.nextInt(16);
        int priorities = 1 + random.nextInt(8);
        int stepEvery = 1 + random.nextInt(60);
        boolean looks = run % 4 != 0;
        // So that 40 are posted in some runs before a step comes.
        boolean postsMuch = run % 8 == 1;
        int changes = looks ? 1 + random.nextInt(CALLS - CALLS_OF_A_WHOLE_LOOK) : CALLS;
        ProcessRoom room = new ProcessRoom();
        Model model = new Model();
        String text = "";
        for (int k = 0; k < changes; k++) {
            int call = random.nextInt(stepEvery) == 0 ? 7 : random.nextInt(13);
            if (call == 3 && random.nextInt(3) != 0) {
                call = 1;
            }
            if (postsMuch && random.nextInt(50) != 0 && (call == 7 || random.nextInt(2) == 0)) {
                call = 6;
            }
            int p = pick(random, 0, processes);
            int s = pick(random, 0, semaphores);
            int priority = pick(random, 1, priorities);
            int n = random.nextInt(4) == 0 ? random.nextInt() : pick(random, 1, 1000);
            text = k + ": call " + call + " p " + p + " s " + s + " priority " + priority + " n " + n;
            int got = askRoom(room, call, p, s, priority, n);
            int want = askModel(model, call, p, s, priority, n);
            if (got != want) {
                return text + " answered " + got + ", due is " + want;
            }
        }
        String seen = looks ? seenIn(room, model) : null;
        return seen == null ? null : text + ", then " + seen;
    }

    private static int pick(Random random, int least, int howMany) {
        return random.nextInt(25) == 0 ? ODD[random.nextInt(ODD.length)] : least + random.nextInt(howMany);
    }

    private static int askRoom(ProcessRoom x, int call, int p, int s, int priority, int n) {
        switch (call) {
            case 0: return x.make(p, priority, n) ? 1 : 0;
            case 1: return x.resume(p) ? 1 : 0;
            case 2: return x.suspend();
            case 3: return x.end();
            case 4: return x.await(s);
            case 5: return x.signal(s) ? 1 : 0;
            case 6: return x.post(s);
            case 7: return x.step();
            case 8: return x.work(n) ? 1 : 0;
            case 9: return x.take(p) ? 1 : 0;
            case 10: return x.rate(p, priority);
            case 11: return x.yield() ? 1 : 0;
            default: return x.make(p, priority, n) ? 1 : 0;
        }
    }

    private static int askModel(Model m, int call, int p, int s, int priority, int n) {
        switch (call) {
            case 0: return m.make(p, priority, n);
            case 1: return m.resume(p);
            case 2: return m.suspend();
            case 3: return m.end();
            case 4: return m.await(s);
            case 5: return m.signal(s);
            case 6: return m.post(s);
            case 7: return m.step();
            case 8: return m.work(n);
            case 9: return m.take(p);
            case 10: return m.rate(p, priority);
            case 11: return m.yieldTurn();
            default: return m.make(p, priority, n);
        }
    }

    /** What the room tells otherwise than the model does; null if nothing. */
    private static String seenIn(ProcessRoom x, Model m) {
        if (x.active() != number(m.active)) return "active() is " + x.active();
        if (x.present() != number(m.present())) return "present() is " + x.present();
        if (x.wanted() != m.changeWanted) return "wanted() is " + x.wanted();
        if (x.here() != m.here) return "here() is " + x.here();
        for (int p = -1; p <= 32; p++) {
            Process made = m.find(p);
            if (x.place(p) != (made == null ? 0 : made.place)) return "place(" + p + ") is " + x.place(p);
            if (x.priority(p) != (made == null ? -1 : made.priority)) return "priority(" + p + ") is " + x.priority(p);
            if (x.row(p) != (made == null ? -1 : m.rowOf(made))) return "row(" + p + ") is " + x.row(p);
        }
        for (int row = -1; row <= 32; row++) {
            List<Process> members = m.rowNumbered(row);
            for (int i = -1; i <= members.size(); i++) {
                int want = i < 0 || i == members.size() ? -1 : members.get(i).number;
                if (x.at(row, i) != want) return "at(" + row + ", " + i + ") is " + x.at(row, i);
            }
        }
        for (int s = -1; s <= 16; s++) {
            int want = s < 0 || s > 15 ? -1 : m.extra[s];
            if (x.extra(s) != want) return "extra(" + s + ") is " + x.extra(s);
        }
        for (int i = -1; i <= 40; i++) {
            int want = i < 0 || i >= m.posted.size() ? -1 : m.posted.get(i);
            if (x.posted(i) != want) return "posted(" + i + ") is " + x.posted(i);
        }
        return null;
    }

    private static int number(Process process) {
        return process == null ? -1 : process.number;
    }

    private static final class Process {
        final int number;
        int priority;
        int place;

        Process(int number, int priority, int place) {
            this.number = number;
            this.priority = priority;
            this.place = place;
        }
    }

    private static final class Model {
        final List<Process> made = new ArrayList<>();
        final List<List<Process>> rows = new ArrayList<>();
        final int[] extra = new int[16];
        final List<Integer> posted = new ArrayList<>();
        Process active = null;
        boolean changeWanted = false;
        Process changeTo = null;
        int here = 0;

        Model() {
            for (int row = 0; row < 32; row++) {
                rows.add(new ArrayList<>());
            }
        }

        Process find(int p) {
            for (Process process : made) {
                if (process.number == p) return process;
            }
            return null;
        }

        List<Process> rowNumbered(int row) {
            return row < 0 || row > 31 ? new ArrayList<>() : rows.get(row);
        }

        int rowOf(Process process) {
            for (int row = 1; row < 32; row++) {
                if (rows.get(row).contains(process)) return row;
            }
            return 0;
        }

        Process present() {
            return changeWanted ? changeTo : active;
        }

        void wake(Process process) {
            Process present = present();
            if (present != null && present.priority >= process.priority) {
                rows.get(process.priority).add(process);
            } else {
                if (present != null) rows.get(present.priority).add(present);
                changeWanted = true;
                changeTo = process;
            }
        }

        void putAside() {
            changeWanted = true;
            changeTo = null;
            for (int row = 1; row <= 8; row++) {
                if (!rows.get(row).isEmpty()) changeTo = rows.get(row).get(0);
            }
            if (changeTo != null) rows.get(rowOf(changeTo)).remove(0);
        }

        int make(int p, int priority, int place) {
            if (p < 0 || p > 31 || find(p) != null || priority < 1 || priority > 8) return 0;
            made.add(new Process(p, priority, place));
            return 1;
        }

        int resume(int p) {
            Process process = find(p);
            if (process == null || rowOf(process) != 0 || process == present() || process == active) return 0;
            wake(process);
            return 1;
        }

        int suspend() {
            Process present = present();
            if (present != null) putAside();
            return number(present);
        }

        int end() {
            Process present = present();
            if (present == null) return -1;
            made.remove(present);
            putAside();
            if (active == present) active = null;
            return present.number;
        }

        int await(int s) {
            Process present = present();
            if (s < 0 || s > 15 || present == null) return -1;
            if (extra[s] > 0) {
                extra[s]--;
                return 1;
            }
            rows.get(16 + s).add(present);
            putAside();
            return 0;
        }

        int signal(int s) {
            if (s < 0 || s > 15) return 0;
            if (rows.get(16 + s).isEmpty()) extra[s]++;
            else wake(rows.get(16 + s).remove(0));
            return 1;
        }

        int post(int s) {
            if (s < 0 || s > 15 || posted.size() == 40) return -1;
            posted.add(s);
            return posted.size();
        }

        int step() {
            while (!posted.isEmpty()) signal(posted.remove(0));
            if (changeWanted) {
                if (active != null) active.place = here;
                active = changeTo;
                here = active == null ? 0 : active.place;
                changeWanted = false;
                changeTo = null;
            }
            return number(active);
        }

        int work(int n) {
            if (n < 1 || n > 1000 || active == null || changeWanted) return 0;
            here += n;
            return 1;
        }

        int take(int p) {
            Process process = find(p);
            if (process == null || rowOf(process) == 0) return 0;
            rows.get(rowOf(process)).remove(process);
            return 1;
        }

        int rate(int p, int priority) {
            Process process = find(p);
            if (process == null || priority < 1 || priority > 8) return -1;
            int before = process.priority;
            process.priority = priority;
            return before;
        }

        int yieldTurn() {
            Process present = present();
            if (present == null || rows.get(present.priority).isEmpty()) return 0;
            rows.get(present.priority).add(present);
            putAside();
            return 1;
        }
    }
}
