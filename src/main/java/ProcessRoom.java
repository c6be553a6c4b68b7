/**
 * A room where processes take turns. The numbered promises that it keeps are in
 * the project's document; README.md says how to use it.
 */
public final class ProcessRoom {
    public static final int NONE = -1;

    private static final int PROCESSES = 32;
    private static final int SEMAPHORES = 16;
    private static final int LOWEST = 1;
    private static final int HIGHEST = 8;
    private static final int MOST_POSTED = 40;
    private static final int MOST_WORK = 1000;
    private static final int NOT_MADE = 0;
    private static final int NO_ROW = 0;
    private static final int FIRST_SEMAPHORE_ROW = 16;

    private final int[] priorities;
    private final int[] places;
    private final int[] rows;

    // Whoever enters a row enters at its end, so one line in the order of
    // entering holds all rows: a row is those of the line that are in it.
    private final int[] line;
    private int lineLength;

    private final int[] extras;
    private final int[] posts;
    private int postCount;

    private int active;
    private int here;
    private boolean wanted;
    private int wantedOne;

    public ProcessRoom() {
        priorities = new int[PROCESSES];
        places = new int[PROCESSES];
        rows = new int[PROCESSES];
        line = new int[PROCESSES];
        lineLength = 0;
        extras = new int[SEMAPHORES];
        posts = new int[MOST_POSTED];
        postCount = 0;
        active = NONE;
        here = 0;
        wanted = false;
        wantedOne = NONE;
    }

    public boolean make(int p, int priority, int place) {
        if (!isProcess(p) || isMade(p) || !isPriority(priority)) {
            return false;
        }
        priorities[p] = priority;
        places[p] = place;
        return true;
    }

    public boolean resume(int p) {
        if (!isMade(p) || rows[p] != NO_ROW || p == present() || p == active) {
            return false;
        }
        wake(p);
        return true;
    }

    public int suspend() {
        int p = present();
        if (p != NONE) {
            putAside();
        }
        return p;
    }

    public int end() {
        int p = present();
        if (!isMade(p)) {
            return NONE;
        }
        priorities[p] = NOT_MADE;
        if (p == active) {
            active = NONE;
        }
        putAside();
        return p;
    }

    public int await(int s) {
        int p = present();
        if (!isSemaphore(s) || p == NONE) {
            return NONE;
        }
        if (extras[s] > 0) {
            extras[s]--;
            return 1;
        }
        enter(p, FIRST_SEMAPHORE_ROW + s);
        putAside();
        return 0;
    }

    public boolean signal(int s) {
        if (!isSemaphore(s)) {
            return false;
        }
        int first = at(FIRST_SEMAPHORE_ROW + s, 0);
        if (first == NONE) {
            extras[s]++;
        } else {
            leave(first);
            wake(first);
        }
        return true;
    }

    public int post(int s) {
        if (!isSemaphore(s) || postCount >= MOST_POSTED) {
            return NONE;
        }
        posts[postCount] = s;
        postCount++;
        return postCount;
    }

    public int step() {
        signalPosted();
        if (wanted) {
            change();
        }
        return active;
    }

    public boolean work(int n) {
        if (n < 1 || n > MOST_WORK || active == NONE || wanted) {
            return false;
        }
        here += n;
        return true;
    }

    public boolean take(int p) {
        if (!isProcess(p) || rows[p] == NO_ROW) {
            return false;
        }
        leave(p);
        return true;
    }

    public int rate(int p, int priority) {
        if (!isMade(p) || !isPriority(priority)) {
            return NONE;
        }
        int before = priorities[p];
        priorities[p] = priority;
        return before;
    }

    public boolean yield() {
        int p = present();
        if (!isMade(p) || at(priorities[p], 0) == NONE) {
            return false;
        }
        enter(p, priorities[p]);
        putAside();
        return true;
    }

    public int active() {
        return active;
    }

    public int present() {
        return wanted ? wantedOne : active;
    }

    public boolean wanted() {
        return wanted;
    }

    public int here() {
        return here;
    }

    public int place(int p) {
        return isMade(p) ? places[p] : 0;
    }

    public int priority(int p) {
        return isMade(p) ? priorities[p] : NONE;
    }

    public int row(int p) {
        return isMade(p) ? rows[p] : NONE;
    }

    public int at(int row, int i) {
        // All in the line are in some row: a number that is none finds nobody.
        int before = 0;
        for (int k = 0; k < lineLength && k < PROCESSES; k++) {
            int p = line[k];
            if (isProcess(p) && rows[p] == row) {
                if (before == i) {
                    return p;
                }
                before++;
            }
        }
        return NONE;
    }

    public int extra(int s) {
        return isSemaphore(s) ? extras[s] : NONE;
    }

    public int posted(int i) {
        return i >= 0 && i < postCount && i < MOST_POSTED ? posts[i] : NONE;
    }

    private static boolean isProcess(int p) {
        return p >= 0 && p < PROCESSES;
    }

    private static boolean isSemaphore(int s) {
        return s >= 0 && s < SEMAPHORES;
    }

    private static boolean isPriority(int priority) {
        return priority >= LOWEST && priority <= HIGHEST;
    }

    private boolean isMade(int p) {
        return isProcess(p) && priorities[p] != NOT_MADE;
    }

    private void wake(int p) {
        int rival = present();
        if (rival != NONE && priority(rival) >= priority(p)) {
            enter(p, priority(p));
            return;
        }
        if (rival != NONE) {
            enter(rival, priority(rival));
        }
        want(p);
    }

    private void putAside() {
        int next = firstReady();
        leave(next);
        want(next);
    }

    private void want(int p) {
        wanted = true;
        wantedOne = p;
    }

    private int firstReady() {
        for (int priority = HIGHEST; priority >= LOWEST; priority--) {
            int first = at(priority, 0);
            if (first != NONE) {
                return first;
            }
        }
        return NONE;
    }

    private void enter(int p, int row) {
        if (isProcess(p) && lineLength < PROCESSES) {
            rows[p] = row;
            line[lineLength] = p;
            lineLength++;
        }
    }

    private void leave(int p) {
        if (!isProcess(p)) {
            return;
        }
        rows[p] = NO_ROW;
        int kept = 0;
        for (int k = 0; k < lineLength && k < PROCESSES; k++) {
            if (line[k] != p) {
                line[kept] = line[k];
                kept++;
            }
        }
        lineLength = kept;
    }

    private void signalPosted() {
        for (int i = 0; i < postCount && i < MOST_POSTED; i++) {
            signal(posts[i]);
        }
        postCount = 0;
    }

    private void change() {
        if (isProcess(active)) {
            places[active] = here;
        }
        active = wantedOne;
        here = place(active);
        wanted = false;
        wantedOne = NONE;
    }
}
