import java.util.ArrayList;
import java.util.List;

/**
 * "A call that is refused changes nothing." Each refusal is made on one of two rooms
 * with the same past; then both must tell the same of themselves, and another such pair
 * must answer the same to a long run of later calls. No room is used for more than the
 * 512 calls that the document speaks of.
 */
public final class ProcessRoomRefusals {
    private static final String MIN = "-2147483648";
    private static final String MAX = "2147483647";
    private static final String[] NO_PROCESS = {MIN, "-32", "-1", "32", "33", MAX};
    private static final String[] NO_SEMAPHORE = {MIN, "-16", "-1", "16", "17", "31", "32", MAX};
    private static final String[] NO_PRIORITY = {MIN, "-8", "-1", "0", "9", "10", MAX};
    private static final String[] NO_WORK = {MIN, "-1000", "-1", "0", "1001", "1002", MAX};

    private static final String NEW = "";
    private static final String MADE = "make 0 4 100, make 1 4 200, make 2 4 300, make 3 6 400, make 4 2 500";
    private static final String ACTIVE = MADE + ", resume 0, step, work 7";
    private static final String OTHERS_READY = ACTIVE + ", resume 1, resume 2, resume 4";
    private static final String WANTED = OTHERS_READY + ", resume 3";
    private static final String WANTED_BACK = ACTIVE + ", resume 3, suspend";
    private static final String WANTED_AFTER_END = OTHERS_READY + ", end";
    private static final String WANTED_TO_NONE = ACTIVE + ", suspend";
    private static final String ENDED = ACTIVE + ", end";
    private static final String STEPPED_TO_NONE = ACTIVE + ", suspend, step";
    private static final String FIRST_WANTED = MADE + ", resume 1, resume 2";
    private static final String ACTIVE_TAKEN = WANTED + ", take 0";
    private static final String WAITING = OTHERS_READY + ", await 15, await 0, step, work 1000";
    private static final String ALL_WAITING = WAITING + ", await 0, await 15, step";
    private static final String SIGNALLED = OTHERS_READY + ", signal 0, signal 15, signal 15";
    private static final String SIGNALLED_NONE = STEPPED_TO_NONE + ", signal 0, signal 15";
    private static final String SIGNALLED_WANTED_TO_NONE = WANTED_TO_NONE + ", signal 0, signal 15";
    private static final String POSTED = WAITING + ", post 15, post 0, post 7";
    private static final String POSTED_39 = WAITING + ", post 15".repeat(39);
    private static final String POSTED_40 = WAITING + ", post 0" + ", post 15".repeat(39);
    private static final String RATED = OTHERS_READY + ", rate 1 8, rate 0 3";
    private static final String RATED_ACTIVE_LOW = OTHERS_READY + ", rate 0 1";
    private static final String LARGEST = "make 31 8 " + MAX + ", resume 31, step, work 1";
    private static final String FULL = allMade() + ", step, work 3";

    private static final String[] STATES = {
        NEW, MADE, ACTIVE, OTHERS_READY, WANTED, WANTED_BACK, WANTED_AFTER_END, WANTED_TO_NONE,
        ENDED, STEPPED_TO_NONE, FIRST_WANTED, ACTIVE_TAKEN, WAITING, ALL_WAITING, SIGNALLED,
        SIGNALLED_NONE, SIGNALLED_WANTED_TO_NONE, POSTED, POSTED_39, POSTED_40, RATED,
        RATED_ACTIVE_LOW, LARGEST, FULL,
    };

    private static int wrong = 0;

    public static void main(String[] args) {
        makeRefused();
        resumeRefused();
        suspendAndEndRefused();
        awaitRefused();
        signalRefused();
        postRefused();
        workRefused();
        takeRefused();
        rateRefused();
        yieldRefused();
        questionsChangeNothing();
        anyRefusalInAnyState();
        System.out.println(wrong == 0 ? "what is refused changes nothing" : wrong + " faults");
        if (wrong != 0) {
            System.exit(1);
        }
    }

    private static void makeRefused() {
        refused(MADE, "make 0 5 9", 0);
        refused(MADE, "make 0 4 100", 0);
        refused(ACTIVE, "make 0 5 9", 0);
        refused(OTHERS_READY, "make 1 5 9", 0);
        refused(WANTED, "make 0 5 9", 0);
        refused(WANTED, "make 3 5 9", 0);
        refused(WAITING, "make 0 5 9", 0);
        refused(FULL, "make 0 1 9", 0);
        refused(FULL, "make 31 1 9", 0);
        for (String p : NO_PROCESS) {
            refused(NEW, "make " + p + " 1 9", 0);
            refused(FULL, "make " + p + " 8 9", 0);
        }
        for (String priority : NO_PRIORITY) {
            refused(NEW, "make 0 " + priority + " 9", 0);
            refused(ACTIVE, "make 31 " + priority + " 9", 0);
            refused(ENDED, "make 0 " + priority + " 9", 0);
        }
        refused(NEW, "make 32 9 9", 0);
        refused(MADE, "make 0 9 9", 0);
    }

    private static void resumeRefused() {
        refused(NEW, "resume 0", 0);
        refused(MADE, "resume 5", 0);
        refused(MADE, "resume 31", 0);
        refused(ENDED, "resume 0", 0);
        refused(WANTED_AFTER_END, "resume 0", 0);
        for (String p : NO_PROCESS) {
            refused(MADE, "resume " + p, 0);
            refused(ACTIVE, "resume " + p, 0);
        }
        refused(OTHERS_READY, "resume 1", 0);
        refused(OTHERS_READY, "resume 2", 0);
        refused(OTHERS_READY, "resume 4", 0);
        refused(RATED, "resume 1", 0);
        refused(WAITING, "resume 0", 0);
        refused(WAITING, "resume 1", 0);
        refused(ALL_WAITING, "resume 4", 0);
        refused(ACTIVE, "resume 0", 0);
        refused(FIRST_WANTED, "resume 1", 0);
        refused(WANTED, "resume 3", 0);
        refused(WANTED, "resume 0", 0);
        refused(WANTED_BACK, "resume 0", 0);
        refused(WANTED_TO_NONE, "resume 0", 0);
        refused(ACTIVE_TAKEN, "resume 0", 0);
    }

    private static void suspendAndEndRefused() {
        for (String call : new String[] {"suspend", "end"}) {
            refused(NEW, call, -1);
            refused(MADE, call, -1);
            refused(WANTED_TO_NONE, call, -1);
            refused(ENDED, call, -1);
            refused(STEPPED_TO_NONE, call, -1);
            refused(ALL_WAITING, call, -1);
            refused(SIGNALLED_NONE, call, -1);
        }
    }

    private static void awaitRefused() {
        for (String s : NO_SEMAPHORE) {
            refused(ACTIVE, "await " + s, -1);
            refused(WANTED, "await " + s, -1);
            refused(SIGNALLED, "await " + s, -1);
            refused(NEW, "await " + s, -1);
        }
        for (String s : new String[] {"0", "15", "7"}) {
            refused(NEW, "await " + s, -1);
            refused(WANTED_TO_NONE, "await " + s, -1);
            refused(ENDED, "await " + s, -1);
            refused(STEPPED_TO_NONE, "await " + s, -1);
            refused(SIGNALLED_NONE, "await " + s, -1);
            refused(SIGNALLED_WANTED_TO_NONE, "await " + s, -1);
        }
    }

    private static void signalRefused() {
        for (String s : NO_SEMAPHORE) {
            refused(NEW, "signal " + s, 0);
            refused(WAITING, "signal " + s, 0);
            refused(ALL_WAITING, "signal " + s, 0);
            refused(SIGNALLED, "signal " + s, 0);
        }
    }

    private static void postRefused() {
        for (String s : NO_SEMAPHORE) {
            refused(NEW, "post " + s, -1);
            refused(POSTED, "post " + s, -1);
            refused(POSTED_39, "post " + s, -1);
            refused(POSTED_40, "post " + s, -1);
        }
        for (int s = 0; s < 16; s++) {
            refused(POSTED_40, "post " + s, -1);
        }
    }

    private static void workRefused() {
        for (String n : NO_WORK) {
            refused(ACTIVE, "work " + n, 0);
            refused(LARGEST, "work " + n, 0);
            refused(NEW, "work " + n, 0);
            refused(WANTED, "work " + n, 0);
        }
        for (String n : new String[] {"1", "1000"}) {
            refused(NEW, "work " + n, 0);
            refused(MADE, "work " + n, 0);
            refused(STEPPED_TO_NONE, "work " + n, 0);
            refused(FIRST_WANTED, "work " + n, 0);
            refused(WANTED, "work " + n, 0);
            refused(WANTED_BACK, "work " + n, 0);
            refused(WANTED_TO_NONE, "work " + n, 0);
            refused(WANTED_AFTER_END, "work " + n, 0);
            refused(ENDED, "work " + n, 0);
        }
    }

    private static void takeRefused() {
        for (String p : NO_PROCESS) {
            refused(OTHERS_READY, "take " + p, 0);
            refused(ALL_WAITING, "take " + p, 0);
            refused(FULL, "take " + p, 0);
        }
        refused(NEW, "take 0", 0);
        refused(OTHERS_READY, "take 31", 0);
        refused(MADE, "take 0", 0);
        refused(OTHERS_READY, "take 3", 0);
        refused(OTHERS_READY, "take 0", 0);
        refused(WANTED, "take 3", 0);
        refused(WANTED_BACK, "take 0", 0);
        refused(WANTED_TO_NONE, "take 0", 0);
        refused(WANTED_AFTER_END, "take 0", 0);
        refused(WANTED_AFTER_END, "take 1", 0);
        refused(ACTIVE_TAKEN, "take 0", 0);
    }

    private static void rateRefused() {
        for (String p : NO_PROCESS) {
            refused(NEW, "rate " + p + " 1", -1);
            refused(FULL, "rate " + p + " 1", -1);
        }
        for (String priority : NO_PRIORITY) {
            refused(ACTIVE, "rate 0 " + priority, -1);
            refused(OTHERS_READY, "rate 1 " + priority, -1);
            refused(WANTED, "rate 3 " + priority, -1);
            refused(WAITING, "rate 1 " + priority, -1);
            refused(NEW, "rate 0 " + priority, -1);
        }
        for (String priority : new String[] {"1", "8"}) {
            refused(NEW, "rate 0 " + priority, -1);
            refused(MADE, "rate 5 " + priority, -1);
            refused(ENDED, "rate 0 " + priority, -1);
            refused(WANTED_AFTER_END, "rate 0 " + priority, -1);
        }
    }

    private static void yieldRefused() {
        refused(NEW, "yield", 0);
        refused(MADE, "yield", 0);
        refused(ACTIVE, "yield", 0);
        refused(ACTIVE + ", resume 4", "yield", 0);
        refused(OTHERS_READY + ", rate 0 3", "yield", 0);
        refused(RATED_ACTIVE_LOW, "yield", 0);
        refused(OTHERS_READY + ", rate 0 5", "yield", 0);
        refused(WANTED, "yield", 0);
        refused(WANTED_BACK, "yield", 0);
        refused(WANTED_TO_NONE, "yield", 0);
        refused(ENDED, "yield", 0);
        refused(STEPPED_TO_NONE, "yield", 0);
        refused(ALL_WAITING, "yield", 0);
    }

    private static void questionsChangeNothing() {
        String[] numbers = {MIN, "-1", "0", "1", "8", "9", "15", "16", "31", "32", "39", "40", MAX};
        List<String> questions = new ArrayList<>(List.of("active", "present", "wanted", "here"));
        for (String number : numbers) {
            for (String name : new String[] {"place", "priority", "row", "extra", "posted"}) {
                questions.add(name + " " + number);
            }
            for (String i : new String[] {MIN, "-1", "0", "1", "31", "32", MAX}) {
                questions.add("at " + number + " " + i);
            }
        }
        for (String state : STATES) {
            for (String question : questions) {
                changesNothing(state, question);
            }
        }
    }

    /** Which of these are refused is told by the promises' own tests; here those that were must have left no trace. */
    private static void anyRefusalInAnyState() {
        int refusals = 0;
        for (String state : STATES) {
            for (String call : callsOfAllKinds()) {
                if (isRefusal(call, ask(roomAfter(state), call))) {
                    refusals++;
                    changesNothing(state, call);
                }
            }
        }
        if (refusals < 1000) {
            wrong++;
            System.out.println("only " + refusals + " calls were refused");
        }
    }

    private static List<String> callsOfAllKinds() {
        String[] processes = {MIN, "-1", "0", "1", "2", "3", "4", "5", "31", "32", MAX};
        String[] semaphores = {MIN, "-1", "0", "1", "15", "16", MAX};
        String[] priorities = {MIN, "0", "1", "4", "8", "9", MAX};
        List<String> calls = new ArrayList<>(List.of("suspend", "end", "yield"));
        for (String p : processes) {
            calls.add("resume " + p);
            calls.add("take " + p);
            for (String priority : priorities) {
                calls.add("make " + p + " " + priority + " 77");
                calls.add("rate " + p + " " + priority);
            }
        }
        for (String s : semaphores) {
            calls.add("await " + s);
            calls.add("signal " + s);
            calls.add("post " + s);
        }
        for (String n : new String[] {MIN, "-1", "0", "1", "1000", "1001", MAX}) {
            calls.add("work " + n);
        }
        return calls;
    }

    private static boolean isRefusal(String call, int answer) {
        switch (call.split(" ")[0]) {
            case "make": case "resume": case "signal": case "work": case "take": case "yield":
                return answer == 0;
            default:
                return answer == ProcessRoom.NONE;
        }
    }

    private static void refused(String state, String call, int due) {
        int answer = ask(roomAfter(state), call);
        if (answer != due) {
            wrong++;
            System.out.println("after [" + state + "] " + call + " answered " + answer + ", due is " + due);
        }
        changesNothing(state, call);
    }

    private static void changesNothing(String state, String call) {
        ProcessRoom seen = roomAfter(state);
        ask(seen, call);
        compare(state, call, "", allThatIsTold(seen), allThatIsTold(roomAfter(state)));
        ProcessRoom goesOn = roomAfter(state);
        ask(goesOn, call);
        compare(state, call, " later", laterAnswers(goesOn), laterAnswers(roomAfter(state)));
    }

    private static void compare(String state, String call, String when, List<String> got, List<String> want) {
        for (int i = 0; i < want.size() || i < got.size(); i++) {
            String one = i < got.size() ? got.get(i) : "nothing";
            String other = i < want.size() ? want.get(i) : "nothing";
            if (!one.equals(other)) {
                wrong++;
                System.out.println("after [" + state + "] " + call + " changed" + when + " " + other + " to " + one);
                return;
            }
        }
    }

    /** At most 213 calls, whatever the room holds. */
    private static List<String> allThatIsTold(ProcessRoom x) {
        List<String> told = new ArrayList<>();
        for (String question : new String[] {"active", "present", "wanted", "here"}) {
            told.add(asked(x, question));
        }
        for (int p = 0; p < 32; p++) {
            told.add(asked(x, "place " + p));
            told.add(asked(x, "priority " + p));
            told.add(asked(x, "row " + p));
        }
        for (int s = 0; s < 16; s++) {
            told.add(asked(x, "extra " + s));
        }
        for (int row = 1; row < 32; row = row == 8 ? 16 : row + 1) {
            int i = 0;
            do {
                told.add(asked(x, "at " + row + " " + i));
                i++;
            } while (i < 32 && !told.get(told.size() - 1).endsWith("= -1"));
        }
        for (int i = 0; i < 41; i++) {
            told.add(asked(x, "posted " + i));
        }
        return told;
    }

    /** 241 calls until the room is empty: who comes when tells what the rows and the change were. */
    private static List<String> laterAnswers(ProcessRoom x) {
        List<String> answers = new ArrayList<>();
        String first = "work 1, here, yield, present, step, here, post 3, post 3, step, here, work 2, await 3, step, here";
        for (String call : first.split(", ")) {
            answers.add(asked(x, call));
        }
        for (int s = 0; s < 16; s++) {
            answers.add(asked(x, "signal " + s));
            answers.add(asked(x, "extra " + s));
        }
        for (int p = 0; p < 32; p++) {
            answers.add(asked(x, "resume " + p));
        }
        for (int p = 0; p < 33; p++) {
            answers.add(asked(x, "step"));
            answers.add(asked(x, "here"));
            answers.add(asked(x, "end"));
        }
        for (int p = 0; p < 32; p++) {
            answers.add(asked(x, "make " + p + " 8 5"));
            answers.add(asked(x, "row " + p));
        }
        return answers;
    }

    private static String asked(ProcessRoom x, String call) {
        return call + " = " + ask(x, call);
    }

    private static ProcessRoom roomAfter(String calls) {
        ProcessRoom x = new ProcessRoom();
        if (!calls.isEmpty()) {
            for (String call : calls.split(", ")) {
                ask(x, call);
            }
        }
        return x;
    }

    private static int ask(ProcessRoom x, String call) {
        String[] words = call.split(" ");
        int a = words.length > 1 ? Integer.parseInt(words[1]) : 0;
        int b = words.length > 2 ? Integer.parseInt(words[2]) : 0;
        int c = words.length > 3 ? Integer.parseInt(words[3]) : 0;
        switch (words[0]) {
            case "make": return x.make(a, b, c) ? 1 : 0;
            case "resume": return x.resume(a) ? 1 : 0;
            case "suspend": return x.suspend();
            case "end": return x.end();
            case "await": return x.await(a);
            case "signal": return x.signal(a) ? 1 : 0;
            case "post": return x.post(a);
            case "step": return x.step();
            case "work": return x.work(a) ? 1 : 0;
            case "take": return x.take(a) ? 1 : 0;
            case "rate": return x.rate(a, b);
            case "yield": return x.yield() ? 1 : 0;
            case "active": return x.active();
            case "present": return x.present();
            case "wanted": return x.wanted() ? 1 : 0;
            case "here": return x.here();
            case "place": return x.place(a);
            case "priority": return x.priority(a);
            case "row": return x.row(a);
            case "at": return x.at(a, b);
            case "extra": return x.extra(a);
            case "posted": return x.posted(a);
            default: throw new IllegalArgumentException("no such call: " + call);
        }
    }

    private static String allMade() {
        StringBuilder calls = new StringBuilder("make 0 8 0, resume 0");
        for (int p = 1; p < 32; p++) {
            calls.append(", make ").append(p).append(' ').append(1 + p % 8).append(' ').append(p);
            calls.append(", resume ").append(p);
        }
        return calls.toString();
    }
}
