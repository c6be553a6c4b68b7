import java.lang.reflect.Constructor;
import java.lang.reflect.Field;
import java.lang.reflect.Method;
import java.lang.reflect.Modifier;
import java.util.Arrays;
import java.util.TreeSet;

/** The class has the document's public face and shows nothing else. */
public final class ProcessRoomFace {
    private static final String[] FACE = {
        "public static final int ProcessRoom.NONE",
        "public ProcessRoom()",
        "public boolean ProcessRoom.make(int,int,int)",
        "public boolean ProcessRoom.resume(int)",
        "public int ProcessRoom.suspend()",
        "public int ProcessRoom.end()",
        "public int ProcessRoom.await(int)",
        "public boolean ProcessRoom.signal(int)",
        "public int ProcessRoom.post(int)",
        "public int ProcessRoom.step()",
        "public boolean ProcessRoom.work(int)",
        "public boolean ProcessRoom.take(int)",
        "public int ProcessRoom.rate(int,int)",
        "public boolean ProcessRoom.yield()",
        "public int ProcessRoom.active()",
        "public int ProcessRoom.present()",
        "public boolean ProcessRoom.wanted()",
        "public int ProcessRoom.here()",
        "public int ProcessRoom.place(int)",
        "public int ProcessRoom.priority(int)",
        "public int ProcessRoom.row(int)",
        "public int ProcessRoom.at(int,int)",
        "public int ProcessRoom.extra(int)",
        "public int ProcessRoom.posted(int)",
    };

    public static void main(String[] args) {
        TreeSet<String> due = new TreeSet<>(Arrays.asList(FACE));
        TreeSet<String> shown = shownMembers();
        int wrong = 0;
        for (String member : due) {
            wrong += complain(!shown.contains(member), "missing: " + member);
        }
        for (String member : shown) {
            wrong += complain(!due.contains(member), "not in the document: " + member);
        }
        int modifiers = ProcessRoom.class.getModifiers();
        wrong += complain(!Modifier.isPublic(modifiers) || !Modifier.isFinal(modifiers), "not public and final");
        wrong += complain(ProcessRoom.NONE != -1, "NONE is " + ProcessRoom.NONE);
        System.out.println(wrong == 0 ? "the face is as due" : wrong + " faults in the face");
        if (wrong != 0) {
            System.exit(1);
        }
    }

    private static int complain(boolean bad, String text) {
        if (bad) {
            System.out.println(text);
        }
        return bad ? 1 : 0;
    }

    private static TreeSet<String> shownMembers() {
        TreeSet<String> shown = new TreeSet<>();
        for (Field f : ProcessRoom.class.getDeclaredFields()) {
            addIfShown(shown, f.getModifiers(), f.toString());
        }
        for (Constructor<?> c : ProcessRoom.class.getDeclaredConstructors()) {
            addIfShown(shown, c.getModifiers(), c.toString());
        }
        for (Method m : ProcessRoom.class.getDeclaredMethods()) {
            addIfShown(shown, m.getModifiers(), m.toString());
        }
        return shown;
    }

    private static void addIfShown(TreeSet<String> shown, int modifiers, String text) {
        if (!Modifier.isPrivate(modifiers)) {
            shown.add(text);
        }
    }
}
