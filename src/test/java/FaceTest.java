import java.io.IOException;
import java.lang.reflect.Constructor;
import java.lang.reflect.Field;
import java.lang.reflect.Method;
import java.lang.reflect.Modifier;
import java.nio.charset.StandardCharsets;
import java.nio.file.Files;
import java.nio.file.Path;
import java.util.ArrayList;
import java.util.Arrays;
import java.util.List;
import java.util.Set;
import java.util.TreeSet;

/** The face is the document's and no more, and stands in the source as the document tells it. */
public final class FaceTest {
    private static final String[] FACE = {
        "row int,int,int", "set int,int,int", "copy int,int,int,int,int", "drop int", "feed int", "ministry ", "fault ",
        "undo ", "nights int", "cushions int,int", "mend int", "watch int,int", "change int,int", "saw int,int",
        "chair int,int", "ranked int", "ahead int,int,int", "minister int", "floor int", "rises int,int", "calm ",
        "cushionFor int,int,int", "guard int,int,int,int", "bestWatch int,int", "sawdust int,int", "pile int,int",
        "climb int", "coalition int", "sawnBy int", "round ", "enemy int,int,int", "who int,int,int,int,int,int",
        "guarded int,int,int,int", "doze int,int,int,int,int", "drawn int,int,int", "image int", "restore int",
        "kind int", "as int,int", "ask int,int", "trace int", "count int", "status ",
    };
    /** Which call is the first behind each of the words that the interface says. */
    private static final String[] SAID = {
        "row // ---- rows", "feed // ---- what is told", "nights // ---- what is done", "ahead // ---- foretold",
        "kind // ---- asked",
    };
    private static final List<String> IN_ORDER = inOrder();
    private static int wrong;

    private static List<String> inOrder() {
        List<String> all = new ArrayList<>();
        for (String told : FACE) {
            String name = told.substring(0, told.indexOf(' '));
            for (String said : SAID) {
                if (said.startsWith(name + " ")) {
                    all.add(said.substring(name.length() + 1) + "\n");
                }
            }
            all.add("    public " + (name.equals("doze") ? "long " : "int ") + name + "(");
        }
        return all;
    }

    private static void due(boolean so, String what) {
        if (!so) {
            wrong++;
            System.out.println("not as due: " + what);
        }
    }

    public static void main(String[] args) throws IOException {
        theClass();
        theMethods();
        theConstants();
        theSource();
        System.out.println(wrong == 0 ? "the face is as due" : wrong + " things are not as due");
        if (wrong != 0) {
            System.exit(1);
        }
    }

    private static void theClass() {
        int modifiers = ChairRanks.class.getModifiers();
        due(Modifier.isPublic(modifiers) && Modifier.isFinal(modifiers), "the class is public and final");
        Constructor<?>[] made = ChairRanks.class.getDeclaredConstructors();
        due(made.length == 1 && Modifier.isPublic(made[0].getModifiers()) && made[0].getParameterCount() == 0,
            "one public constructor");
        for (Class<?> inside : ChairRanks.class.getDeclaredClasses()) {
            due(Modifier.isStatic(inside.getModifiers()) && !Modifier.isPublic(inside.getModifiers()),
                inside + " is static and not public");
            due(inside.getDeclaredFields().length <= 20, inside + " has few fields");
        }
        due(ChairRanks.class.getDeclaredClasses().length < 12, "few classes inside");
    }

    private static void theMethods() {
        Set<String> open = new TreeSet<>();
        for (Method m : ChairRanks.class.getDeclaredMethods()) {
            due(m.getParameterCount() <= 7, m + " has seven parameters at most");
            if (Modifier.isPrivate(m.getModifiers()) || m.isSynthetic()) {
                continue;
            }
            due(m.getReturnType() == (m.getName().equals("doze") ? long.class : int.class), m + " answers a number");
            due(Modifier.isPublic(m.getModifiers()) && !Modifier.isStatic(m.getModifiers()), m + " is public");
            StringBuilder told = new StringBuilder(m.getName()).append(' ');
            for (Class<?> type : m.getParameterTypes()) {
                told.append(told.charAt(told.length() - 1) == ' ' ? "" : ",").append(type.getName());
            }
            open.add(told.toString());
        }
        due(open.equals(new TreeSet<>(Arrays.asList(FACE))), "the methods are " + open);
        Set<String> names = new TreeSet<>();
        for (String told : FACE) {
            names.add(told.substring(0, told.indexOf(' ')));
        }
        noOtherOfTheSameName(ChairRanks.class, names);
        for (Class<?> inside : ChairRanks.class.getDeclaredClasses()) {
            noOtherOfTheSameName(inside, names);
        }
    }

    private static void noOtherOfTheSameName(Class<?> of, Set<String> names) {
        for (Method m : of.getDeclaredMethods()) {
            boolean inTheFace = of == ChairRanks.class && Modifier.isPublic(m.getModifiers());
            due(inTheFace || !names.contains(m.getName()), m + " bears no name of the face");
        }
    }

    private static void theConstants() {
        Set<String> open = new TreeSet<>();
        int held = 0;
        for (Field f : ChairRanks.class.getDeclaredFields()) {
            if (!Modifier.isPrivate(f.getModifiers())) {
                due(Modifier.isPublic(f.getModifiers()), f + " is public");
                open.add(f.getName());
            }
            if (Modifier.isStatic(f.getModifiers())) {
                due(Modifier.isFinal(f.getModifiers()), f + " is final");
            } else {
                held++;
            }
        }
        due(open.equals(new TreeSet<>(Arrays.asList("NONE", "BAD", "STATE", "FULL"))), "the constants are " + open);
        due(held <= 20, "some twenty fields at most");
        due(ChairRanks.NONE == -1000000 && ChairRanks.BAD == -1000001, "NONE and BAD");
        due(ChairRanks.STATE == -1000002 && ChairRanks.FULL == -1000003, "STATE and FULL");
    }

    private static void theSource() throws IOException {
        String text = Files.readString(Path.of("src/main/java/ChairRanks.java"), StandardCharsets.UTF_8);
        for (int k = 0; k < text.length(); k++) {
            due(text.charAt(k) < 128, "the source has plain signs alone, not " + text.charAt(k));
        }
        // What the interface says ahead of the calls, and the calls in the document's order.
        int at = 0;
        for (String told : IN_ORDER) {
            int found = text.indexOf(told, at);
            due(found >= 0, told + " stands in its place");
            at = Math.max(at, found);
        }
    }
}
