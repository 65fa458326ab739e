import java.lang.management.ManagementFactory;
import java.lang.reflect.Constructor;
import java.lang.reflect.Field;
import java.lang.reflect.Method;
import java.lang.reflect.Modifier;
import java.nio.file.Files;
import java.nio.file.Path;
import java.util.ArrayList;
import java.util.Arrays;
import java.util.List;
import java.util.Set;
import java.util.TreeSet;

/** Checks the face against the document, some rules of LANGUAGE.md, and how much room a run of dear calls takes. */
public final class EpsilonhallForm {
    private static int wrong = 0;

    public static void main(String[] args) throws Exception {
        checkFace();
        checkPrivateNames();
        checkSource();
        checkRoom();
        System.out.println(wrong == 0 ? "the form is as due" : wrong + " faults of form");
        if (wrong != 0) {
            System.exit(1);
        }
    }

    private static void fault(String text) {
        wrong++;
        System.out.println(text);
    }

    private static void checkFace() throws Exception {
        Set<String> due = new TreeSet<>();
        List<String> lines = Files.readAllLines(Path.of("../shared/DOC.md"));
        for (String line : lines) {
            String text = line.trim();
            if (line.startsWith("    public ") && text.endsWith(";")) {
                String plain = text.substring(0, text.length() - 1).replaceAll("\\s+", " ");
                due.add(plain.replace("public Epsilonhall", "Epsilonhall").replace("public ", ""));
            }
        }
        Set<String> got = new TreeSet<>();
        for (Constructor<?> one : Epsilonhall.class.getDeclaredConstructors()) {
            got.add("Epsilonhall" + (one.getParameterCount() == 0 ? "()" : "(..)"));
        }
        // The names of the parameters are not kept, so that those of the document are left out as well.
        Set<String> dueKinds = new TreeSet<>();
        for (String one : due) {
            dueKinds.add(one.replaceAll("(int|long) \\w+(?=[,)])", "$1"));
        }
        for (Method method : Epsilonhall.class.getDeclaredMethods()) {
            if (!Modifier.isPrivate(method.getModifiers()) && !method.isSynthetic()) {
                got.add(told(method));
                if (!Modifier.isPublic(method.getModifiers())) {
                    fault("not private and not public: " + method);
                }
            }
        }
        if (!dueKinds.equals(got)) {
            Set<String> missing = new TreeSet<>(dueKinds);
            missing.removeAll(got);
            got.removeAll(dueKinds);
            fault("the face lacks " + missing + " and has " + got);
        }
        for (Field field : Epsilonhall.class.getDeclaredFields()) {
            if (!Modifier.isPrivate(field.getModifiers())) {
                fault("a field that is not private: " + field);
            }
        }
        if (!Modifier.isFinal(Epsilonhall.class.getModifiers())) {
            fault("the class is not final");
        }
    }

    private static String told(Method method) {
        List<String> kinds = new ArrayList<>();
        for (Class<?> kind : method.getParameterTypes()) {
            kinds.add(kind.getSimpleName());
        }
        List<String> thrown = new ArrayList<>();
        for (Class<?> kind : method.getExceptionTypes()) {
            thrown.add(kind.getSimpleName());
        }
        return method.getReturnType().getSimpleName() + " " + method.getName() + "(" + String.join(", ", kinds) + ")"
            + (thrown.isEmpty() ? "" : " throws " + String.join(", ", thrown));
    }

    private static void checkPrivateNames() {
        Set<String> names = new TreeSet<>();
        for (Method method : Epsilonhall.class.getMethods()) {
            names.add(method.getName());
        }
        List<Class<?>> classes = new ArrayList<>(Arrays.asList(Epsilonhall.class.getDeclaredClasses()));
        if (classes.size() > 11) {
            fault("more than twelve classes");
        }
        classes.add(Epsilonhall.class);
        for (Class<?> type : classes) {
            for (Method method : type.getDeclaredMethods()) {
                boolean isFace = type == Epsilonhall.class && Modifier.isPublic(method.getModifiers());
                if (!isFace && !method.isSynthetic() && names.contains(method.getName())) {
                    fault("it bears the name of a public method: " + method);
                }
                if (method.getParameterCount() > 7) {
                    fault("more than seven parameters: " + method);
                }
            }
            int fields = 0;
            for (Field field : type.getDeclaredFields()) {
                fields += Modifier.isStatic(field.getModifiers()) ? 0 : 1;
            }
            if (fields > 20) {
                fault("more than twenty fields: " + type);
            }
        }
    }

    private static void checkSource() throws Exception {
        List<String> lines = Files.readAllLines(Path.of("src/main/java/Epsilonhall.java"));
        String[] ruledOut = {"->", "::", "try {", "catch", "finally", "synchronized", "assert ", "Exact", "Math.",
            "System.", "Long.", "Integer.", "record ", "import java.util.*", "\t"};
        int start = -1;
        for (int k = 0; k < lines.size(); k++) {
            String line = lines.get(k);
            String code = line.replaceAll("//.*|^\\s*/?\\*.*", "").replaceAll("\"[^\"]*\"", "\"\"");
            for (String word : ruledOut) {
                if (code.contains(word)) {
                    fault("line " + (k + 1) + " has " + word);
                }
            }
            if (code.matches(".*\"\"\\s*\\+.*|.*\\+\\s*\"\".*")) {
                fault("line " + (k + 1) + " joins texts by +");
            }
            if (code.startsWith("import") && !code.equals("import java.util.NoSuchElementException;")) {
                fault("line " + (k + 1) + " imports something else");
            }
            for (int j = 0; j < line.length(); j++) {
                if (line.charAt(j) < 32 || line.charAt(j) > 126) {
                    fault("line " + (k + 1) + " has an odd sign");
                }
            }
            if (code.matches("(    |        )[\\w<>\\[\\] ]+\\([^;]*") && !code.contains(" class ")) {
                start = k;
            }
            if (code.matches("(    |        )\\}") && start >= 0) {
                if (k - start > 60) {
                    fault("a method of more than sixty lines ends at line " + (k + 1));
                }
                start = -1;
            }
        }
    }

    /** A run of the dearest calls may take some 7.3 million fields and elements; this asks for far less. */
    private static void checkRoom() {
        com.sun.management.ThreadMXBean bean = (com.sun.management.ThreadMXBean) ManagementFactory.getThreadMXBean();
        long id = Thread.currentThread().getId();
        playDearly();
        long before = bean.getThreadAllocatedBytes(id);
        playDearly();
        long taken = bean.getThreadAllocatedBytes(id) - before;
        if (taken > 500000) {
            fault("a run took " + taken + " bytes");
        }
    }

    private static void playDearly() {
        Epsilonhall x = new Epsilonhall();
        x.number(1);
        for (int k = 0; k < 5; k++) {
            x.term(k, 1);
        }
        x.number(3);
        x.term(6, 2);
        for (int k = 0; k < 12; k++) {
            x.put(1);
        }
        x.worm();
        for (int k = 0; k < 10; k++) {
            x.put(k / 2);
        }
        x.hydra();
        x.bases(6);
        for (int k = 0; k < 11; k++) {
            x.put(k / 3);
        }
        x.hydra();
        for (int k = 0; k < 40; k++) {
            x.stepsDown(1, 20);
            x.slow(7, 10);
            x.fast(6, 2);
            x.hardy(1, 90);
            x.play(k % 3, 5);
            x.length(5);
            x.signAt(5, 0);
            x.isSound();
            x.run(1000);
            x.embeds(3, 3);
        }
        while (x.ordinals() < 60) {
            x.ordinalOf(2);
        }
    }
}
