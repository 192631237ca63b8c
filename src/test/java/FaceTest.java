import java.io.IOException;
import java.lang.reflect.Constructor;
import java.lang.reflect.Field;
import java.lang.reflect.InvocationTargetException;
import java.lang.reflect.Method;
import java.lang.reflect.Modifier;
import java.nio.file.Files;
import java.nio.file.Path;
import java.util.ArrayList;
import java.util.Arrays;
import java.util.Collections;
import java.util.List;

/** The public face, the rules of LANGUAGE.md that a test can see, and that no call throws. */
public final class FaceTest {
    private static final String[] FACE = {
        "int feed 5", "boolean end 1", "boolean today 1", "int lot 5", "boolean pollen 4",
        "int test 2", "int of 2", "int span 3", "boolean tank 3", "int pour 3", "int move 3",
        "int warm 2", "int jar 2", "int spill 2", "int holds 3", "int part 3", "int measure 3",
        "int rule 0", "int fault 1", "boolean shut 2", "int says 3", "int name 3",
        "boolean step 3", "long paid 1", "int blend 5", "int parts 1", "int trace 1",
        "int found 1", "long whose 2", "int count 1"};
    private static final int[] EDGES = {Integer.MIN_VALUE, -1, 0, 1, 1000, Integer.MAX_VALUE};

    public static void main(String[] args) throws IOException, ReflectiveOperationException {
        face();
        classes();
        words();
        noCallThrows();
        Check.finish();
    }

    private static void face() {
        List<String> due = new ArrayList<>(Arrays.asList(FACE));
        List<String> got = new ArrayList<>();
        for (Method method : HoneyHouse.class.getDeclaredMethods()) {
            if (!Modifier.isPrivate(method.getModifiers())) {
                got.add(method.getReturnType() + " " + method.getName() + " "
                    + method.getParameterCount());
                for (Class<?> type : method.getParameterTypes()) {
                    Check.due(method.getName() + " takes ints", true, type == int.class);
                }
                Check.due(method.getName() + " is public, not static", Modifier.PUBLIC,
                    method.getModifiers());
            }
        }
        Collections.sort(due);
        Collections.sort(got);
        Check.due("methods " + got, true, due.equals(got));
        Check.due("class is public and final", Modifier.PUBLIC | Modifier.FINAL,
            HoneyHouse.class.getModifiers());
        Constructor<?>[] made = HoneyHouse.class.getDeclaredConstructors();
        Check.due("one constructor", 1, made.length);
        Check.due("it is public", Modifier.PUBLIC, made[0].getModifiers());
        for (Field field : HoneyHouse.class.getDeclaredFields()) {
            boolean isPrivate = Modifier.isPrivate(field.getModifiers());
            Check.due(field.getName(), true, isPrivate || field.getName().equals("NONE"));
        }
        Check.due("NONE", -1, HoneyHouse.NONE);
    }

    private static void classes() {
        Class<?>[] inside = HoneyHouse.class.getDeclaredClasses();
        Check.due("classes", true, inside.length < 12);
        plain(HoneyHouse.class);
        for (Class<?> one : inside) {
            Check.due(one + " is static", true, Modifier.isStatic(one.getModifiers()));
            plain(one);
            for (Method method : one.getDeclaredMethods()) {
                for (String call : FACE) {
                    Check.due(one + " has " + call, false, call.split(" ")[1].equals(method.getName()));
                }
            }
        }
    }

    private static void plain(Class<?> one) {
        int fields = 0;
        for (Field field : one.getDeclaredFields()) {
            boolean isStatic = Modifier.isStatic(field.getModifiers());
            Check.due(field + " is final if static", true,
                !isStatic || Modifier.isFinal(field.getModifiers()));
            fields += isStatic ? 0 : 1;
        }
        Check.due(one + " has some twenty fields", true, fields <= 20);
        for (Method method : one.getDeclaredMethods()) {
            Check.due(method + " has seven parameters at most", true,
                method.getParameterCount() <= 7);
        }
    }

    private static void words() throws IOException {
        String source = Files.readString(Path.of("src/main/java/HoneyHouse.java"));
        String code = source.replaceAll("(?s)/\\*.*?\\*/", " ").replaceAll("//[^\n]*", " ")
            .replaceAll("\"[^\"\n]*\"", "\"\"");
        String[] none = {"throw", "throws", "try", "catch", "finally", "synchronized", "assert",
            "package", "native", "volatile", "transient", "var", "protected"};
        for (String word : none) {
            Check.due("the word " + word, false, code.matches("(?s).*\\b" + word + "\\b.*"));
        }
        Check.due("lambda or arrow", false, code.contains("->"));
        Check.due("method reference", false, code.contains("::"));
        Check.due("Exact", false, code.contains("Exact("));
        for (String line : code.split("\n")) {
            Check.due(line, true, !line.startsWith("import ") || line.equals("import java.util.Arrays;"));
        }
    }

    private static HoneyHouse filled() {
        HoneyHouse x = new HoneyHouse();
        x.lot(0, 5000, 150, 10, 0);
        x.lot(1, 5000, 160, 20, 1);
        for (int tank = 0; tank < 3; tank++) {
            x.tank(tank, 100000, tank);
            x.pour(0, tank, 1500);
            x.pour(1, tank, 1501);
        }
        x.jar(0, 10);
        Check.tell(x, "a:not(heat max 1 or pollen 0 min 3)and land 1 min 2 from 0;");
        x.blend(7, 5, 300, 0, 140);
        x.trace(0);
        return x;
    }

    private static void noCallThrows() throws ReflectiveOperationException {
        for (Method method : HoneyHouse.class.getDeclaredMethods()) {
            if (!Modifier.isPublic(method.getModifiers())) {
                continue;
            }
            int params = method.getParameterCount();
            int ways = (int) Math.pow(EDGES.length, params);
            for (int way = 0; way < ways; way++) {
                Object[] args = new Object[params];
                int rest = way;
                for (int k = 0; k < params; k++) {
                    args[k] = EDGES[rest % EDGES.length];
                    rest /= EDGES.length;
                }
                ends(new HoneyHouse(), method, args);
                ends(filled(), method, args);
            }
        }
    }

    private static void ends(HoneyHouse x, Method method, Object[] args)
        throws ReflectiveOperationException {
        boolean threw = false;
        try {
            method.invoke(x, args);
        } catch (InvocationTargetException e) {
            threw = true;
        }
        Check.due(method.getName() + Arrays.toString(args) + " threw", false, threw);
    }
}
