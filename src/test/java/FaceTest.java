import java.lang.reflect.Constructor;
import java.lang.reflect.Field;
import java.lang.reflect.Method;
import java.lang.reflect.Modifier;
import java.nio.file.Files;
import java.nio.file.Path;
import java.util.Arrays;
import java.util.HashSet;
import java.util.Set;
import java.util.TreeSet;

/** The face is the document's and no more, and the file keeps to those rules of the language that can be looked up. */
public final class FaceTest {
    private static final String[] FACE = {
        "about(int,int)int", "all(int)int", "compile(int,int)int", "end(int)int", "fault(int)int",
        "feed(int,int,int,int,int)void", "found(int,int)int", "group(int,int)int", "keep(int)void",
        "match(int,int,int,int)int", "name(int,int,int)int", "output(int)int", "over()int", "piece(int,int)int",
        "quote()int", "replace(int)int", "split(int)int", "subject()int", "which(int,boolean)int"};

    private static final Set<String> REFUSING = Set.of("compile", "match", "all", "replace", "split", "keep");

    public static void main(String[] args) throws Exception {
        face();
        classesInside();
        text();
        Works.finish("FaceTest");
    }

    private static void face() {
        Class<?> it = PatternWorks.class;
        Works.same("public and final", it.getModifiers() & (Modifier.PUBLIC | Modifier.FINAL), Modifier.PUBLIC | Modifier.FINAL);
        Set<String> methods = new TreeSet<>();
        for (Method method : it.getDeclaredMethods()) {
            if (!Modifier.isPrivate(method.getModifiers())) {
                StringBuilder all = new StringBuilder(method.getName()).append("(");
                for (Class<?> parameter : method.getParameterTypes()) {
                    all.append(all.charAt(all.length() - 1) == '(' ? "" : ",").append(parameter);
                }
                methods.add(all.append(")").append(method.getReturnType()).toString());
                String due = REFUSING.contains(method.getName()) ? "[class java.lang.IllegalArgumentException]" : "[]";
                Works.same(method.getName() + " throws", Arrays.toString(method.getExceptionTypes()), due);
                Works.same(method.getName() + " is public", method.getModifiers(), Modifier.PUBLIC);
            } else {
                Works.same(method + " bears no name of the face", namesOfTheFace().contains(method.getName()) ? 1 : 0, 0);
            }
        }
        Works.same("the methods", methods.toString(), Arrays.asList(FACE).toString());
        for (Field field : it.getDeclaredFields()) {
            boolean told = field.getName().equals("NONE");
            Works.same(field.getName(), Modifier.isPrivate(field.getModifiers()) ? 0 : 1, told ? 1 : 0);
            boolean fixed = !Modifier.isStatic(field.getModifiers()) || Modifier.isFinal(field.getModifiers());
            Works.same(field.getName() + " is final if it is static", fixed ? 1 : 0, 1);
        }
        Works.same("constructors", it.getDeclaredConstructors().length, 1);
        for (Constructor<?> made : it.getDeclaredConstructors()) {
            Works.same("the constructor", made.getParameterCount() + made.getModifiers(), Modifier.PUBLIC);
        }
    }

    private static Set<String> namesOfTheFace() {
        Set<String> names = new HashSet<>();
        for (String method : FACE) {
            names.add(method.substring(0, method.indexOf('(')));
        }
        return names;
    }

    private static void classesInside() {
        Set<String> face = namesOfTheFace();
        Works.same("at most some twelve classes", PatternWorks.class.getDeclaredClasses().length <= 14 ? 1 : 0, 1);
        for (Class<?> inside : PatternWorks.class.getDeclaredClasses()) {
            Works.same(inside + " is static", Modifier.isStatic(inside.getModifiers()) ? 1 : 0, 1);
            int fields = 0;
            for (Field field : inside.getDeclaredFields()) {
                fields += Modifier.isStatic(field.getModifiers()) ? 0 : 1;
            }
            Works.same(inside + " has some twenty fields at most, not " + fields, fields <= 24 ? 1 : 0, 1);
            for (Method method : inside.getDeclaredMethods()) {
                Works.same(method + " bears no name of the face", face.contains(method.getName()) ? 1 : 0, 0);
                Works.same(method + " takes seven at most", method.getParameterCount() <= 7 ? 1 : 0, 1);
            }
        }
    }

    private static void text() throws Exception {
        int length = 0;
        Set<String> imports = Set.of("Arrays", "ArrayList", "List", "Iterator", "NoSuchElementException");
        String[] never = {"::", "finally", "synchronized", "assert ", "while (true)", "for (;;)", "Exact(", "hashCode", "getMessage",
            "Random", "nanoTime", "currentTimeMillis", "System.out", "Thread.", "+ \"", "static {"};
        for (String line : Files.readAllLines(Path.of("src/main/java/PatternWorks.java"))) {
            String code = line.contains("//") ? line.substring(0, line.indexOf("//")) : line;
            code = code.trim().startsWith("*") || code.trim().startsWith("/**") ? "" : code;
            if (code.startsWith("import")) {
                String name = code.substring(code.lastIndexOf('.') + 1, code.indexOf(';'));
                Works.same(code + " is of what the rules list", code.startsWith("import java.util.") && imports.contains(name) ? 1 : 0, 1);
            }
            boolean label = code.trim().startsWith("case ") || code.trim().startsWith("default ");
            Works.same(line + " has no lambda", code.contains("->") && !label ? 1 : 0, 0);
            for (String word : never) {
                Works.same(line + " has no " + word, code.contains(word) ? 1 : 0, 0);
            }
            boolean opens = code.matches(" {4,8}[a-zA-Z].*\\) (throws \\w+ )?\\{");
            length = opens ? 0 : length + 1;
            boolean closes = code.equals("    }") || code.equals("        }");
            Works.same("a method of more than some sixty lines ends with " + line, closes && length > 70 && length < 120 ? 1 : 0, 0);
        }
    }
}
