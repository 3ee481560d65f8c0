import java.lang.reflect.Constructor;
import java.lang.reflect.Field;
import java.lang.reflect.Method;
import java.lang.reflect.Modifier;
import java.nio.file.Files;
import java.nio.file.Path;
import java.util.Arrays;
import java.util.List;
import java.util.TreeSet;
import java.util.regex.Matcher;
import java.util.regex.Pattern;

/** The face of the document, and those rules of LANGUAGE.md that can be seen from the file. */
public final class FaceTest {
    private static final Check CHECK = new Check("FaceTest");
    private static final String[] FACE = {
        "feed(int,int,int,int,int)", "end(int)", "pattern()", "hand()", "way(int)", "watcher()", "losses()",
        "fault(int)", "knit(int,int)", "put(int,int)", "read(int,int)", "letter(int)", "bit(int,int,int)",
        "dim(int,int)", "says(int)", "at(int,int,int)", "sort(int,int)", "place(int,int)", "room(int)", "most(int)",
        "counts(int,int)", "stops(int)", "odds(int,int)", "carries(int,int,int)", "best(int)", "lose(int)",
        "alike(int,int)", "same(int,int,int)", "ball(int,int)", "rewind(int,int)", "copy(int,int)",
        "turn(int,int,int)", "mend(int)", "count(int)", "keep(int)", "back(int)", "row(int,int,int)",
        "write(int,int,long)", "paste(int,int,int,int,int)", "lay(int,int)"};
    private static final int MOST_LINES_A_METHOD = 60;
    private static final int MOST_ELEMENTS = 10_000;

    public static void main(String[] args) throws Exception {
        face();
        classesInside();
        source(Files.readString(Path.of("src/main/java/StitchSays.java")));
        CHECK.due("fields and elements of a new object stay few", sizeOf(new StitchSays()) <= MOST_ELEMENTS ? 1 : 0, 1);
        StitchSays kept = new StitchSays();
        for (int k = 0; k < 3; k++) {
            kept.keep(k);
        }
        CHECK.due("with three IMAGES, too", sizeOf(kept) <= 2 * MOST_ELEMENTS ? 1 : 0, 1);
        CHECK.finish();
    }

    private static String signature(Method method) {
        StringBuilder text = new StringBuilder(method.getName()).append('(');
        for (Class<?> type : method.getParameterTypes()) {
            text.append(text.charAt(text.length() - 1) == '(' ? "" : ",").append(type.getName());
        }
        return text.append(')').toString();
    }

    private static void face() throws Exception {
        TreeSet<String> got = new TreeSet<>();
        TreeSet<String> names = new TreeSet<>();
        for (Method method : StitchSays.class.getDeclaredMethods()) {
            if (!Modifier.isPrivate(method.getModifiers())) {
                got.add((method.getReturnType() == int.class ? "" : "not int ") + signature(method));
                names.add(method.getName());
            }
        }
        CHECK.dueText("the methods", got.toString(), new TreeSet<>(Arrays.asList(FACE)).toString());
        for (Class<?> type : allClasses()) {
            for (Method method : type.getDeclaredMethods()) {
                boolean twice = Modifier.isPrivate(method.getModifiers()) && names.contains(method.getName());
                CHECK.dueText("a private method by the name of a public one", twice ? method.getName() : "", "");
            }
        }
        CHECK.due("constructors", StitchSays.class.getDeclaredConstructors().length, 1);
        for (Constructor<?> constructor : StitchSays.class.getDeclaredConstructors()) {
            CHECK.due("parameters of the constructor", constructor.getParameterCount(), 0);
            CHECK.due("it is public", constructor.getModifiers(), Modifier.PUBLIC);
        }
        for (Field field : StitchSays.class.getDeclaredFields()) {
            boolean open = !Modifier.isPrivate(field.getModifiers());
            CHECK.dueText("a field that is not private", open ? field.getName() : "NONE", "NONE");
        }
        CHECK.due("NONE", StitchSays.NONE, -1);
        CHECK.due("the class is", StitchSays.class.getModifiers(), Modifier.PUBLIC | Modifier.FINAL);
    }

    private static List<Class<?>> allClasses() {
        List<Class<?>> all = new java.util.ArrayList<>(List.of(StitchSays.class.getDeclaredClasses()));
        all.add(StitchSays.class);
        return all;
    }

    private static void classesInside() {
        CHECK.due("classes are few", allClasses().size() <= 13 ? 1 : 0, 1);
        for (Class<?> type : allClasses()) {
            CHECK.due(type.getName() + " is static", type == StitchSays.class || Modifier.isStatic(type.getModifiers()) ? 1 : 0, 1);
            int fields = 0;
            for (Field field : type.getDeclaredFields()) {
                fields += Modifier.isStatic(field.getModifiers()) ? 0 : 1;
                boolean state = Modifier.isStatic(field.getModifiers()) && !Modifier.isFinal(field.getModifiers());
                CHECK.dueText("static state", state ? field.getName() : "", "");
            }
            CHECK.due("fields of " + type.getName() + " are few", fields <= 20 ? 1 : 0, 1);
            for (Method method : type.getDeclaredMethods()) {
                CHECK.due("parameters of " + method.getName() + " are few", method.getParameterCount() <= 7 ? 1 : 0, 1);
            }
        }
    }

    private static void source(String source) {
        for (char sign : source.toCharArray()) {
            if (sign > 127 || sign < 32 && sign != '\n') {
                CHECK.due("a sign of the file", sign, 32);
            }
        }
        String code = source.replaceAll("(?s)/\\*.*?\\*/", " ").replaceAll("//[^\n]*", " ").replaceAll("\"[^\"\n]*\"", "\"\"");
        Matcher forbidden = Pattern.compile("\\b(throws?|try|catch|finally|synchronized|assert|volatile|native|package|"
            + "Object|System\\.(?!arraycopy)\\w+|Thread|Exception|hashCode|var|yield|double|float|\\w+Exact)\\b|->|::|@|\\.\\.\\.").matcher(code);
        while (forbidden.find()) {
            CHECK.dueText("what the language rules out", forbidden.group(), "");
        }
        Matcher imports = Pattern.compile("import ([\\w.*]+);").matcher(code);
        while (imports.find()) {
            CHECK.due("import " + imports.group(1), imports.group(1).matches("java\\.util\\.(Arrays|ArrayList|List)") ? 1 : 0, 1);
        }
        Matcher joined = Pattern.compile("\"\" *\\+|\\+ *\"\"").matcher(code);
        CHECK.due("texts joined by +", joined.find() ? 1 : 0, 0);
        methodLengths(code);
    }

    private static void methodLengths(String code) {
        String[] lines = code.split("\n");
        int depthOfMethod = 0;
        int from = -1;
        for (int i = 0; i < lines.length; i++) {
            int depth = 0;
            while (depth < lines[i].length() && lines[i].charAt(depth) == ' ') {
                depth++;
            }
            if (lines[i].matches("(    |        )[\\w\\[\\] ]+\\([\\w\\[\\], ]*\\) \\{")) {
                from = i;
                depthOfMethod = depth;
            } else if (from >= 0 && depth == depthOfMethod && lines[i].trim().equals("}")) {
                CHECK.due("lines of" + lines[from] + " are few", i - from + 1 <= MOST_LINES_A_METHOD ? 1 : 0, 1);
                from = -1;
            }
        }
    }

    /** Fields and elements of an object and all that it holds. */
    private static int sizeOf(Object object) throws IllegalAccessException {
        int size = 0;
        for (Field field : object.getClass().getDeclaredFields()) {
            if (Modifier.isStatic(field.getModifiers())) {
                continue;
            }
            size++;
            field.setAccessible(true);
            Object held = field.getType().isPrimitive() ? null : field.get(object);
            if (held != null && held.getClass().isArray()) {
                size += java.lang.reflect.Array.getLength(held);
                if (held instanceof Object[] several) {
                    for (Object one : several) {
                        size += one == null ? 0 : sizeOf(one);
                    }
                }
            } else if (held != null) {
                size += sizeOf(held);
            }
        }
        return size;
    }
}
