import java.io.IOException;
import java.lang.reflect.Constructor;
import java.lang.reflect.Field;
import java.lang.reflect.Member;
import java.lang.reflect.Method;
import java.lang.reflect.Modifier;
import java.nio.file.Files;
import java.nio.file.Path;
import java.util.ArrayList;
import java.util.Arrays;
import java.util.List;
import java.util.Set;
import java.util.TreeSet;
import java.util.stream.Collectors;

/** "The public face" of the document and rule 1 of LANGUAGE.md: all that is told there is there, and no more. */
public final class PublicFace {
    private static final Path DOCUMENT = Path.of("../shared/DOC.md");

    private static final String FACE = """
        public final class IceTrade {
            public static final int NONE = -1;
            public IceTrade();
            public int room(int kind, int width, int rows, int layers, int in);
            public int rooms(int room, int what);
            public int lay(int room, int layer, int row);
            public int tear(int room, int layer, int row);
            public int cut(int room, int place, int kind, int grams);
            public int put(int room, int place, int what);
            public int clear(int room, int place);
            public int place(int room, int place);
            public int block(int block, int what);
            public int warm(int day, int bits);
            public int tenths(int day);
            public int terms(int part, int wet, int least);
            public int day();
            public int count(int what);
            public int next(int room);
            public int take(int room, int n);
            public int way(int kind, int days);
            public int home();
            public int comes(int room, int n);
            public int send(int room, int grams);
            public int sent(int what);
            public int list(int i);
            public int price(int kind, int cents);
            public int foretell(int days, int back);
            public int foretold(int room, int i);
            public int last();
            public int heap(int kind, int grams);
            public int pack(int room);
            public int image(int k);
            public int back(int k);
            public int line(int i, int what);
            public int alter(int i, int what, int mask);
            public int check();
            public int status();
        }
        """;

    private static int wrong = 0;

    private PublicFace() {
    }

    public static void main(String[] args) throws IllegalAccessException {
        lookUpTheFace();
        Set<String> due = new TreeSet<>(FACE.lines().map(PublicFace::withoutNames).toList());
        due.remove("}");
        Set<String> found = new TreeSet<>(faceOf(IceTrade.class));
        due.stream().filter(member -> !found.contains(member)).forEach(member -> complain("there is no " + member));
        found.stream().filter(member -> !due.contains(member)).forEach(member -> complain("not told: " + member));
        hasNothingElseInSight();
        keepsNamesApart();
        hasStaticClassesInside();
        System.out.println(wrong == 0 ? "the face is as due" : wrong + " members are not as due");
        if (wrong != 0) {
            System.exit(1);
        }
    }

    private static void complain(String what) {
        wrong++;
        System.out.println(what);
    }

    /** So that the face above is the document's, not one of our own. */
    private static void lookUpTheFace() {
        try {
            if (!Files.readString(DOCUMENT).contains("```java\n" + FACE + "```")) {
                complain("the face is not the one in " + DOCUMENT);
            }
        } catch (IOException e) {
            System.out.println("the face is not looked up: " + e);
        }
    }

    /** Reflection knows the parameters' types alone. */
    private static String withoutNames(String line) {
        return line.strip().replaceAll("int [a-z]+(?=[,)])", "int").replaceAll("( \\{|;)$", "");
    }

    private static List<String> faceOf(Class<?> type) throws IllegalAccessException {
        List<String> face = new ArrayList<>();
        face.add(Modifier.toString(type.getModifiers()) + " class " + type.getSimpleName());
        for (Field f : type.getDeclaredFields()) {
            if (Modifier.isPublic(f.getModifiers())) {
                face.add(Modifier.toString(f.getModifiers()) + " " + f.getType() + " " + f.getName() + " = " + f.get(null));
            }
        }
        for (Constructor<?> c : type.getDeclaredConstructors()) {
            if (Modifier.isPublic(c.getModifiers())) {
                face.add("public " + type.getSimpleName() + typesOf(c.getParameterTypes()));
            }
        }
        for (Method m : type.getDeclaredMethods()) {
            if (Modifier.isPublic(m.getModifiers())) {
                String throwing = m.getExceptionTypes().length == 0 ? "" : " throws";
                String head = Modifier.toString(m.getModifiers()) + " " + m.getReturnType() + " " + m.getName();
                face.add(head + typesOf(m.getParameterTypes()) + throwing);
            }
        }
        return face;
    }

    private static String typesOf(Class<?>[] parameters) {
        return Arrays.stream(parameters).map(Class::getSimpleName).collect(Collectors.joining(", ", "(", ")"));
    }

    private static void hasNothingElseInSight() {
        List<Member> all = new ArrayList<>(List.of(IceTrade.class.getDeclaredFields()));
        all.addAll(List.of(IceTrade.class.getDeclaredConstructors()));
        all.addAll(List.of(IceTrade.class.getDeclaredMethods()));
        for (Member m : all) {
            boolean seen = !Modifier.isPrivate(m.getModifiers()) && !Modifier.isPublic(m.getModifiers());
            if (seen && !m.isSynthetic()) {
                complain("neither public nor private: " + m);
            }
        }
    }

    private static void keepsNamesApart() {
        Set<String> open = new TreeSet<>();
        for (Method m : IceTrade.class.getDeclaredMethods()) {
            if (Modifier.isPublic(m.getModifiers()) && !open.add(m.getName())) {
                complain("twice: " + m);
            }
        }
        for (Class<?> type : allClasses()) {
            for (Method m : type.getDeclaredMethods()) {
                if (Modifier.isPrivate(m.getModifiers()) && open.contains(m.getName())) {
                    complain("bears the name of a public one: " + m);
                }
            }
        }
    }

    private static void hasStaticClassesInside() {
        for (Class<?> type : IceTrade.class.getDeclaredClasses()) {
            int m = type.getModifiers();
            if (!Modifier.isStatic(m) || Modifier.isPublic(m) || Modifier.isProtected(m)) {
                complain("not static, or too open: " + type);
            }
        }
    }

    private static List<Class<?>> allClasses() {
        List<Class<?>> all = new ArrayList<>(List.of(IceTrade.class.getDeclaredClasses()));
        all.add(IceTrade.class);
        return all;
    }
}
