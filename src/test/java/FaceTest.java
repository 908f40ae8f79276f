import java.io.IOException;
import java.lang.reflect.Constructor;
import java.lang.reflect.Field;
import java.lang.reflect.Method;
import java.lang.reflect.Modifier;
import java.nio.file.Files;
import java.nio.file.Path;
import java.util.ArrayList;
import java.util.Arrays;
import java.util.Collections;
import java.util.HashSet;
import java.util.List;
import java.util.Set;

/** The public face, and the rules of LANGUAGE.md that can be seen from the class or its source. */
public final class FaceTest {
    private static final Expect expect = new Expect();

    private static final String[] FACE = {
        "boolean ask(int,int)", "boolean condition(int,int,int,int)", "boolean delete(int,long)", "boolean insert(int,long)",
        "boolean isNull(int,long,int)", "boolean join(int,int)", "boolean output(int,int)", "boolean set(int,boolean,long)",
        "boolean wasNull(int,int)", "int add(int,int,int,int)", "int code(int,int)", "int compile()", "int count(int)", "int run(int)",
        "int table(int)", "long next(int,long,boolean)", "long result(int,int)", "long value(int,long,int)", "void wipe()"
    };

    public static void main(String[] args) throws IOException {
        face();
        classesInside();
        source(Files.readAllLines(Path.of(args.length == 0 ? "src/main/java/TableMachine.java" : args[0])));
        expect.end();
    }

    private static String text(Method m) {
        List<String> types = new ArrayList<>();
        for (Class<?> type : m.getParameterTypes()) {
            types.add(type.getName());
        }
        return m.getReturnType().getName() + " " + m.getName() + "(" + String.join(",", types) + ")";
    }

    private static void face() {
        Class<?> c = TableMachine.class;
        expect.yes(Modifier.isPublic(c.getModifiers()) && Modifier.isFinal(c.getModifiers()), "rule 1: public and final");
        List<String> found = new ArrayList<>();
        for (Method m : c.getDeclaredMethods()) {
            if (!Modifier.isPrivate(m.getModifiers())) {
                found.add(text(m));
                expect.yes(Modifier.isPublic(m.getModifiers()) && !Modifier.isStatic(m.getModifiers()), "rule 1: " + m);
            }
        }
        Collections.sort(found);
        expect.answers(Arrays.asList(FACE), found, "rule 1: the methods of the face");
        Constructor<?>[] made = c.getDeclaredConstructors();
        expect.yes(made.length == 1 && made[0].getParameterCount() == 0 && Modifier.isPublic(made[0].getModifiers()), "rule 1: one constructor");
        for (Field f : c.getDeclaredFields()) {
            expect.yes(Modifier.isPrivate(f.getModifiers()) || f.getName().equals("NONE"), "rule 1: " + f);
        }
    }

    private static void classesInside() {
        Set<String> names = new HashSet<>();
        for (String text : FACE) {
            names.add(text.substring(text.indexOf(' ') + 1, text.indexOf('(')));
        }
        List<Class<?>> all = new ArrayList<>(List.of(TableMachine.class.getDeclaredClasses()));
        expect.yes(all.size() <= 12, "rule 11: classes");
        all.add(TableMachine.class);
        for (Class<?> c : all) {
            expect.yes(c == TableMachine.class || Modifier.isStatic(c.getModifiers()), "rule 1: static " + c);
            int fields = 0;
            for (Field f : c.getDeclaredFields()) {
                boolean fixed = Modifier.isStatic(f.getModifiers());
                expect.yes(!fixed || Modifier.isFinal(f.getModifiers()), "rule 5: " + f);
                fields += fixed ? 0 : 1;
            }
            expect.yes(fields <= 20, "rule 11: fields of " + c);
            for (Method m : c.getDeclaredMethods()) {
                expect.no(c != TableMachine.class && names.contains(m.getName()), "rule 1: the name of " + m);
                expect.yes(Modifier.isPublic(m.getModifiers()) || !names.contains(m.getName()), "rule 1: the name of " + m);
                expect.yes(m.getParameterCount() <= 7, "rule 11: parameters of " + m);
            }
        }
    }

    private static void source(List<String> lines) {
        int start = -1;
        for (int i = 0; i < lines.size(); i++) {
            String line = lines.get(i);
            String what = (i + 1) + ": " + line.trim();
            expect.yes(!line.startsWith("import ") || line.equals("import java.util.NoSuchElementException;"), "rule 4: " + what);
            for (String word : List.of("->", "::", "finally", "synchronized", "assert ", "@", "try ")) {
                expect.no(line.contains(word), "rules 2 and 6: " + what);
            }
            expect.yes(line.chars().allMatch(ch -> ch < 256), "rule 3: " + what);
            boolean opens = line.matches(" {4}( {4})?[a-z].*\\).*\\{") && !line.contains(" new ");
            if (opens) {
                start = i;
            }
            if (line.matches(" {4}( {4})?\\}") && start >= 0) {
                expect.yes(i - start < 60, "rule 11: the method that ends in line " + (i + 1));
                start = -1;
            }
        }
    }
}
