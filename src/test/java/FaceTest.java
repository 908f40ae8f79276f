import java.io.IOException;
import java.lang.reflect.Constructor;
import java.lang.reflect.Field;
import java.lang.reflect.Method;
import java.lang.reflect.Modifier;
import java.nio.file.Files;
import java.nio.file.Path;
import java.util.ArrayList;
import java.util.HashSet;
import java.util.List;
import java.util.Map;
import java.util.Set;
import java.util.TreeMap;

/** The public face, and the rules of LANGUAGE.md that can be seen from the class or its source. */
public final class FaceTest {
    private static final Expect expect = new Expect();

    public static void main(String[] args) throws IOException {
        List<String> source = Files.readAllLines(Path.of(args.length == 0 ? "src/main/java/TableMachine.java" : args[0]));
        Path document = Path.of(args.length < 2 ? "../shared/DOC.md" : args[1]);
        if (Files.exists(document)) {
            expect.answers(Face.ofDocument(document), Face.MEMBERS, "the document's face, member by member");
        }
        face(source);
        methods();
        constant();
        made();
        classesInside();
        source(source);
        expect.end();
    }

    private static void face(List<String> source) {
        int modifiers = TableMachine.class.getModifiers();
        expect.yes(Modifier.isPublic(modifiers) && Modifier.isFinal(modifiers), "rule 1: public and final");
        expect.yes(source.contains(Face.CLASS), "the line: " + Face.CLASS);
        expect.answers(Object.class, TableMachine.class.getSuperclass(), "what it extends");
        expect.is(0, TableMachine.class.getInterfaces().length, "what it implements");
        expect.is(0, TableMachine.class.getClasses().length, "rule 1: public classes inside");
        expect.answers(Face.MEMBERS, Face.ofSource(source), "rule 1: what is public in the source");
    }

    private static void methods() {
        Map<String, Method> found = new TreeMap<>();
        for (Method m : TableMachine.class.getDeclaredMethods()) {
            if (!Modifier.isPrivate(m.getModifiers())) {
                expect.answers(Modifier.PUBLIC, m.getModifiers(), "rule 1: public and no more: " + m);
                expect.answers(null, found.put(m.getName(), m), "rule 1: another " + m);
            }
        }
        expect.is(19, Face.calls().size(), "methods of the face");
        for (Face.Call call : Face.calls()) {
            Method m = found.remove(call.name());
            expect.yes(m != null, "rule 1: there is " + call.signature());
            if (m != null) {
                expect.answers(call.result(), m.getReturnType().getSimpleName(), "the result of " + call.name());
                expect.answers(call.types(), names(m.getParameterTypes()), "the parameters of " + call.name());
                expect.answers(call.thrown(), names(m.getExceptionTypes()), "what is declared to be thrown by " + call.name());
            }
        }
        expect.answers(Set.of(), found.keySet(), "rule 1: methods beside the face");
    }

    private static List<String> names(Class<?>[] types) {
        List<String> names = new ArrayList<>();
        for (Class<?> type : types) {
            names.add(type.getSimpleName());
        }
        return names;
    }

    private static void constant() {
        for (Field f : TableMachine.class.getDeclaredFields()) {
            if (f.getName().equals("NONE")) {
                expect.answers(Modifier.PUBLIC | Modifier.STATIC | Modifier.FINAL, f.getModifiers(), "the constant NONE");
                expect.answers(int.class, f.getType(), "the type of NONE");
            } else {
                expect.yes(Modifier.isPrivate(f.getModifiers()), "rule 1: private " + f);
            }
        }
        expect.is(-1, TableMachine.NONE, "NONE");
    }

    private static void made() {
        Constructor<?>[] constructors = TableMachine.class.getDeclaredConstructors();
        expect.is(1, constructors.length, "rule 1: constructors");
        for (Constructor<?> c : constructors) {
            expect.answers(Modifier.PUBLIC, c.getModifiers(), "rule 1: public " + c);
            expect.is(0, c.getParameterCount(), "the parameters of " + c);
            expect.is(0, c.getExceptionTypes().length, "what is declared to be thrown by " + c);
        }
    }

    private static void classesInside() {
        Set<String> names = new HashSet<>();
        for (Face.Call call : Face.calls()) {
            names.add(call.name());
        }
        List<Class<?>> all = new ArrayList<>(List.of(TableMachine.class.getDeclaredClasses()));
        expect.yes(all.size() <= 12, "rule 11: classes");
        all.add(TableMachine.class);
        for (Class<?> c : all) {
            expect.yes(c == TableMachine.class || Modifier.isStatic(c.getModifiers()), "rule 1: static " + c);
            expect.no(Modifier.isProtected(c.getModifiers()), "rule 1: protected " + c);
            int fields = 0;
            for (Field f : c.getDeclaredFields()) {
                boolean fixed = Modifier.isStatic(f.getModifiers());
                expect.yes(!fixed || Modifier.isFinal(f.getModifiers()), "rule 5: " + f);
                fields += fixed ? 0 : 1;
            }
            expect.yes(fields <= 20, "rule 11: fields of " + c);
            for (Method m : c.getDeclaredMethods()) {
                expect.no(c != TableMachine.class && names.contains(m.getName()), "rule 1: the name of " + m);
                expect.yes(Modifier.isPublic(m.getModifiers()) || !names.contains(m.getName()), "rule 1: the name of " + m);
                expect.yes(m.getParameterCount() <= 7, "rule 11: parameters of " + m);
            }
        }
    }

    private static void source(List<String> lines) {
        int start = -1;
        for (int i = 0; i < lines.size(); i++) {
            String line = lines.get(i);
            String what = (i + 1) + ": " + line.trim();
            expect.yes(!line.startsWith("import ") || line.equals("import java.util.NoSuchElementException;"), "rule 4: " + what);
            for (String word : List.of("->", "::", "finally", "synchronized", "assert ", "@", "try ")) {
                expect.no(line.contains(word), "rules 2 and 6: " + what);
            }
            expect.yes(line.chars().allMatch(ch -> ch < 256), "rule 3: " + what);
            boolean opens = line.matches(" {4}( {4})?[a-z].*\\).*\\{") && !line.contains(" new ");
            if (opens) {
                start = i;
            }
            if (line.matches(" {4}( {4})?\\}") && start >= 0) {
                expect.yes(i - start < 60, "rule 11: the method that ends in line " + (i + 1));
                start = -1;
            }
        }
    }
}
