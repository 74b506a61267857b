import java.io.IOException;
import java.lang.reflect.Constructor;
import java.lang.reflect.Field;
import java.lang.reflect.Method;
import java.lang.reflect.Modifier;
import java.nio.file.Files;
import java.nio.file.Path;
import java.util.Random;
import java.util.TreeSet;
import java.util.regex.Matcher;
import java.util.regex.Pattern;

/** The public face as the document prints it, the rules that can be seen from outside, and calls with wild numbers. */
public final class FaceTest {
    private static final String FACE = "int feed(int,int,int,int,int);int end(int);int plan();int fault(int);"
            + "int key(int,int);int cut(int,int);int lock(int,int);int parts(int,int);int door(int,int);"
            + "int person(int,int);int opens(int,int);int walk(int,int);int give(int,int);int hang(int);int lose(int);"
            + "int find(int,int);int file(int,int);int recut(int,int);int pin(int,int);int part(int,int,int);"
            + "boolean undo();boolean redo();int legal();int bitting(int);int rank(int);int ghosts(int);"
            + "int ghost(int,int);int common(int,int);int master(int);int cutFor(int,int);int filing(int,int,int);"
            + "int broken(int);int strays(int);int keeps(int);int leftOver(int);int route(int,int);"
            + "int bunch(int,int,int);int together(int);int comers(int);int trade(int,int,int);int span(int,int);"
            + "int twin(int);int book(int);int lasts(int,int);int blanks();int stuck();int barred();int haunted();"
            + "int best();int idle(int);int law(int);int odds(int,int);int lies(int);int tried(int,boolean);"
            + "boolean untell(int);int later(int);int fits(int);int sure(int,int);int ask(int,int);int image(int);"
            + "int back(int);int about(int)";
    private static final String[] FORBIDDEN = {"throw", "try", "catch", "synchronized", "assert", "finally", "lambda",
        "Random", "System.nano", "System.current", "hashCode", "Thread", "->", "::", "protected", "static {"};
    private static int wrong = 0;

    private static void check(boolean right, String what) {
        if (!right) {
            wrong++;
            System.out.println(what);
        }
    }

    public static void main(String[] args) throws Exception {
        face();
        inside();
        source();
        for (int run = 0; run < 400; run++) {
            wild(new Random(run));
        }
        System.out.println(wrong == 0 ? "the face is as due" : wrong + " things are not as due");
        if (wrong != 0) {
            System.exit(1);
        }
    }

    private static String signature(Method m) {
        StringBuilder s = new StringBuilder(m.getReturnType().getName() + " " + m.getName() + "(");
        for (Class<?> type : m.getParameterTypes()) {
            s.append(s.charAt(s.length() - 1) == '(' ? "" : ",").append(type.getName());
        }
        return s + ")";
    }

    private static void face() throws ReflectiveOperationException {
        Class<?> type = PinPlan.class;
        check(Modifier.isPublic(type.getModifiers()) && Modifier.isFinal(type.getModifiers()), "public final class");
        TreeSet<String> due = new TreeSet<>(java.util.List.of(FACE.split(";")));
        TreeSet<String> names = new TreeSet<>();
        TreeSet<String> found = new TreeSet<>();
        for (Method m : type.getDeclaredMethods()) {
            if (!Modifier.isPrivate(m.getModifiers())) {
                found.add(signature(m));
                names.add(m.getName());
                check(Modifier.isPublic(m.getModifiers()) && !Modifier.isStatic(m.getModifiers()), m + " is not public");
            }
        }
        check(due.size() == 62 && due.equals(found), "the methods are " + found);
        for (Method m : type.getDeclaredMethods()) {
            check(!Modifier.isPrivate(m.getModifiers()) || !names.contains(m.getName()), m + " bears a public name");
        }
        for (Field f : type.getDeclaredFields()) {
            boolean none = f.getName().equals("NONE") && f.getType() == int.class && f.getInt(null) == -1;
            check(Modifier.isPrivate(f.getModifiers()) || none, f + " is not private");
        }
        Constructor<?>[] all = type.getDeclaredConstructors();
        check(all.length == 1 && all[0].getParameterCount() == 0 && Modifier.isPublic(all[0].getModifiers()),
                "one constructor");
    }

    private static void inside() {
        int classes = 1;
        for (Class<?> type : PinPlan.class.getDeclaredClasses()) {
            classes++;
            check(Modifier.isStatic(type.getModifiers()) && !Modifier.isPublic(type.getModifiers()), type + " is not static");
            int fields = 0;
            for (Field f : type.getDeclaredFields()) {
                boolean constant = Modifier.isStatic(f.getModifiers());
                fields += constant ? 0 : 1;
                check(!constant || Modifier.isFinal(f.getModifiers()), f + " is static and not final");
            }
            check(fields <= 20, type + " has " + fields + " fields");
            for (Method m : type.getDeclaredMethods()) {
                check(m.getParameterCount() <= 7, m + " has too many parameters");
                check(!FACE.contains(" " + m.getName() + "("), m + " bears a public name");
            }
        }
        check(classes <= 12, classes + " classes");
    }

    private static void source() throws IOException {
        String text = Files.readString(Path.of("src/main/java/PinPlan.java"));
        String code = text.replaceAll("(?s)/\\*.*?\\*/", "").replaceAll("//[^\n]*", "").replaceAll("\"[^\"]*\"", "\"\"");
        for (String word : FORBIDDEN) {
            boolean letters = Character.isLetter(word.charAt(0));
            Pattern p = Pattern.compile(letters ? "\\b" + Pattern.quote(word) : Pattern.quote(word));
            check(!p.matcher(code).find(), "the source has " + word);
        }
        Matcher imports = Pattern.compile("(?m)^import (.*);$").matcher(code);
        while (imports.find()) {
            check(imports.group(1).matches("java\\.util\\.(Arrays|ArrayList|List)"), "imports " + imports.group(1));
        }
        check(!code.contains("while (true)") && !code.contains("for (;;)"), "a loop without an end");
        for (char c : text.toCharArray()) {
            check(c == '\n' || c >= 32 && c < 127, "a sign that is not of 1 to 127");
        }
        methodLengths(code);
    }

    private static void methodLengths(String code) {
        String[] lines = code.split("\n");
        int begun = -1;
        for (int i = 0; i < lines.length; i++) {
            if (lines[i].matches(" {4}( {4})?[a-z].*\\) \\{")) {
                begun = i;
            }
            if (begun >= 0 && lines[i].matches(" {4}( {4})?\\}")) {
                check(i - begun < 60, "a long method at line " + begun);
                begun = -1;
            }
        }
    }

    /** All methods with numbers of all sizes, on a plan of all sorts: nothing is ever thrown. */
    private static void wild(Random random) throws ReflectiveOperationException {
        PinPlan x = new PinPlan();
        Method[] methods = PinPlan.class.getDeclaredMethods();
        if (random.nextInt(4) != 0) {
            String text = "chambers " + (2 + random.nextInt(4)) + ";key a 0 0 0 0 0;"
                    + "wear 9999 * 9999 * 9999 / (0 - 1) % (cut - cut) + uses;";
            String small = "chambers 2;depths 2;key a 0 0;key b 1 1;lock l 0/1 0/1;room x;room y;"
                    + "door d from x to y lock l;person p in x holds a;person q in y holds b;wear 100;";
            Tape.put(x, random.nextBoolean() ? text : small);
            x.plan();
        }
        for (int i = 0; i < 450; i++) {
            Method m = methods[random.nextInt(methods.length)];
            if (!Modifier.isPublic(m.getModifiers())) {
                continue;
            }
            Object[] args = new Object[m.getParameterCount()];
            for (int j = 0; j < args.length; j++) {
                args[j] = m.getParameterTypes()[j] == boolean.class ? (Object) random.nextBoolean() : number(random);
            }
            try {
                m.invoke(x, args);
            } catch (java.lang.reflect.InvocationTargetException e) {
                check(false, m + " " + java.util.Arrays.toString(args) + " threw " + e.getCause());
            }
        }
    }

    private static int number(Random random) {
        switch (random.nextInt(6)) {
            case 0: return random.nextInt();
            case 1: return Integer.MIN_VALUE + random.nextInt(3);
            case 2: return Integer.MAX_VALUE - random.nextInt(3);
            case 3: return 1 << random.nextInt(32);
            default: return random.nextInt(12) - 3;
        }
    }
}
