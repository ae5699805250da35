import java.io.IOException;
import java.lang.reflect.Constructor;
import java.lang.reflect.Field;
import java.lang.reflect.Method;
import java.lang.reflect.Modifier;
import java.nio.file.Files;
import java.nio.file.Path;
import java.util.ArrayList;
import java.util.List;
import java.util.Set;
import java.util.TreeSet;
import java.util.regex.Matcher;
import java.util.regex.Pattern;

/** The public face is that of the document, and the program keeps to what of ../shared/LANGUAGE.md can be counted. */
public final class FaceTest {
    private static int wrong = 0;

    private static void must(boolean so, String what) {
        if (!so) {
            wrong++;
            System.out.println("not so: " + what);
        }
    }

    public static void main(String[] args) throws IOException {
        String document = Files.readString(Path.of("../shared/DOC.md"));
        String program = Files.readString(Path.of("src/main/java/LeaseLand.java"));
        Set<String> face = lookAtFace(document);
        lookAtOrder(document, program);
        lookAtClasses(face);
        lookAtSigns(program);
        lookAtMethods(program);
        lookAtRoom();
        System.out.println("face and rules: " + wrong + " wrong");
        if (wrong != 0) System.exit(1);
    }

    private static Set<String> lookAtFace(String document) {
        Set<String> due = new TreeSet<>(), names = new TreeSet<>(), found = new TreeSet<>();
        String block = document.substring(document.indexOf("public final class"), document.indexOf("## Terms"));
        Matcher m = Pattern.compile("public (int|long) (\\w+)\\(([^)]*)\\);").matcher(block);
        while (m.find()) {
            due.add(m.group(1) + " " + m.group(2) + "(" + m.group(3).replaceAll(" \\w+(, |$)", "$1") + ")");
            names.add(m.group(2));
        }
        for (Method method : LeaseLand.class.getDeclaredMethods()) {
            int kind = method.getModifiers();
            if (Modifier.isPrivate(kind)) {
                must(!names.contains(method.getName()), "private " + method.getName() + " has a name of its own");
                continue;
            }
            List<String> types = new ArrayList<>();
            for (Class<?> type : method.getParameterTypes()) types.add(type.getName());
            must(kind == Modifier.PUBLIC, method + " is just public");
            found.add(method.getReturnType() + " " + method.getName() + "(" + String.join(", ", types) + ")");
        }
        must(due.size() == 49, "the document has 49 methods");
        must(due.equals(found), "methods " + found + " are " + due);
        must(Modifier.isFinal(LeaseLand.class.getModifiers()), "the class is final");
        Constructor<?>[] makers = LeaseLand.class.getDeclaredConstructors();
        must(makers.length == 1 && makers[0].getParameterCount() == 0, "one constructor without parameters");
        Set<String> constants = new TreeSet<>();
        for (Field field : LeaseLand.class.getDeclaredFields()) {
            if (!Modifier.isPrivate(field.getModifiers())) constants.add(field.getType() + " " + field.getName());
        }
        must(constants.toString().equals("[int END, int FULL, int LONG, int NO, int NONE, int OUTSIDE, int STATE, "
            + "int UNKNOWN, long LOST]"), "constants " + constants);
        must(LeaseLand.UNKNOWN == -1 && LeaseLand.OUTSIDE == -2 && LeaseLand.STATE == -3 && LeaseLand.FULL == -4
            && LeaseLand.NO == -5 && LeaseLand.NONE == -6, "refusals are -1 to -6");
        must(LeaseLand.LOST == -1000000000000000L && LeaseLand.END == 73000 && LeaseLand.LONG == 32850, "LOST, END, LONG");
        return names;
    }

    /** Ahead of the calls of each section the program says what the document tells of the interface. */
    private static void lookAtOrder(String document, String program) {
        Matcher section = Pattern.compile("Ahead of the calls (.*) the interface says: (---- \\d [^.]*)\\.").matcher(document);
        int sections = 0;
        while (section.find()) {
            sections++;
            String due = section.group(1).replace("`", "");
            int start = program.indexOf("// " + section.group(2) + "\n");
            must(start >= 0, section.group(2) + " stands in the program");
            int end = program.indexOf("// ----", start + 3);
            List<String> names = new ArrayList<>();
            Matcher call = Pattern.compile("(?m)^    public (int|long) (\\w+)\\(").matcher(program.substring(Math.max(0, start), end));
            while (call.find()) names.add(call.group(2));
            must(due.equals(String.join(", ", names)), section.group(2) + ": " + names + " are " + due);
        }
        must(sections == 7, "the document has 7 sections");
    }

    private static void lookAtClasses(Set<String> face) {
        Class<?>[] inside = LeaseLand.class.getDeclaredClasses();
        must(inside.length <= 12, inside.length + " classes are few");
        for (Class<?> one : inside) {
            must(Modifier.isStatic(one.getModifiers()), one + " is static");
            must(!Modifier.isPublic(one.getModifiers()), one + " is not public");
            for (Method method : one.getDeclaredMethods()) {
                must(!face.contains(method.getName()), method + " has no name of the face");
                must(!Set.of("equals", "hashCode", "toString").contains(method.getName()), method + " is not there");
                must(method.getParameterCount() <= 7, method + " takes at most seven");
            }
            for (Constructor<?> maker : one.getDeclaredConstructors()) {
                must(maker.getParameterCount() <= 7, maker + " takes at most seven");
            }
            lookAtFields(one);
        }
        lookAtFields(LeaseLand.class);
    }

    private static void lookAtFields(Class<?> one) {
        int fields = 0;
        for (Field field : one.getDeclaredFields()) {
            boolean isStatic = Modifier.isStatic(field.getModifiers());
            fields += isStatic ? 0 : 1;
            must(!isStatic || Modifier.isFinal(field.getModifiers()), field + " is final");
            must(!isStatic || field.getType().isPrimitive(), field + " is a number");
        }
        must(fields <= 20, one + " has few fields: " + fields);
    }

    private static void lookAtSigns(String program) {
        for (char sign : program.toCharArray()) must(sign < 127, "sign " + (int) sign);
        for (String line : program.split("\n")) {
            if (line.startsWith("import ")) must(line.equals("import java.util.Arrays;"), line);
            must(line.length() <= 120, "a line of at most 120: " + line);
        }
        String bare = program.replaceAll("(?s)/\\*.*?\\*/", " ").replaceAll("//[^\n]*", " ");
        String noTexts = bare.replaceAll("\"[^\"]*\"", "\"\"").replaceAll("'[^']'", "' '");
        for (String word : List.of("throw", "throws", "try", "catch", "finally", "synchronized", "assert", "package",
            "System", "Random", "Thread", "native", "float", "double", "instanceof", "var", "yield", "Object", "volatile")) {
            must(!Pattern.compile("\\b" + word + "\\b").matcher(noTexts).find(), "no " + word);
        }
        must(!noTexts.contains("->"), "no lambda");
        must(!noTexts.contains("::"), "no method reference");
        must(!noTexts.contains("Exact("), "no Exact");
        must(!noTexts.contains("\" +") && !noTexts.contains("+ \""), "no joining of texts by +");
        must(!Pattern.compile("static\\s*\\{").matcher(noTexts).find(), "no static block");
    }

    private static void lookAtMethods(String program) {
        String[] lines = program.split("\n");
        int since = -1;
        int deep = 0;
        for (int i = 0; i < lines.length; i++) {
            boolean opens = lines[i].matches(" {4}( {4})?[^ /*}].*\\) \\{");
            if (opens) {
                since = i;
                deep = lines[i].indexOf(lines[i].trim());
            }
            if (since >= 0 && lines[i].equals(" ".repeat(deep) + "}")) {
                must(i - since < 60, "short: " + lines[since].trim() + " has " + (i - since + 1) + " lines");
                since = -1;
            }
        }
    }

    /** Calls that only look make nothing, so that a long run stays small. */
    private static void lookAtRoom() {
        var threads = (com.sun.management.ThreadMXBean) java.lang.management.ManagementFactory.getThreadMXBean();
        long self = Thread.currentThread().getId();
        LeaseLand x = new LeaseLand();
        x.whole(4095, 0);
        for (int f = 0; f < 12; f++) x.lease(0, 1 << f, 0, 73000, f % 10);
        for (char sign : "h>199|!(l<1&t>5)&(f=0|o=0)".toCharArray()) x.say(sign);
        x.act(3, 0);
        for (int i = 0; i < 12; i++) x.line(i % 10, (i + 1) % 10, 0, 5 + i % 3);
        for (int i = 1; i < 10; i++) x.sale(i, i * i);
        long sum = lookOnce(x);
        long before = threads.getThreadAllocatedBytes(self);
        for (int i = 0; i < 60; i++) sum += lookOnce(x);
        long made = threads.getThreadAllocatedBytes(self) - before;
        must(made < 20000, "looking makes nothing: " + made + " bytes, " + sum);
    }

    private static long lookOnce(LeaseLand x) {
        long sum = x.first(1, 3) + x.decisive(1, 3) + x.more(0, 0) + x.may(0, 3) + x.doubted(-1) + x.doubted(0);
        sum += x.can(7) + x.learned(5, 2, 0) + x.doubt(1) + x.price(1, 0) + x.share(1, 0) + x.chain(3, 1) + x.fault();
        return sum + x.owed(1, 0, 73000) + x.right(2, 3) + x.about(3, 11) + x.told(30) + x.status(0) + x.worth(0);
    }
}
