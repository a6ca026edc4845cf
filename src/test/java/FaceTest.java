import java.lang.reflect.Constructor;
import java.lang.reflect.Field;
import java.lang.reflect.Method;
import java.lang.reflect.Modifier;
import java.nio.file.Files;
import java.nio.file.Path;
import java.util.Arrays;
import java.util.Comparator;
import java.util.HashSet;
import java.util.Set;
import java.util.regex.Matcher;
import java.util.regex.Pattern;

/** The face of the document, and the rules of LANGUAGE.md that can be looked up in the text. */
public final class FaceTest {
    /** Each method: its name and how many int parameters it takes; L stands for a long answer. */
    private static final String[] FACE = {"calm 4", "clear 0", "close 2", "closes 1", "correct 3",
        "count 1", "draw 3", "feed 1", "fewest 1", "fits 0", "from 3 L", "grows 5", "hours 2", "ice 3",
        "image 0", "judge 1", "lay 4", "lot 2", "mark 2", "mean 2 L", "next 4", "of 2", "restore 0",
        "rink 0", "row 1", "seeds 3", "set 2", "skater 2", "spread 1", "sweep 0", "trace 2", "whose 2",
        "won 1"};
    private static final String[] BANNED = {"throw", "throws", "try", "catch", "synchronized", "assert",
        "import", "package", "protected", "equals", "hashCode", "toString", "Random", "Thread", "volatile",
        "native", "transient", "var"};

    private static final String CLASS = "src/main/java/EightOnIce.java";
    private static final Check check = new Check();

    public static void main(String[] args) throws Exception {
        theFace();
        asTheDocumentTellsIt();
        noOtherMember();
        innerClasses();
        theText();
        check.finish("FaceTest");
    }

    static Method[] publicMethods() {
        return Arrays.stream(EightOnIce.class.getDeclaredMethods())
            .filter(method -> Modifier.isPublic(method.getModifiers()))
            .sorted(Comparator.comparing(Method::getName)).toArray(Method[]::new);
    }

    private static void due(String what, boolean holds) {
        check.due(what, holds ? 1 : 0, 1);
    }

    private static void theFace() {
        Method[] face = publicMethods();
        check.due("how many methods", face.length, FACE.length);
        for (int i = 0; i < face.length && i < FACE.length; i++) {
            boolean isLong = face[i].getReturnType() == long.class;
            String seen = face[i].getName() + " " + face[i].getParameterCount() + (isLong ? " L" : "");
            due(seen + " is " + FACE[i], seen.equals(FACE[i]));
            due(seen + " answers a number", isLong || face[i].getReturnType() == int.class);
            for (Class<?> type : face[i].getParameterTypes()) {
                due(seen + " takes ints", type == int.class);
            }
        }
        due("public final", EightOnIce.class.getModifiers() == (Modifier.PUBLIC | Modifier.FINAL));
    }

    /** Each line of the document's face stands in the class, with the names of its numbers, and no other does. */
    private static void asTheDocumentTellsIt() throws Exception {
        String document = Files.readString(Path.of("../shared/DOC.md"));
        String text = Files.readString(Path.of(CLASS));
        String begin = "public final class EightOnIce {\n";
        String face = document.substring(document.indexOf(begin) + begin.length());
        String[] told = face.substring(0, face.indexOf("\n}")).split("\n");
        check.due("how many lines the face has", told.length, FACE.length + 1);
        for (String line : told) {
            due(line.trim() + " stands in the class", text.contains("\n" + line.replace(";", " {") + "\n"));
        }
        long many = text.lines().filter(line -> line.startsWith("    public ")).count();
        check.due("how many public members stand in the class", many, told.length);
    }

    private static void noOtherMember() {
        Set<String> names = new HashSet<>();
        for (Method method : publicMethods()) {
            names.add(method.getName());
        }
        for (Method method : EightOnIce.class.getDeclaredMethods()) {
            boolean isPublic = Modifier.isPublic(method.getModifiers());
            due(method + " is public or private", isPublic || Modifier.isPrivate(method.getModifiers()));
            due(method + " has its name alone", isPublic || !names.contains(method.getName()));
        }
        for (Field field : EightOnIce.class.getDeclaredFields()) {
            due(field + " is private", Modifier.isPrivate(field.getModifiers()));
            boolean isStatic = Modifier.isStatic(field.getModifiers());
            due(field + " is final if static", !isStatic || Modifier.isFinal(field.getModifiers()));
        }
        Constructor<?>[] made = EightOnIce.class.getDeclaredConstructors();
        due("one public constructor", made.length == 1 && Modifier.isPublic(made[0].getModifiers())
            && made[0].getParameterCount() == 0);
    }

    private static void innerClasses() {
        Set<String> names = new HashSet<>();
        for (Method method : publicMethods()) {
            names.add(method.getName());
        }
        Class<?>[] inner = EightOnIce.class.getDeclaredClasses();
        due("at most eleven classes inside", inner.length <= 11);
        for (Class<?> each : inner) {
            due(each + " is static", Modifier.isStatic(each.getModifiers()));
            due(each + " has some twenty fields at most", each.getDeclaredFields().length <= 20);
            for (Method method : each.getDeclaredMethods()) {
                due(method + " has a name of its own", !names.contains(method.getName()));
                due(method + " takes seven at most", method.getParameterCount() <= 7);
            }
        }
    }

    private static void theText() throws Exception {
        String text = Files.readString(Path.of(CLASS));
        String code = text.replaceAll("(?s)/\\*.*?\\*/", "").replaceAll("//[^\n]*", "");
        for (String word : BANNED) {
            due("no " + word, !Pattern.compile("\\b" + word + "\\b").matcher(code).find());
        }
        due("no lambda", !code.contains("->"));
        due("no method reference", !code.contains("::"));
        for (int i = 0; i < text.length(); i++) {
            due("plain signs", text.charAt(i) < 128);
        }
        Matcher calls = Pattern.compile("\\b(Math|Integer|System|Long|Arrays)\\.(\\w+)").matcher(code);
        Set<String> allowed = Set.of("Math.min", "Math.max", "Math.abs", "Integer.bitCount",
            "Integer.compare", "System.arraycopy");
        while (calls.find()) {
            due(calls.group() + " is of the library", allowed.contains(calls.group()));
        }
        shortMethods(text);
    }

    /** A method begins at its head's line and ends at the first "}" as far in as the head. */
    private static void shortMethods(String text) {
        String[] lines = text.split("\n");
        Pattern head = Pattern.compile("^( {4}| {8})(public |private |static )*\\w[\\w\\[\\]]* \\w+\\(.*\\{$");
        for (int i = 0; i < lines.length; i++) {
            Matcher matcher = head.matcher(lines[i]);
            if (matcher.matches()) {
                int end = i;
                while (end < lines.length - 1 && !lines[end].equals(matcher.group(1) + "}")) {
                    end++;
                }
                due("short: " + lines[i].trim(), end - i < 60);
            }
        }
    }
}
