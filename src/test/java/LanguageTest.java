import java.io.IOException;
import java.lang.reflect.Constructor;
import java.lang.reflect.Field;
import java.lang.reflect.Method;
import java.lang.reflect.Modifier;
import java.nio.file.Files;
import java.nio.file.Path;
import java.util.ArrayList;
import java.util.HashSet;
import java.util.List;
import java.util.Set;
import java.util.TreeSet;
import java.util.regex.Matcher;
import java.util.regex.Pattern;

/** The rules of LANGUAGE.md that can be looked up in the source and the class, and the document's face. */
public final class LanguageTest {
    private static final String[] FACE = {"feed(IIIII)I", "end(I)I", "pavement()I", "fault(I)I", "inch(III)I", "length(I)I", "line(III)I",
        "gap(III)I", "foot(IIII)I", "fewest(IIII)I", "ways(IIII)J", "evenest(IIII)I", "even(IIIII)I", "evens(III)I", "first(IIIII)I",
        "begin(IIII)I", "suits(IIIII)J", "keeps(III)I", "brave(IIIII)J", "boldest(IIIII)I", "wager(IIII)I", "leave(II)I", "walk(III)I",
        "go(I)I", "force(I)I", "rain()Z", "day()I", "undo()Z", "redo()Z", "walker(I)I", "lies(I)I", "sight(III)I", "untell(I)Z",
        "later(I)I", "fits(I)I", "chance(III)J", "image(I)I", "back(I)I", "about(I)I"};

    public static void main(String[] args) throws IOException {
        face();
        insides();
        source(Files.readString(Path.of("src/main/java/SlabWalk.java")));
        Due.finish();
    }

    private static void face() {
        Set<String> due = new TreeSet<>(List.of(FACE));
        Set<String> got = new TreeSet<>();
        for (Method method : SlabWalk.class.getDeclaredMethods()) {
            if (!Modifier.isPrivate(method.getModifiers()) && !method.isSynthetic()) {
                StringBuilder told = new StringBuilder(method.getName()).append('(');
                for (Class<?> type : method.getParameterTypes()) {
                    told.append(type.descriptorString());
                }
                got.add(told.append(')').append(method.getReturnType().descriptorString()).toString());
                Due.due(method.getName() + " is public, not static", method.getModifiers() == Modifier.PUBLIC, true);
            }
        }
        Due.due("the face: " + got, got.equals(due), true);
        Due.due("public final", (SlabWalk.class.getModifiers() & (Modifier.PUBLIC | Modifier.FINAL)), Modifier.PUBLIC | Modifier.FINAL);
        Constructor<?>[] constructors = SlabWalk.class.getDeclaredConstructors();
        Due.due("one constructor", constructors.length, 1);
        Due.due("a public one", constructors[0].getModifiers(), Modifier.PUBLIC);
        for (Field field : SlabWalk.class.getDeclaredFields()) {
            boolean open = !Modifier.isPrivate(field.getModifiers());
            Due.due("field " + field.getName(), open, field.getName().equals("NONE"));
        }
    }

    private static void insides() {
        Set<String> names = new HashSet<>();
        for (String told : FACE) {
            names.add(told.substring(0, told.indexOf('(')));
        }
        Class<?>[] classes = SlabWalk.class.getDeclaredClasses();
        Due.due("classes", classes.length <= 12, true);
        List<Class<?>> all = new ArrayList<>(List.of(classes));
        all.add(SlabWalk.class);
        for (Class<?> type : all) {
            Due.due(type + " is static", type == SlabWalk.class || Modifier.isStatic(type.getModifiers()), true);
            int fields = 0;
            for (Field field : type.getDeclaredFields()) {
                boolean isStatic = Modifier.isStatic(field.getModifiers());
                fields += isStatic ? 0 : 1;
                Due.due(field + " is final", isStatic && !Modifier.isFinal(field.getModifiers()), false);
            }
            Due.due(type + ": fields", fields <= 20, true);
            for (Method method : type.getDeclaredMethods()) {
                Due.due(method + ": parameters", method.getParameterCount() <= 7, true);
                Due.due(method + ": another name", type != SlabWalk.class && names.contains(method.getName()), false);
            }
        }
    }

    private static void source(String text) {
        String bare = text.replaceAll("(?s)/\\*.*?\\*/", "").replaceAll("//[^\n]*", "").replaceAll("\"[^\"\n]*\"", "TEXT");
        String[] forbidden = {"throw", "throws", "try", "catch", "finally", "synchronized", "assert", "volatile", "transient", "native",
            "package", "Object", "System\\.(?!arraycopy)", "Thread", "Random", "Math\\.\\w+Exact", "->", "::", "@\\w+", "static \\{",
            "equals", "hashCode", "toString", "instanceof", "double", "float", "TEXT \\+", "\\+ TEXT"};
        for (String word : forbidden) {
            Due.due("forbidden: " + word, Pattern.compile(word.matches("\\w+") ? "\\b" + word + "\\b" : word).matcher(bare).find(), false);
        }
        Matcher imports = Pattern.compile("import ([\\w.]+);").matcher(bare);
        while (imports.find()) {
            Due.due("import " + imports.group(1), imports.group(1).equals("java.util.Arrays"), true);
        }
        for (int i = 0; i < text.length(); i++) {
            Due.due("a sign beyond 127 at " + i, text.charAt(i) > 126, false);
        }
        int from = 0;
        int deep = 0;
        String[] lines = bare.split("\n");
        for (int i = 0; i < lines.length; i++) {
            if (lines[i].matches("( {4}| {8})[\\w\\[\\]<> ]*\\w+\\([^;]*") && lines[i].indexOf('=') < 0) {
                from = i;
            }
            if (lines[i].matches("( {4}| {8})\\}")) {
                deep = Math.max(deep, i - from + 1);
            }
        }
        System.out.println("the longest method has at most " + deep + " lines");
        Due.due("methods stay short", deep <= 60, true);
    }
}
