import java.lang.reflect.Constructor;
import java.lang.reflect.Field;
import java.lang.reflect.Method;
import java.lang.reflect.Modifier;
import java.nio.charset.StandardCharsets;
import java.nio.file.Files;
import java.nio.file.Path;
import java.util.ArrayList;
import java.util.Arrays;
import java.util.List;
import java.util.Set;
import java.util.TreeSet;
import java.util.regex.Matcher;
import java.util.regex.Pattern;

/** The public face of the document, and those rules of LANGUAGE.md that can be seen from outside or by words. */
public final class LanguageTest {
    private static final String FACE = "feed(int,int,int,int,int) end(int) land() fault(int) road(int,int) likes(int,int) wheel(int,int) "
            + "cart(int,int) errand(int,int) roads(int) pull(int,int) takes(int,int) aside(int) argue(int,int) drive(int,int) swap(int,int) "
            + "grease(int) undo() anew() goes(int,int) ends(int,int) ran(int,int) astray(int,int) worn(int,int) way(int,int) wants(int,int,int) "
            + "reach(int) far(int,int) dues() choose(int,int) chosen(int,int) roams(int,int) circle(int) haunts(int) meet(int,int) met(int,int) "
            + "fits(int) ask(int) leaves(int) votes(int,int) loved(int) dearest() agree(int,int) mate(int) teach(int,int) blind(int,int) "
            + "blinds(int,int) lasts(int,int) share(int,int,int) worth(int) smiths() picks() drawn(int,int,int,int) luck(int,int,int,int,int) "
            + "tell(int,int,int) hand(int) count(int) image(int) back(int) row(int,int,int) write(int,int,long) paste(int,int,int,int,int)";

    private static final List<String> FORBIDDEN = List.of("throw", "throws", "try", "catch", "finally", "synchronized", "assert", "volatile",
            "native", "Object", "Override", "Thread", "System.out", "System.nanoTime", "System.currentTimeMillis", "Math.random",
            "hashCode", "toString", "String.format", "Exact", "Map", "Set", "Stream", "Optional", "var");

    private static int wrong = 0;

    private static void must(boolean holds, String what) {
        if (!holds) {
            wrong++;
            System.out.println("not so: " + what);
        }
    }

    public static void main(String[] args) throws Exception {
        face();
        Path path = Path.of("src/main/java/WheelMemory.java");
        String source = Files.readString(path, StandardCharsets.US_ASCII);
        String bare = withoutTexts(source);
        words(bare);
        System.out.println(wrong == 0 ? "the face and the language are as told" : wrong + " rules are not kept");
        if (wrong != 0) System.exit(1);
    }

    private static void face() {
        Class<?> type = WheelMemory.class;
        must(Modifier.isPublic(type.getModifiers()) && Modifier.isFinal(type.getModifiers()), "the class is public and final");
        Set<String> found = new TreeSet<>();
        Set<String> publicNames = new TreeSet<>();
        for (Method m : type.getDeclaredMethods()) {
            String types = String.join(",", Arrays.stream(m.getParameterTypes()).map(Class::getName).toList());
            if (Modifier.isPublic(m.getModifiers())) {
                found.add(m.getName() + "(" + types + ")");
                publicNames.add(m.getName());
                must(m.getReturnType() == int.class && !Modifier.isStatic(m.getModifiers()), m + " answers an int");
            } else {
                must(Modifier.isPrivate(m.getModifiers()), m + " is private");
            }
        }
        must(found.equals(new TreeSet<>(List.of(FACE.split(" ")))), "the public methods are those of the document: " + found);
        for (Field f : type.getDeclaredFields()) {
            must(Modifier.isPrivate(f.getModifiers()) || f.getName().equals("NONE"), f + " is private");
            must(!Modifier.isStatic(f.getModifiers()) || Modifier.isFinal(f.getModifiers()), f + " is final");
        }
        Constructor<?>[] made = type.getDeclaredConstructors();
        must(made.length == 1 && Modifier.isPublic(made[0].getModifiers()) && made[0].getParameterCount() == 0, "one public constructor");
        must(type.getDeclaredClasses().length + 1 <= 12, "at most twelve classes");
        for (Class<?> inside : type.getDeclaredClasses()) {
            must(Modifier.isStatic(inside.getModifiers()) && !Modifier.isPublic(inside.getModifiers()), inside + " is static and not public");
            long fields = Arrays.stream(inside.getDeclaredFields()).filter(f -> !Modifier.isStatic(f.getModifiers())).count();
            must(fields <= 20, inside + " has at most twenty fields");
            for (Method m : inside.getDeclaredMethods()) {
                must(!publicNames.contains(m.getName()), m + " bears the name of no public one");
            }
        }
        for (Method m : type.getDeclaredMethods()) {
            must(Modifier.isPublic(m.getModifiers()) || !publicNames.contains(m.getName()), m + " bears the name of no public one");
        }
    }

    private static String withoutTexts(String source) {
        return source.replaceAll("(?s)/\\*.*?\\*/", " ").replaceAll("//[^\n]*", " ").replaceAll("\"[^\"\n]*\"", "\"\"");
    }

    private static void words(String bare) {
        for (String word : FORBIDDEN) {
            must(!Pattern.compile("\\b" + Pattern.quote(word) + "\\b").matcher(bare).find(), "no word " + word);
        }
        must(!bare.contains("->") && !bare.contains("::"), "no lambda, no method reference");
        must(!Pattern.compile("\"\" *\\+|\\+ *\"\"").matcher(bare).find(), "no texts joined by +");
        List<String> imports = new ArrayList<>();
        Matcher m = Pattern.compile("import [^;]*;").matcher(bare);
        while (m.find()) imports.add(m.group());
        must(List.of("import java.util.Arrays;").equals(imports), "only Arrays is taken from the library: " + imports);
        must(!bare.contains("package "), "no package line");
    }
}
