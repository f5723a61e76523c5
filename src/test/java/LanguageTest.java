import java.io.IOException;
import java.lang.reflect.Field;
import java.lang.reflect.Method;
import java.lang.reflect.Modifier;
import java.nio.file.Files;
import java.nio.file.Path;
import java.util.Arrays;
import java.util.Set;
import java.util.TreeSet;
import java.util.regex.Matcher;
import java.util.regex.Pattern;

/** The face of the document, and those rules of LANGUAGE.md that can be read off the source. */
public final class LanguageTest {
    private static final Check CHECK = new Check();
    private static final String[] FACE = {
        "int shoe(int,int,int,int)", "int shoes(int,int,int)", "int ofShoe(int,int)", "int moveShoe(int,int)",
        "int bound(int,int,int,int)", "int claim(int,int,int)", "int ofClaim(int,int)", "int feed(int,int)", "int suit()",
        "int ofSuit(int,int)", "int won(int,int)", "int undone(int,int)", "int law(int)", "int counts(int,int,int)",
        "int met(int,int,int)", "int point(int,int,int,int)", "int left(int,int)", "int lost(int,int)",
        "long opens(int,int)", "int clash(int)", "int wish(int,int)", "int order(int,int)", "int unwish()",
        "int joined(int,int,int)", "int ring(int)", "int hangs(int,int,int)", "int need(int,int,int)", "int undo()",
        "int redo()", "int act(int,int,int)", "int trace(int)", "int keep(int,int)", "int row(int,int,int)",
        "int put(int,int,long)", "long element(int,int)", "int shift(int,int,int,int,int)", "int taken(int,int)",
        "int count(int)"};
    private static final String[] CONSTANTS = {"BAD", "FULL", "NOT", "STATE", "VOID"};

    public static void main(String[] args) throws IOException {
        face();
        constants();
        insides();
        String source = Files.readString(Path.of("src/main/java/AlreadyJudged.java"));
        words(withoutTexts(source));
        lengths(source);
        CHECK.end("LanguageTest");
    }

    private static void face() {
        Set<String> seen = new TreeSet<>();
        for (Method m : AlreadyJudged.class.getDeclaredMethods()) {
            if (!Modifier.isPrivate(m.getModifiers())) {
                CHECK.that(m.getName() + " is public", Modifier.isPublic(m.getModifiers()));
                StringBuilder told = new StringBuilder(m.getReturnType() + " " + m.getName() + "(");
                for (Class<?> type : m.getParameterTypes()) {
                    told.append(told.toString().endsWith("(") ? "" : ",").append(type);
                }
                seen.add(told + ")");
            }
        }
        CHECK.that("1: the face " + seen, seen.equals(new TreeSet<>(Arrays.asList(FACE))));
        CHECK.due("1: one constructor", AlreadyJudged.class.getConstructors().length, 1);
        CHECK.that("1: final", Modifier.isFinal(AlreadyJudged.class.getModifiers()));
    }

    private static void constants() {
        Set<String> seen = new TreeSet<>();
        for (Field f : AlreadyJudged.class.getDeclaredFields()) {
            CHECK.that("5: " + f.getName() + " is final", Modifier.isFinal(f.getModifiers()));
            if (!Modifier.isPrivate(f.getModifiers())) {
                seen.add(f.getName());
            }
        }
        CHECK.that("1: the constants " + seen, seen.equals(new TreeSet<>(Arrays.asList(CONSTANTS))));
        CHECK.due("BAD", AlreadyJudged.BAD, -1);
        CHECK.due("NOT", AlreadyJudged.NOT, -2);
        CHECK.due("FULL", AlreadyJudged.FULL, -3);
        CHECK.due("STATE", AlreadyJudged.STATE, -5);
        CHECK.due("VOID", AlreadyJudged.VOID, -2000000000);
    }

    private static void insides() {
        Set<String> names = new TreeSet<>();
        for (String told : FACE) {
            names.add(told.substring(told.indexOf(' ') + 1, told.indexOf('(')));
        }
        for (Method m : AlreadyJudged.class.getDeclaredMethods()) {
            CHECK.that("1: " + m + " bears a name of its own", Modifier.isPublic(m.getModifiers()) || !names.contains(m.getName()));
        }
        Class<?>[] classes = AlreadyJudged.class.getDeclaredClasses();
        CHECK.that("11: twelve classes at most", classes.length + 1 <= 12);
        for (Class<?> inside : classes) {
            CHECK.that("2: " + inside + " is static", Modifier.isStatic(inside.getModifiers()));
            long fields = Arrays.stream(inside.getDeclaredFields()).filter(f -> !Modifier.isStatic(f.getModifiers())).count();
            CHECK.that("11: twenty fields at most in " + inside, fields <= 20);
            for (Field f : inside.getDeclaredFields()) {
                CHECK.that("5: no static state", !Modifier.isStatic(f.getModifiers()) || Modifier.isFinal(f.getModifiers()));
            }
            for (Method m : inside.getDeclaredMethods()) {
                CHECK.that("1: " + m + " bears a name of its own", !names.contains(m.getName()));
                CHECK.that("11: seven parameters at most in " + m, m.getParameterCount() <= 7);
            }
        }
    }

    private static String withoutTexts(String source) {
        return source.replaceAll("(?s)/\\*.*?\\*/", "").replaceAll("//[^\n]*", "")
            .replaceAll("\"(\\\\.|[^\"\\\\])*\"", "\"\"").replaceAll("'(\\\\.|[^'\\\\])'", "' '");
    }

    private static void words(String code) {
        String[] banned = {"throw", "throws", "try", "catch", "finally", "synchronized", "assert", "protected", "package",
            "Object", "Random", "Thread", "volatile", "native", "strictfp", "transient", "hashCode", "toString", "record"};
        for (String word : banned) {
            CHECK.that("6: no " + word, !Pattern.compile("\\b" + word + "\\b").matcher(code).find());
        }
        for (String sign : new String[] {"->", "::", "\"\" +", "+ \"\"", "@"}) {
            CHECK.that("2: no " + sign, !code.contains(sign));
        }
        Matcher imports = Pattern.compile("import ([^;]+);").matcher(code);
        while (imports.find()) {
            CHECK.that("4: imports " + imports.group(1), imports.group(1).equals("java.util.Arrays"));
        }
        CHECK.that("3: signs 1 to 127", code.chars().allMatch(c -> c < 128));
    }

    /** Methods stand at one or two levels: each ends where its own indentation closes. */
    private static void lengths(String source) {
        String[] lines = source.split("\n");
        for (int i = 0; i < lines.length; i++) {
            String line = lines[i];
            String indentation = line.substring(0, line.length() - line.stripLeading().length());
            boolean begins = line.endsWith(") {") && (indentation.length() == 4 || indentation.length() == 8)
                && !line.strip().matches("(if|for|while|switch|\\}).*");
            int end = i;
            while (begins && end < lines.length && !lines[end].equals(indentation + "}")) {
                end++;
            }
            CHECK.that("11: sixty lines at most from line " + (i + 1), end - i <= 60);
            CHECK.that("line " + (i + 1) + " is not too long", line.length() <= 120);
        }
    }
}
