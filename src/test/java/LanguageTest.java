import java.lang.reflect.Field;
import java.lang.reflect.Method;
import java.lang.reflect.Modifier;
import java.nio.file.Files;
import java.nio.file.Path;
import java.util.Set;
import java.util.TreeSet;
import java.util.regex.Matcher;
import java.util.regex.Pattern;

/** The public face, and what a look at the source can check of the rules of the language. */
public final class LanguageTest {
    private static final Checks checks = new Checks();
    private static final String FACE = "feed:IIIII=I end:I=I text:II=I fault:I=I theatre:II=I deed:III=I stop:II=I "
        + "state:IIII=I palm:IIIII=I actor:IIIII=I run:IIII=I feast:IIII=I fair:IIIZ=I ask:III=I taken:III=I "
        + "stands:II=I heard:II=I ways:II=J whose:IIIZ=I drawn:IIII=I look:IIII=I silence:IIZ=I count:I=I "
        + "image:I=Z again:I=Z";

    public static void main(String[] args) throws Exception {
        face();
        String code = Files.readString(Path.of("src/main/java/ClapBank.java"));
        forbidden(bare(code));
        library(bare(code));
        constantRows(bare(code));
        objectsMade(bare(code));
        lengths(bare(code));
        checks.finish();
    }

    private static void face() {
        Set<String> open = new TreeSet<>();
        Set<String> names = new TreeSet<>();
        for (String one : FACE.split(" ")) {
            names.add(one.substring(0, one.indexOf(':')));
        }
        for (Method m : ClapBank.class.getDeclaredMethods()) {
            if (!Modifier.isPrivate(m.getModifiers()) && !m.isSynthetic()) {
                checks.due("public " + m, Modifier.isPublic(m.getModifiers()), true);
                open.add(m.getName() + ":" + descriptor(m));
            } else if (!m.isSynthetic()) {
                checks.due("a private method's name: " + m, names.contains(m.getName()), false);
            }
        }
        checks.due("the face " + open, open.equals(new TreeSet<>(Set.of(FACE.split(" ")))), true);
        for (Field f : ClapBank.class.getDeclaredFields()) {
            checks.due("field " + f, Modifier.isPrivate(f.getModifiers()), !f.getName().equals("NONE"));
            checks.due("static and final " + f, Modifier.isFinal(f.getModifiers()), true);
        }
        checks.due("final class", Modifier.isFinal(ClapBank.class.getModifiers()), true);
        checks.due("one constructor", ClapBank.class.getDeclaredConstructors().length, 1);
        checks.due("at most twelve classes", ClapBank.class.getDeclaredClasses().length <= 11, true);
        for (Class<?> inner : ClapBank.class.getDeclaredClasses()) {
            checks.due("static " + inner, Modifier.isStatic(inner.getModifiers()), true);
            int fields = 0;
            for (Field f : inner.getDeclaredFields()) {
                fields += Modifier.isStatic(f.getModifiers()) ? 0 : 1;
            }
            checks.due("at most twenty fields " + inner, fields <= 20, true);
            for (Method m : inner.getDeclaredMethods()) {
                checks.due("a name of the face's: " + m, names.contains(m.getName()), false);
                checks.due("at most seven parameters: " + m, m.getParameterCount() <= 7, true);
            }
        }
    }

    private static String descriptor(Method m) {
        StringBuilder b = new StringBuilder();
        for (Class<?> type : m.getParameterTypes()) {
            b.append(type.descriptorString());
        }
        return b.append('=').append(m.getReturnType().descriptorString()).toString();
    }

    /** The code without its comments and texts. */
    private static String bare(String code) {
        return code.replaceAll("(?s)/\\*.*?\\*/", "").replaceAll("//[^\n]*", "").replaceAll("\"[^\"\n]*\"", "\"\"");
    }

    private static void forbidden(String code) {
        String[] never = {"\\bthrow", "\\btry\\b", "\\bcatch\\b", "\\bsynchronized\\b", "\\bassert\\b", "->", "::",
            "\\bHashMap\\b", "\\bSystem\\.(?!arraycopy)", "Exact\\b", "\\bprotected\\b", "\\bdouble\\b", "\\bfloat\\b",
            "\\bObject\\b", "\\btoString\\b", "\\bhashCode\\b", "[^\\x00-\\x7f]", "\\bpackage\\b"};
        for (String word : never) {
            Matcher m = Pattern.compile(word).matcher(code);
            checks.due("never " + word, m.find(), false);
        }
        Matcher imports = Pattern.compile("import ([^;]*);").matcher(code);
        while (imports.find()) {
            checks.due("import " + imports.group(1), imports.group(1).matches("java\\.util\\.(Arrays|ArrayList|List)"), true);
        }
        Matcher statics = Pattern.compile("static (?!final)[^;({]*[;=]").matcher(code);
        checks.due("static fields are final", statics.find(), false);
    }

    /** Rule 4: of the library's classes, and of texts, only what it lists. */
    private static void library(String code) {
        Matcher calls = Pattern.compile("\\b(Math|Integer|Long|Arrays|System|String|StringBuilder|List|Character)\\.(\\w+)")
            .matcher(code);
        Set<String> used = new TreeSet<>();
        while (calls.find()) {
            used.add(calls.group(1) + "." + calls.group(2));
        }
        used.removeAll(Set.of("Math.min", "Math.max", "Integer.bitCount", "Arrays.fill", "System.arraycopy"));
        checks.due("other calls of the library " + used, used.size(), 0);
        Matcher word = Pattern.compile("\\bword\\.(\\w+)").matcher(code);
        while (word.find()) {
            checks.due("a text's " + word.group(1), Set.of("length", "charAt").contains(word.group(1)), true);
        }
    }

    /** Rule 5: rows that are constants are written out and never changed. */
    private static void constantRows(String code) {
        Matcher rows = Pattern.compile("static final \\w+\\[\\] (\\w+) = (.)").matcher(code);
        int found = 0;
        while (rows.find()) {
            found++;
            checks.due("written out: " + rows.group(1), rows.group(2).equals("{"), true);
            boolean changed = Pattern.compile(rows.group(1) + "\\[[^\\]]*\\] *([-+*/|&^]?=[^=]|\\+\\+|--)").matcher(code).find();
            checks.due("never changed: " + rows.group(1), changed, false);
            boolean handedOut = Pattern.compile("[(,=] *" + rows.group(1) + " *[,;)]").matcher(code).find();
            checks.due("never handed out: " + rows.group(1), handedOut, false);
        }
        checks.due("rows that are constants", found > 0, true);
    }

    /** The room is one for all calls: objects are made as fields, by the constructor, and once for each image. */
    private static void objectsMade(String code) {
        int elsewhere = 0;
        for (String line : code.split("\n")) {
            boolean field = line.matches("        private (final )?\\w+(\\[\\])? \\w+ = new .*;");
            boolean constructor = line.matches("        (told|images|reader|evening|table|rounds|hearing) = new .*;");
            elsewhere += line.contains("new ") && !field && !constructor ? 1 : 0;
        }
        checks.due("made elsewhere: an image alone", elsewhere, 1);
        checks.due("the image", code.contains("            kept = new Told();"), true);
    }

    private static void lengths(String code) {
        String[] lines = code.split("\n", -1);
        int start = -1;
        String indent = "";
        for (int i = 0; i < lines.length; i++) {
            Matcher opens = Pattern.compile("^(\\s+)[\\w\\[\\] ]+\\([^;]*\\) \\{$").matcher(lines[i]);
            boolean method = opens.find() && !lines[i].matches("\\s*(if|for|while|switch|else|do|return)\\b.*");
            if (method) {
                start = i;
                indent = opens.group(1);
            }
            if (start >= 0 && lines[i].equals(indent + "}")) {
                checks.due("a short method, line " + (start + 1), i - start <= 60, true);
                start = -1;
            }
        }
    }
}
