import java.io.IOException;
import java.lang.reflect.Method;
import java.lang.reflect.Modifier;
import java.nio.file.Files;
import java.nio.file.Path;
import java.util.Arrays;
import java.util.Set;
import java.util.TreeSet;
import java.util.regex.Matcher;
import java.util.regex.Pattern;

/** The face of the class, and those rules of LANGUAGE.md that can be seen in its text. */
public final class LanguageTest {
    private static final String FACE = "int feed(int,int,int,int,int) int text(int,int) int fault() int count(int) int step(int,int,int) "
        + "long at(int,int) long least(int) int flat(int,int) int kink(int,int,int) int slope(int,int,int) int path(int,int,int) "
        + "long paid(int,int,int) int off(int,int,int) long split(int,int,int) int where(int,int,int) long shared(int,int) "
        + "int stretch(int,int) int leads(int,int,int) long against(int,int,int) int meet(int,int) int heaviest(int,int,int) "
        + "long spared(int,int) int dearest(int) long gap(int,int) int alike(int,int) int told(int,int) int does(int,int,int,int) "
        + "int puts(int,int,int,int,int) int takes(int,int) int copy(int,int) int undo() int note(int,long) int fits(int,int) "
        + "int look(int,int) void forget() long years(int,int,int) void image() boolean restore()";
    private static final String[] FORBIDDEN = {
        "->", "::", "\\btry\\b", "\\bcatch\\b", "\\bfinally\\b", "\\bassert\\b", "\\bsynchronized\\b", "Exact\\b", "\\bstatic\\s*\\{",
        "\\bdouble\\b", "\\bfloat\\b", "\\bSystem\\.(?!arraycopy)", "\\bnew Thread\\b", "\\bRandom\\b", "\\bString\\.format\\b", "@",
    };
    private static final Due due = new Due();

    public static void main(String[] args) throws IOException {
        face();
        String code = Files.readString(Path.of("src/main/java/SlopeKeeper.java"));
        String bare = code.replaceAll("(?s)/\\*.*?\\*/", "").replaceAll("//.*", "");
        for (String forbidden : FORBIDDEN) {
            due.same("found: " + forbidden, 0, Pattern.compile(forbidden).matcher(bare).find() ? 1 : 0);
        }
        imports(bare);
        methods(bare);
        due.end();
    }

    private static void face() {
        Set<String> wanted = new TreeSet<>();
        Matcher words = Pattern.compile("\\w+ \\w+\\([^)]*\\)").matcher(FACE);
        while (words.find()) {
            wanted.add(words.group());
        }
        Set<String> found = new TreeSet<>();
        Set<String> publicNames = new TreeSet<>();
        for (Method method : SlopeKeeper.class.getDeclaredMethods()) {
            if (Modifier.isPublic(method.getModifiers())) {
                String types = String.join(",", Arrays.stream(method.getParameterTypes()).map(Class::getName).toList());
                found.add(method.getReturnType().getName() + " " + method.getName() + "(" + types + ")");
                publicNames.add(method.getName());
            }
        }
        due.same("methods " + found, 1, wanted.equals(found) ? 1 : 0);
        due.same("39 promises less the constructor", 38, wanted.size());
        for (Method method : SlopeKeeper.class.getDeclaredMethods()) {
            boolean open = Modifier.isPublic(method.getModifiers());
            due.same("private: " + method, open ? 0 : 1, Modifier.isPrivate(method.getModifiers()) ? 1 : 0);
            due.same("its own name: " + method, open ? 1 : 0, publicNames.contains(method.getName()) ? 1 : 0);
        }
        Arrays.stream(SlopeKeeper.class.getDeclaredFields()).forEach(field -> {
            boolean constant = field.getName().equals("NONE") || field.getName().equals("NOWHERE");
            due.same("field " + field, 1, (constant ? Modifier.isPublic(field.getModifiers()) : Modifier.isPrivate(field.getModifiers())) ? 1 : 0);
            due.same("static and final alike: " + field, 1, !Modifier.isStatic(field.getModifiers()) || Modifier.isFinal(field.getModifiers()) ? 1 : 0);
        });
        due.same("one constructor", 1, SlopeKeeper.class.getDeclaredConstructors().length);
        due.same("final", 1, Modifier.isFinal(SlopeKeeper.class.getModifiers()) ? 1 : 0);
        due.same("at most twelve classes", 1, SlopeKeeper.class.getDeclaredClasses().length <= 11 ? 1 : 0);
        for (Class<?> inside : SlopeKeeper.class.getDeclaredClasses()) {
            due.same("static: " + inside, 1, Modifier.isStatic(inside.getModifiers()) && !Modifier.isPublic(inside.getModifiers()) ? 1 : 0);
            for (Method method : inside.getDeclaredMethods()) {
                due.same("no name of the face: " + method, 0, publicNames.contains(method.getName()) ? 1 : 0);
            }
        }
    }

    private static void imports(String code) {
        Matcher found = Pattern.compile("(?m)^import (.*);").matcher(code);
        while (found.find()) {
            due.same("import " + found.group(1), 1, Set.of("java.util.Arrays", "java.util.NoSuchElementException").contains(found.group(1)) ? 1 : 0);
        }
        due.same("no package", 0, code.contains("package ") ? 1 : 0);
    }

    /** A method's end is the brace that stands as far in as its head. */
    private static void methods(String code) {
        Matcher heads = Pattern.compile("(?m)^( +)((?!if|for|while|switch|else|return|throw|new)[\\w\\[\\]<>]+ )+\\w+\\(([^)]*)\\)[^;{]*\\{\\n").matcher(code);
        int many = 0;
        while (heads.find()) {
            many++;
            int end = code.indexOf("\n" + heads.group(1) + "}", heads.end() - 1);
            String head = heads.group().trim();
            long lines = code.substring(heads.end(), Math.max(end, heads.end())).lines().count();
            due.same(head + " has at most sixty lines, not " + lines, 1, end > 0 && lines <= 60 ? 1 : 0);
            due.same(head + " takes at most seven", 1, heads.group(3).split(",").length <= 7 ? 1 : 0);
        }
        due.same("methods seen: " + many, 1, many > 100 ? 1 : 0);
    }
}
