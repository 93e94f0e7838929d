import java.io.IOException;
import java.lang.reflect.Constructor;
import java.lang.reflect.Field;
import java.lang.reflect.Method;
import java.lang.reflect.Modifier;
import java.nio.file.Files;
import java.nio.file.Path;
import java.util.Arrays;
import java.util.HashSet;
import java.util.Set;
import java.util.TreeSet;
import java.util.regex.Matcher;
import java.util.regex.Pattern;

/** The class has the document's face and no more, and its source has no word that LANGUAGE.md leaves out. */
public final class FaceTest {
    private static final String[] FACE = {
        "int shape(int,int)", "int of(int,int)", "int cut(int,int)", "int tear(int,boolean)",
        "int become(int,int)", "int as(int,int)", "int thrown(int,int)", "long shadow(int,int)",
        "int hold(int,int)", "int move(int,int)", "int drop(int)", "int held(int,int)",
        "long dark()", "long single()", "int spare()", "int scene(long)", "int draw(int)",
        "long picture(int)", "int off(int)", "int changes(int,int)", "int allow(int)",
        "int nearest(int,int,int)", "int best(int)", "int play(int)", "int fits(int,int)",
        "int taken(int,int)", "int seen()", "int order(int)", "int closest()", "int harmless()",
        "int feed(int,int)", "int wipe()", "int text()", "int sheet(int,int,int)",
        "long write(int,int,long)", "int copy(int,int,int,int,int)", "int lays(int)", "int film(int)",
        "int read(int)", "int image()", "int undo()", "int forget()", "int count(int)", "int status(int)",
    };
    private static int wrong = 0;

    private static void must(boolean is, String what) {
        if (!is) {
            wrong++;
            System.out.println(what);
        }
    }

    private static String signature(Method m) {
        StringBuilder b = new StringBuilder(m.getReturnType() + " " + m.getName() + "(");
        Class<?>[] types = m.getParameterTypes();
        for (int i = 0; i < types.length; i++) {
            b.append(i == 0 ? "" : ",").append(types[i]);
        }
        return b.append(")").toString();
    }

    private static void members() {
        Class<?> c = LampShapes.class;
        must(Modifier.isPublic(c.getModifiers()) && Modifier.isFinal(c.getModifiers()), "the class is public and final");
        Set<String> due = new TreeSet<>(Arrays.asList(FACE));
        Set<String> names = new HashSet<>();
        Set<String> found = new TreeSet<>();
        for (Method m : c.getDeclaredMethods()) {
            if (!Modifier.isPrivate(m.getModifiers())) {
                found.add(signature(m));
                names.add(m.getName());
                must(Modifier.isPublic(m.getModifiers()) && !Modifier.isStatic(m.getModifiers()), "not public: " + m);
            }
        }
        must(due.equals(found), "the face is " + found + ", due is " + due);
        for (Constructor<?> k : c.getDeclaredConstructors()) {
            must(Modifier.isPublic(k.getModifiers()) && k.getParameterCount() == 0, "a constructor too many: " + k);
        }
        for (Field f : c.getDeclaredFields()) {
            must(Modifier.isPrivate(f.getModifiers()), "not private: " + f);
        }
        privateNames(c, names);
        for (Class<?> inner : c.getDeclaredClasses()) {
            must(Modifier.isStatic(inner.getModifiers()) && !Modifier.isPublic(inner.getModifiers()), "not static: " + inner);
            for (Method m : inner.getDeclaredMethods()) {
                must(!names.contains(m.getName()), "bears the name of a public one: " + m);
                must(m.getParameterCount() <= 7, "too many parameters: " + m);
            }
        }
    }

    private static void privateNames(Class<?> c, Set<String> names) {
        for (Method m : c.getDeclaredMethods()) {
            if (Modifier.isPrivate(m.getModifiers())) {
                must(!names.contains(m.getName()), "bears the name of a public one: " + m);
            }
        }
    }

    private static void fields() {
        for (Class<?> inner : LampShapes.class.getDeclaredClasses()) {
            staticsAreFinal(inner);
        }
        staticsAreFinal(LampShapes.class);
    }

    private static void staticsAreFinal(Class<?> c) {
        int own = 0;
        for (Field f : c.getDeclaredFields()) {
            if (Modifier.isStatic(f.getModifiers())) {
                must(Modifier.isFinal(f.getModifiers()), "static and not final: " + f);
            } else {
                own++;
            }
        }
        must(own <= 20, "too many fields: " + c);
    }

    private static void words() throws IOException {
        String source = Files.readString(Path.of("src/main/java/LampShapes.java"));
        String code = source.replaceAll("(?s)/\\*.*?\\*/", "").replaceAll("//[^\n]*", "").replaceAll("\"[^\"\n]*\"", "\"\"");
        Matcher m = Pattern.compile("\\b(throw|throws|try|catch|finally|synchronized|assert|import|package|double|float|"
            + "equals|hashCode|toString|System\\.(?!arraycopy)\\w+|\\w+Exact|volatile|native|var|yield)\\b|->|::|@").matcher(code);
        while (m.find()) {
            must(false, "left out by LANGUAGE.md: " + m.group());
        }
        for (int i = 0; i < source.length(); i++) {
            must(source.charAt(i) < 128, "a sign beyond 127 at " + i);
        }
    }

    public static void main(String[] args) throws IOException {
        members();
        fields();
        words();
        System.out.println(wrong == 0 ? "the face is as due" : wrong + " faults");
        if (wrong != 0) {
            System.exit(1);
        }
    }
}
