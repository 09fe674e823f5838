import java.lang.reflect.Constructor;
import java.lang.reflect.Field;
import java.lang.reflect.Member;
import java.lang.reflect.Method;
import java.lang.reflect.Modifier;
import java.nio.file.Files;
import java.nio.file.Path;
import java.util.ArrayList;
import java.util.Arrays;
import java.util.HashSet;
import java.util.List;
import java.util.Set;

/** The face of the class, and those rules of LANGUAGE.md that a look at the class or at its source can tell. */
public final class LanguageTest {
    private static final Path SOURCE = Path.of("src/main/java/ValueNumberer.java");
    private static final String[] FACE = {"feed(int)int", "end(int)int", "text()int", "fault()int", "rule(int)int",
        "block(int,int)int", "pred(int,int)int", "name(int,int)int", "operand(int,int)int", "seen(int,int)int",
        "run(int,int,int,int)long", "value(int)long", "went(int)int", "classes(int)int", "part(int)int",
        "partAt(int,int)int", "leader(int)int", "form(int)int", "number(int)long", "replace()int", "sweep()int",
        "set(int,int,int)int", "alter(int,int)int", "agree(int,int,int,int,int)int", "keep(int)int", "back(int)int",
        "sheet(int,int,int)int", "lay(int,int,int)int", "read(int,int,int,int)int", "torn()int", "count(int)int"};

    public static void main(String[] args) throws Exception {
        constants();
        face();
        insides();
        plainSigns(Files.readString(SOURCE));
        SourceRules.look(SOURCE);
        Check.finish();
    }

    private static void constants() {
        Check.due("BAD", ValueNumberer.BAD, -1);
        Check.due("STATE", ValueNumberer.STATE, -2);
        Check.due("FULL", ValueNumberer.FULL, -3);
        Check.due("NONE", ValueNumberer.NONE, -4);
        Check.due("VOID", ValueNumberer.VOID, 1000000000000L);
        Check.due("NOTHING", ValueNumberer.NOTHING, 2000000000000L);
    }

    private static boolean isPrivate(Member member) {
        return Modifier.isPrivate(member.getModifiers());
    }

    private static String told(Method m) {
        StringBuilder types = new StringBuilder();
        for (Class<?> type : m.getParameterTypes()) types.append(types.length() == 0 ? "" : ",").append(type);
        return m.getName() + "(" + types + ")" + m.getReturnType();
    }

    private static void face() {
        Set<String> want = new HashSet<>(Arrays.asList(FACE));
        Set<String> got = new HashSet<>();
        for (Method m : ValueNumberer.class.getDeclaredMethods()) {
            if (!isPrivate(m)) got.add(told(m));
        }
        Check.due("methods " + got, got.equals(want) ? 1 : 0, 1);
        int fields = 0;
        for (Field f : ValueNumberer.class.getDeclaredFields()) {
            if (isPrivate(f)) continue;
            fields++;
            Check.due("constant " + f, f.getModifiers(), Modifier.PUBLIC | Modifier.STATIC | Modifier.FINAL);
        }
        Check.due("constants", fields, 6);
        Constructor<?>[] made = ValueNumberer.class.getDeclaredConstructors();
        Check.due("constructors", made.length, 1);
        Check.due("the constructor is public", made[0].getModifiers(), Modifier.PUBLIC);
        Check.due("the class", ValueNumberer.class.getModifiers(), Modifier.PUBLIC | Modifier.FINAL);
    }

    private static void insides() {
        Set<String> publicNames = new HashSet<>();
        for (String method : FACE) publicNames.add(method.substring(0, method.indexOf('(')));
        List<Class<?>> all = new ArrayList<>(Arrays.asList(ValueNumberer.class.getDeclaredClasses()));
        Check.due("classes are some twelve at most", all.size() <= 12 ? 1 : 0, 1);
        for (Class<?> c : all) {
            Check.due("static " + c, Modifier.isStatic(c.getModifiers()) ? 1 : 0, 1);
            Check.due("not public " + c, c.getModifiers() & (Modifier.PUBLIC | Modifier.PROTECTED), 0);
            for (Method m : c.getDeclaredMethods()) {
                Check.due("no name of the face " + m, publicNames.contains(m.getName()) ? 1 : 0, 0);
            }
        }
        all.add(ValueNumberer.class);
        for (Class<?> c : all) {
            int fields = 0;
            for (Field f : c.getDeclaredFields()) {
                if (Modifier.isStatic(f.getModifiers())) Check.due("final " + f, Modifier.isFinal(f.getModifiers()) ? 1 : 0, 1);
                else fields++;
            }
            Check.due("fields of " + c, fields <= 20 ? 1 : 0, 1);
            for (Method m : c.getDeclaredMethods()) {
                Check.due("parameters of " + m, m.getParameterCount() <= 7 ? 1 : 0, 1);
            }
        }
    }

    private static void plainSigns(String source) {
        for (int i = 0; i < source.length(); i++) {
            if (source.charAt(i) > 126) Check.due("sign at " + i, source.charAt(i), 0);
        }
    }
}
