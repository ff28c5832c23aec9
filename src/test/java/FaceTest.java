import java.lang.reflect.Constructor;
import java.lang.reflect.Field;
import java.lang.reflect.Method;
import java.lang.reflect.Modifier;
import java.util.ArrayList;
import java.util.Arrays;
import java.util.List;
import java.util.TreeSet;

/** The public face is the document's, and no more: rule 1 of LANGUAGE.md. */
public final class FaceTest {
    private static final String FACE = "int behind(int,int);int birth(int,int,int);int book(int,int,int);"
            + "int box(int,int,int,int);int chain(int,int);int done();int fault();int forget();int image(int);"
            + "int judge(int);int laws(int);int match(int);int netted(int);int next(int);int note(int,int);"
            + "int only(int,int);int opens(int);int owes(int,int);int restore(int);int rings();int say(int);"
            + "int seen(int,boolean);int share(int,int);int then(int);int told(int);int two();int wipe();"
            + "long chance(int,int,int,int,int)";
    private static final Check CHECK = new Check();

    public static void main(String[] args) throws IllegalAccessException {
        methods();
        constants();
        members();
        CHECK.end();
    }

    private static void methods() {
        TreeSet<String> names = new TreeSet<>();
        for (Method method : NextLife.class.getDeclaredMethods()) {
            if (Modifier.isPublic(method.getModifiers())) {
                List<String> types = new ArrayList<>();
                for (Class<?> type : method.getParameterTypes()) {
                    types.add(type.getName());
                }
                names.add(method.getReturnType() + " " + method.getName() + "(" + String.join(",", types) + ")");
            }
        }
        CHECK.isTrue("public methods " + names, names.equals(new TreeSet<>(Arrays.asList(FACE.split(";")))));
    }

    private static void constants() throws IllegalAccessException {
        CHECK.due("NONE", NextLife.NONE, -6);
        CHECK.due("UNKNOWN", NextLife.UNKNOWN, -1);
        CHECK.due("OUTSIDE", NextLife.OUTSIDE, -2);
        CHECK.due("STATE", NextLife.STATE, -3);
        CHECK.due("FULL", NextLife.FULL, -4);
        CHECK.due("NO", NextLife.NO, -5);
        CHECK.due("LOST", NextLife.LOST, -1000000000000000000L);
        int open = 0;
        for (Field field : NextLife.class.getDeclaredFields()) {
            open += Modifier.isPrivate(field.getModifiers()) ? 0 : 1;
        }
        CHECK.due("public fields", open, 7);
    }

    private static void members() {
        CHECK.isTrue("public and final", Modifier.isPublic(NextLife.class.getModifiers())
                && Modifier.isFinal(NextLife.class.getModifiers()));
        CHECK.due("constructors", NextLife.class.getDeclaredConstructors().length, 1);
        for (Constructor<?> maker : NextLife.class.getDeclaredConstructors()) {
            CHECK.isTrue("public constructor", Modifier.isPublic(maker.getModifiers())
                    && maker.getParameterCount() == 0);
        }
        TreeSet<String> open = new TreeSet<>();
        for (Method method : NextLife.class.getDeclaredMethods()) {
            if (Modifier.isPublic(method.getModifiers())) {
                open.add(method.getName());
            }
        }
        privateNames(NextLife.class, open);
        for (Class<?> inside : NextLife.class.getDeclaredClasses()) {
            CHECK.isTrue("static " + inside, Modifier.isStatic(inside.getModifiers()));
            privateNames(inside, open);
        }
    }

    private static void privateNames(Class<?> type, TreeSet<String> open) {
        for (Method method : type.getDeclaredMethods()) {
            if (!Modifier.isPublic(method.getModifiers())) {
                CHECK.isTrue("private " + method, Modifier.isPrivate(method.getModifiers()));
                CHECK.isTrue("name of " + method, !open.contains(method.getName()));
            }
        }
    }
}
