import java.lang.reflect.Constructor;
import java.lang.reflect.Field;
import java.lang.reflect.Method;
import java.lang.reflect.Modifier;
import java.util.ArrayList;
import java.util.Arrays;
import java.util.Collections;
import java.util.HashSet;
import java.util.List;
import java.util.Set;

/** The public face is the document's and no more (LANGUAGE.md, rules 1 and 5), and so are all classes inside. */
public final class FaceTest {
    private static final String FACE = "feed(int,int,int,int,int)int law(int)int fault()int deck(int)int set(int,int)int "
        + "stay(int,boolean)int shape(int,int,int)int go(int,int,int)int piece(int,int)int push(int,int,int,boolean)int "
        + "grows(int,int,int,int)boolean line(int,int,int)int why(int,int,int,int)int first(int,int,int,int,boolean)int "
        + "where(int,int,int,int,boolean)int slip(int,int,int)int film(int,int,int,int)int barred(int,int,int,int,int,int)int "
        + "mend(int,int,int)int calm(int,int)boolean mended(int,int)int week(int,int)int span(int,int,int,int,boolean)int "
        + "bridge(int)int blows(int,int,int)int hours(int)int paper(int,int,int)int known(int)int could(int)int "
        + "shut(int,int,int,int,int,int)int image()int restore()int count(int)int";
    private static final Due DUE = new Due();

    public static void main(String[] args) {
        Class<?> face = GallopRoads.class;
        DUE.is("public and final", face.getModifiers(), Modifier.PUBLIC | Modifier.FINAL);
        DUE.is("it extends Object alone", face.getSuperclass() == Object.class && face.getInterfaces().length == 0, true);
        methods(face);
        for (Field f : face.getDeclaredFields()) {
            boolean open = !Modifier.isPrivate(f.getModifiers());
            DUE.is("open field " + f, open, f.getName().equals("NONE"));
            if (open) {
                DUE.is("constant " + f, f.getModifiers(), Modifier.PUBLIC | Modifier.STATIC | Modifier.FINAL);
            }
        }
        Constructor<?>[] made = face.getDeclaredConstructors();
        DUE.is("one constructor", made.length == 1 && made[0].getModifiers() == Modifier.PUBLIC
            && made[0].getParameterCount() == 0, true);
        inside(face);
        DUE.end();
    }

    private static void methods(Class<?> face) {
        List<String> open = new ArrayList<>();
        Set<String> names = new HashSet<>();
        for (Method m : face.getDeclaredMethods()) {
            if (!Modifier.isPrivate(m.getModifiers())) {
                List<String> kinds = new ArrayList<>();
                for (Class<?> kind : m.getParameterTypes()) {
                    kinds.add(kind.getName());
                }
                open.add(m.getName() + "(" + String.join(",", kinds) + ")" + m.getReturnType());
                names.add(m.getName());
                DUE.is("open, and no more: " + m.getName(), m.getModifiers(), Modifier.PUBLIC);
            }
        }
        List<String> due = new ArrayList<>(Arrays.asList(FACE.split(" ")));
        Collections.sort(due);
        Collections.sort(open);
        if (!due.equals(open)) {
            DUE.is("the face is " + open + ", due is " + due + ";", false, true);
        }
        for (Method m : face.getDeclaredMethods()) {
            if (Modifier.isPrivate(m.getModifiers())) {
                DUE.is("a private " + m.getName(), names.contains(m.getName()), false);
            }
            DUE.is("parameters of " + m.getName(), m.getParameterCount() <= 7, true);
        }
    }

    private static void inside(Class<?> face) {
        Class<?>[] all = face.getDeclaredClasses();
        DUE.is("classes", all.length <= 11, true);
        for (Class<?> c : all) {
            DUE.is("static and not public: " + c, Modifier.isStatic(c.getModifiers())
                && !Modifier.isPublic(c.getModifiers()) && !Modifier.isProtected(c.getModifiers()), true);
            DUE.is("no classes inside " + c, c.getDeclaredClasses().length, 0);
        }
        List<Class<?>> every = new ArrayList<>(Arrays.asList(all));
        every.add(face);
        for (Class<?> c : every) {
            int fields = 0;
            for (Field f : c.getDeclaredFields()) {
                boolean fixed = Modifier.isStatic(f.getModifiers());
                fields += fixed ? 0 : 1;
                DUE.is("static and not final: " + f, fixed && !Modifier.isFinal(f.getModifiers()), false);
            }
            DUE.is("fields of " + c, fields <= 20, true);
            for (Method m : c.getDeclaredMethods()) {
                DUE.is("parameters of " + m, m.getParameterCount() <= 7, true);
            }
        }
    }
}
