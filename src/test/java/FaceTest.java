import java.lang.reflect.Constructor;
import java.lang.reflect.Field;
import java.lang.reflect.Method;
import java.lang.reflect.Modifier;
import java.util.Set;
import java.util.TreeSet;

/** The public face: the document's, and nothing else that is not private. */
public final class FaceTest {
    private static final String[] METHODS = {
        "int plane(int,int,int)", "int blank(int,long)", "int put(int,int,int,long)", "int spoil(int,int,int)",
        "int tile(int,int,int,int,int)", "int wipe(int,int,int)", "int shape(int)", "int point(int,int,int)",
        "int move(int,int,int)", "int join(int,int)", "int style(int,int,int)", "int stop(int,int,int)",
        "int glyph(int,long,int)", "int say(int,int)", "int begin(int,int,int,int)", "int paint(int,int,int,int)",
        "int copy(int,int,int,int,int,int,int,int)", "int grade(int,int)", "int mask(int,int,long)", "int undo()",
        "int redo()", "int go(int)", "int halt()", "int done(int)", "long dot(int,int,int)", "double glow(int,int,int)",
        "int sort(int,int,int)", "int size(int,int)", "int row(int,int,int,int)", "int look(int,int)",
        "int at(int,int,int)", "int covered(int,int,int)", "int hit(int,int,int)", "int bounds(int,int)",
        "int colour(int,int,int)", "int copied()", "int compare(int,int,int)", "long digest(int)", "int finding()",
        "int told(int)"};

    public static void main(String[] args) {
        Set<String> due = new TreeSet<>(), got = new TreeSet<>(), names = new TreeSet<>();
        for (String m : METHODS) {
            due.add(m);
            names.add(m.substring(m.indexOf(' ') + 1, m.indexOf('(')));
        }
        int wrong = 0;
        for (Method m : RasterHouse.class.getDeclaredMethods()) {
            if (Modifier.isPublic(m.getModifiers())) got.add(signature(m));
            else if (!Modifier.isPrivate(m.getModifiers()) || names.contains(m.getName())) wrong += tell("method " + m);
        }
        if (!due.equals(got)) wrong += tell("methods " + got);
        Set<String> constants = new TreeSet<>();
        for (Field f : RasterHouse.class.getDeclaredFields()) {
            if (Modifier.isPrivate(f.getModifiers())) continue;
            constants.add(Modifier.toString(f.getModifiers()) + " " + f.getType() + " " + f.getName());
        }
        Set<String> asked = new TreeSet<>();
        for (String c : new String[] {"UNKNOWN", "OUTSIDE", "STATE", "FULL", "NONE"}) asked.add("public static final int " + c);
        if (!asked.equals(constants)) wrong += tell("constants " + constants);
        Constructor<?>[] made = RasterHouse.class.getDeclaredConstructors();
        if (made.length != 1 || !Modifier.isPublic(made[0].getModifiers()) || made[0].getParameterCount() != 0) {
            wrong += tell("constructors");
        }
        if (!Modifier.isFinal(RasterHouse.class.getModifiers())) wrong += tell("the class is not final");
        if (wrong != 0) System.exit(1);
    }

    private static String signature(Method m) {
        StringBuilder b = new StringBuilder(m.getReturnType() + " " + m.getName() + "(");
        for (int i = 0; i < m.getParameterCount(); i++) b.append(i > 0 ? "," : "").append(m.getParameterTypes()[i]);
        return b.append(")").toString();
    }

    private static int tell(String what) {
        System.out.println("not as due: " + what);
        return 1;
    }
}
