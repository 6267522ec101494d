import java.lang.reflect.Constructor;
import java.lang.reflect.Field;
import java.lang.reflect.Method;
import java.lang.reflect.Modifier;
import java.util.Set;
import java.util.TreeSet;

/** The public face is the document's, no more and no less. */
public final class FaceTest {
    private static final String[] FACE = {
        "int feed(long)", "int end(int)", "int text()", "int fault()", "int rule(int)", "int figure(int,int)",
        "int vote(int,int)", "int out(int,long)", "long next(int,long)", "long last(int,long)",
        "long often(int,long,long)", "long together(int,int,long)", "long meetings(int,int,long,long)",
        "long all(int,long)", "long cycle(int)", "int crash(int)", "long first(long,int)", "long date(long,int)",
        "long day(int,int)", "int by(int,long)", "int clashes(long,int)", "int stick(int,int,int)",
        "int cut(int,int)", "int turn(int)", "int recut(int,int,int)", "int mend(int)", "int hold(int)",
        "int ask(int,int,int,int,int)", "int see(int,int,boolean)", "int forget(int)", "int error(int)",
        "int wheels(int,int)", "int worn(int)", "int fright(int,long,int)", "int stand(long,int)", "int keep(int)",
        "int back(int)", "int sheet(int,int,int)", "int lay(int,int,int)", "int read(int,int,int,int)",
        "int torn()", "int count(int)",
    };

    public static void main(String[] args) throws Exception {
        Due d = new Due();
        d.due("final", Modifier.isFinal(ClockTeeth.class.getModifiers()) ? 1 : 0, 1);
        Set<String> wanted = new TreeSet<>(Set.of(FACE));
        Set<String> names = new TreeSet<>();
        for (String call : FACE) {
            names.add(call.substring(call.indexOf(' ') + 1, call.indexOf('(')));
        }
        for (Method m : ClockTeeth.class.getDeclaredMethods()) {
            if (m.isSynthetic()) {
                continue;
            }
            if (Modifier.isPublic(m.getModifiers())) {
                d.due("public " + told(m), wanted.remove(told(m)) ? 1 : 0, 1);
                d.due("static " + told(m), Modifier.isStatic(m.getModifiers()) ? 1 : 0, 0);
            } else {
                d.due("private " + told(m), Modifier.isPrivate(m.getModifiers()) ? 1 : 0, 1);
                d.due("name of " + told(m), names.contains(m.getName()) ? 1 : 0, 0);
            }
        }
        d.due("missing " + wanted, wanted.size(), 0);
        int constants = 0;
        for (Field f : ClockTeeth.class.getDeclaredFields()) {
            if (Modifier.isPublic(f.getModifiers())) {
                constants++;
                d.due("constant " + f.getName(), f.getType() == int.class && Modifier.isFinal(f.getModifiers())
                        && Modifier.isStatic(f.getModifiers()) ? 1 : 0, 1);
            } else {
                d.due("private " + f.getName(), Modifier.isPrivate(f.getModifiers()) ? 1 : 0, 1);
            }
        }
        d.due("constants", constants, 4);
        Constructor<?>[] made = ClockTeeth.class.getDeclaredConstructors();
        d.due("constructors", made.length, 1);
        d.due("public constructor", Modifier.isPublic(made[0].getModifiers()) ? made[0].getParameterCount() : -1, 0);
        d.due("BAD", ClockTeeth.BAD, -1);
        d.due("STATE", ClockTeeth.STATE, -2);
        d.due("FULL", ClockTeeth.FULL, -3);
        d.due("NONE", ClockTeeth.NONE, -4);
        d.finish("FaceTest");
    }

    private static String told(Method m) {
        StringBuilder s = new StringBuilder();
        s.append(m.getReturnType().getName()).append(' ').append(m.getName()).append('(');
        for (int i = 0; i < m.getParameterCount(); i++) {
            s.append(i > 0 ? "," : "").append(m.getParameterTypes()[i].getName());
        }
        return s.append(')').toString();
    }
}
