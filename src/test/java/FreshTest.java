import java.io.IOException;
import java.lang.reflect.Constructor;
import java.lang.reflect.Field;
import java.lang.reflect.Method;
import java.lang.reflect.Modifier;
import java.util.Arrays;
import java.util.TreeSet;
import java.util.stream.Collectors;

/** The public face and promise 1: a new object. */
public final class FreshTest {
    public static void main(String[] args) throws IOException {
        face();
        newObject();
        objectsAreApart();
        Check.finish();
    }

    private static void face() throws IOException {
        TreeSet<String> wanted = new TreeSet<>();
        for (Face.Call call : Face.calls()) {
            // the compiled class does not tell the names of parameters
            wanted.add(call.signature().replaceAll("(int|long) \\w+(?=[,)])", "$1").replace(", ", ",")
                    + " throws " + call.exceptions());
        }
        TreeSet<String> found = new TreeSet<>();
        TreeSet<String> privateNames = new TreeSet<>();
        TreeSet<String> publicNames = new TreeSet<>();
        for (Method m : ImpactPlate.class.getDeclaredMethods()) {
            if (Modifier.isPrivate(m.getModifiers())) {
                privateNames.add(m.getName());
            } else if (!m.isSynthetic()) {
                publicNames.add(m.getName());
                found.add(m.getReturnType().getName() + " " + m.getName() + "(" + namesOf(m.getParameterTypes(), ",")
                        + ") throws [" + namesOf(m.getExceptionTypes(), ", ") + "]");
            }
        }
        Check.due("the methods of the face", found.toString(), wanted.toString());
        privateNames.retainAll(publicNames);
        Check.due("private methods with a public one's name", privateNames.toString(), "[]");
        for (Constructor<?> c : ImpactPlate.class.getDeclaredConstructors()) {
            Check.due("parameters of the constructor", c.getParameterCount(), 0);
        }
        for (Field f : ImpactPlate.class.getDeclaredFields()) {
            boolean isConstant = f.getName().equals("NONE");
            Check.due(f.getName() + " is public", Modifier.isPublic(f.getModifiers()) ? 1 : 0, isConstant ? 1 : 0);
            Check.due(f.getName() + " is private", Modifier.isPrivate(f.getModifiers()) ? 1 : 0, isConstant ? 0 : 1);
        }
        Check.due("the class is public and final",
                ImpactPlate.class.getModifiers() & (Modifier.PUBLIC | Modifier.FINAL),
                Modifier.PUBLIC | Modifier.FINAL);
        Check.due("NONE", ImpactPlate.NONE, -9);
    }

    private static String namesOf(Class<?>[] kinds, String between) {
        return Arrays.stream(kinds).map(Class::getSimpleName).collect(Collectors.joining(between));
    }

    private static void newObject() {
        ImpactPlate x = new ImpactPlate();
        for (int what = 0; what <= 11; what++) {
            Check.due("about(" + what + ")", x.about(what), 0);
        }
        int[] settings = {0, 3, 4, 20, 3000};
        for (int what = 0; what <= 4; what++) {
            Check.due("setting(" + what + ")", x.setting(what), settings[what]);
        }
        int[] lower = {0, 100, 225, 400, 900, 1600, 2500, 3600};
        int[] upper = {99, 224, 399, 899, 1599, 2499, 3599, 5000};
        for (int k = 0; k <= 7; k++) {
            Check.due("bin(" + k + ", 0)", x.bin(k, 0), lower[k]);
            Check.due("bin(" + k + ", 1)", x.bin(k, 1), upper[k]);
            for (int what = 2; what <= 4; what++) {
                Check.due("bin(" + k + ", " + what + ")", x.bin(k, what), 0);
            }
        }
        for (int what = 0; what <= 3; what++) {
            Check.due("pulse(" + what + ")", x.pulse(what), -9);
            Check.due("longest(" + what + ")", x.longest(what), 0);
        }
        Check.due("fate(0)", x.fate(0), -9);
        Check.due("pattern(1, 0)", x.pattern(1, 0), 0);
        for (int law = 0; law <= 2; law++) {
            Check.due("rain", x.rain(law), 0);
            Check.due("bestWindow", x.bestWindow(law), 0);
        }
        Check.due("trueRain()", x.trueRain(), 0);
        Check.due("errorPosition()", x.errorPosition(), 0);
        Check.due("clearText()", x.clearText(), 0);
        Check.due("quietIn(0)", x.quietIn(0), 0);
        Check.dueThrow("undo()", IllegalStateException.class, x::undo);
        Check.dueThrow("load()", IllegalStateException.class, x::load);
        for (int slot = 0; slot <= 1; slot++) {
            int s = slot;
            Check.dueThrow("restore", IllegalStateException.class, () -> x.restore(s));
        }
    }

    private static void objectsAreApart() {
        ImpactPlate x = new ImpactPlate();
        x.drop(3, 30);
        x.set(0, 5);
        x.setBorder(1, 7);
        x.append(80);
        x.save(0);
        ImpactPlate y = new ImpactPlate();
        Check.due("about(0) of another object", y.about(0), 0);
        Check.due("setting(0) of another object", y.setting(0), 0);
        Check.due("bin(1, 0) of another object", y.bin(1, 0), 100);
        Check.due("clearText() of another object", y.clearText(), 0);
        Check.dueThrow("restore(0) of another object", IllegalStateException.class, () -> y.restore(0));
        Check.due("a drop of the other object", Arrays.asList(y.drop(0, 30), y.about(1)).toString(), "[0, 1]");
    }
}
