import java.lang.reflect.Constructor;
import java.lang.reflect.Method;
import java.lang.reflect.Modifier;
import java.util.ArrayList;
import java.util.Arrays;
import java.util.List;
import java.util.TreeSet;

/** The class shows the document's face, with the exceptions it names, and no other member. */
public final class FaceTest {
    private static final String[] FACE = {
        "public int RoofWater.setWeather(int,int,int) throws IndexOutOfBoundsException,IllegalArgumentException",
        "public int RoofWater.build(int,int,int,int) throws IllegalArgumentException,IllegalStateException",
        "public int RoofWater.chain(int,int) throws IndexOutOfBoundsException,IllegalArgumentException,IllegalStateException",
        "public int RoofWater.lay(int,int,int) throws IndexOutOfBoundsException,IllegalArgumentException,IllegalStateException",
        "public boolean RoofWater.turn(int,boolean) throws IndexOutOfBoundsException",
        "public int RoofWater.clean(int) throws IndexOutOfBoundsException",
        "public int RoofWater.cart(int,int) throws IndexOutOfBoundsException,IllegalArgumentException",
        "public int RoofWater.setPeople(int,int) throws IndexOutOfBoundsException,IllegalArgumentException",
        "public int RoofWater.house(int,int) throws IndexOutOfBoundsException",
        "public int RoofWater.pipe(int,int) throws IndexOutOfBoundsException",
        "public int RoofWater.owes(int,int) throws IndexOutOfBoundsException",
        "public int RoofWater.pass(int) throws IllegalArgumentException",
        "public int RoofWater.count(int) throws IndexOutOfBoundsException",
        "public int RoofWater.foresee(int,int) throws IllegalArgumentException,IndexOutOfBoundsException",
        "public int RoofWater.lasts(int) throws IndexOutOfBoundsException",
        "public int RoofWater.needs(int,int) throws IndexOutOfBoundsException,IllegalArgumentException",
        "public int RoofWater.dirty(int) throws IllegalArgumentException",
        "public int RoofWater.advise(int) throws IllegalArgumentException",
        "public int RoofWater.drought()",
        "public double RoofWater.full()",
        "public long RoofWater.digest()",
    };

    public static void main(String[] args) {
        List<String> wrong = new ArrayList<>();
        TreeSet<String> shown = new TreeSet<>();
        TreeSet<String> publicNames = new TreeSet<>();
        for (Method m : RoofWater.class.getDeclaredMethods()) {
            if (!Modifier.isPrivate(m.getModifiers()) && !m.isSynthetic()) {
                shown.add(m.toString().replace("java.lang.", ""));
                publicNames.add(m.getName());
            }
        }
        TreeSet<String> due = new TreeSet<>(Arrays.asList(FACE));
        for (String s : due) {
            if (!shown.contains(s)) {
                wrong.add("missing: " + s);
            }
        }
        for (String s : shown) {
            if (!due.contains(s)) {
                wrong.add("not in the document: " + s);
            }
        }
        checkHidden(wrong, publicNames);
        for (String s : wrong) {
            System.out.println(s);
        }
        System.exit(wrong.isEmpty() ? 0 : 1);
    }

    private static void checkHidden(List<String> wrong, TreeSet<String> publicNames) {
        Constructor<?>[] made = RoofWater.class.getDeclaredConstructors();
        if (made.length != 1 || !Modifier.isPublic(made[0].getModifiers()) || made[0].getParameterCount() != 0) {
            wrong.add("the constructor is not the document's");
        }
        if (!Modifier.isFinal(RoofWater.class.getModifiers())) {
            wrong.add("the class is not final");
        }
        for (java.lang.reflect.Field f : RoofWater.class.getDeclaredFields()) {
            if (!Modifier.isPrivate(f.getModifiers())) {
                wrong.add("field not private: " + f);
            }
        }
        for (Method m : RoofWater.class.getDeclaredMethods()) {
            if (Modifier.isPrivate(m.getModifiers()) && publicNames.contains(m.getName())) {
                wrong.add("private method with a public one's name: " + m);
            }
        }
    }
}
