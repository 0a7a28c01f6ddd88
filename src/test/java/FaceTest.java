import java.lang.reflect.Constructor;
import java.lang.reflect.Field;
import java.lang.reflect.Method;
import java.lang.reflect.Modifier;
import java.util.Arrays;
import java.util.Set;
import java.util.TreeSet;

/** The class has the document's face and no other member that can be seen from outside. */
public final class FaceTest {
    private static final String[] FACE = {
        "kind 2", "of 3", "change 4", "side 3", "frost 1", "price 3", "value 2", "eaten 2",
        "lay 3", "back 3", "content 1", "does 1", "less 1", "steal 1", "gift 3",
        "nights 1", "now 1", "ahead 2", "struck 0", "empty 0",
        "best 2", "gain 2", "greed 2", "kindFor 2", "temptation 2", "bundle 0",
        "book 2", "fits 2", "greeds 1", "known 1", "season 1", "seed 1",
        "feed 2", "wipe 0", "text 0", "hold 2", "as 2", "sheet 3", "write 3", "copy 5",
        "load 1", "judge 1", "image 0", "undo 0", "tear 0", "count 1", "status 1"};

    public static void main(String[] args) {
        Set<String> open = new TreeSet<>();
        Set<String> openNames = new TreeSet<>();
        for (Method m : HedgeHeaps.class.getDeclaredMethods()) {
            if (!Modifier.isPrivate(m.getModifiers())) {
                boolean ints = m.getReturnType() == int.class
                    && Arrays.stream(m.getParameterTypes()).allMatch(t -> t == int.class);
                Check.holds(m + " is public, of ints", ints && m.getModifiers() == Modifier.PUBLIC);
                open.add(m.getName() + " " + m.getParameterCount());
                openNames.add(m.getName());
            }
        }
        Check.holds("the face is " + open, open.equals(new TreeSet<>(Arrays.asList(FACE))));
        Check.holds("public and final",
            HedgeHeaps.class.getModifiers() == (Modifier.PUBLIC | Modifier.FINAL));
        checkPrivateNames(openNames);
        checkFields();
        Constructor<?>[] made = HedgeHeaps.class.getDeclaredConstructors();
        Check.holds("one public constructor without parameters", made.length == 1
            && Modifier.isPublic(made[0].getModifiers()) && made[0].getParameterCount() == 0);
        Check.end("FaceTest");
    }

    private static void checkPrivateNames(Set<String> openNames) {
        for (Method m : HedgeHeaps.class.getDeclaredMethods()) {
            Check.holds(m + " has a name of its own",
                !Modifier.isPrivate(m.getModifiers()) || !openNames.contains(m.getName()));
        }
        for (Class<?> inside : HedgeHeaps.class.getDeclaredClasses()) {
            Check.holds(inside + " is static", Modifier.isStatic(inside.getModifiers()));
            Check.holds(inside + " isn't open", (inside.getModifiers()
                & (Modifier.PUBLIC | Modifier.PROTECTED)) == 0);
            for (Method m : inside.getDeclaredMethods()) {
                Check.holds(m + " has a name of its own", !openNames.contains(m.getName()));
            }
        }
    }

    private static void checkFields() {
        for (Field f : HedgeHeaps.class.getDeclaredFields()) {
            Check.holds(f + " is private", Modifier.isPrivate(f.getModifiers()));
            Check.holds(f + " is no static state",
                !Modifier.isStatic(f.getModifiers()) || Modifier.isFinal(f.getModifiers()));
        }
    }
}
