import java.lang.reflect.Constructor;
import java.lang.reflect.Field;
import java.lang.reflect.Method;
import java.lang.reflect.Modifier;
import java.util.Arrays;
import java.util.Set;
import java.util.TreeSet;
import java.util.stream.Collectors;

/** The public face, as the document tells it, and that nothing else is to be seen. */
final class FaceTest {
    private static final String FACE = "count(int) set(int,int) feed(int,int,int,int,int,int) text() force(int) "
        + "asks(int,int,int,int) buy(int,int) told(int,int) put(int,int,int) lies(int) turn(int) next() pileUp(int) "
        + "live() run(int,int) then(int,int,int) cost(int) rules(int,int) which(int) when(int,int,int) enough(int) "
        + "feast(int,int,int) laundry(int) judge(int,int) rulesOf(int,int) kinds(int,int,int) wants(int,int,int) "
        + "weeks(int,int) laws(int,int) film(int,int) drawn(int,int,int) odds(int,int,int,int) image() back() "
        + "sheet(int,int,int) cell(int,int,int) copy(int,int,int,int,int) buyBy(int,int,int,int) taken(int,int)";

    private FaceTest() {
    }

    static void tests() {
        Tally.due("NONE", AlwaysTheTopTwo.NONE, -1);
        Tally.due("BAD", AlwaysTheTopTwo.BAD, -2);
        Tally.due("STATE", AlwaysTheTopTwo.STATE, -3);
        Tally.due("FULL", AlwaysTheTopTwo.FULL, -4);
        Tally.due("NO", AlwaysTheTopTwo.NO, -4611686018427387904L);
        Set<String> seen = new TreeSet<>();
        Set<String> names = new TreeSet<>();
        for (Method m : AlwaysTheTopTwo.class.getDeclaredMethods()) {
            if (Modifier.isPublic(m.getModifiers())) {
                seen.add(m.getName() + Arrays.stream(m.getParameterTypes()).map(Class::getName)
                    .collect(Collectors.joining(",", "(", ")")));
                names.add(m.getName());
                Tally.holds("what " + m.getName() + " answers", m.getReturnType()
                    == (m.getName().equals("odds") ? long.class : int.class) && !Modifier.isStatic(m.getModifiers()));
            }
        }
        Tally.holds("the methods are " + seen, seen.equals(new TreeSet<>(Arrays.asList(FACE.split(" ")))));
        seen.clear();
        for (Field f : AlwaysTheTopTwo.class.getDeclaredFields()) {
            if (!Modifier.isPrivate(f.getModifiers())) {
                seen.add(f.getName());
            }
        }
        Tally.holds("the constants are " + seen, seen.equals(Set.of("NONE", "BAD", "STATE", "FULL", "NO")));
        Constructor<?>[] made = AlwaysTheTopTwo.class.getDeclaredConstructors();
        Tally.holds("one constructor", made.length == 1 && Modifier.isPublic(made[0].getModifiers())
            && made[0].getParameterCount() == 0);
        Tally.holds("the class", Modifier.isFinal(AlwaysTheTopTwo.class.getModifiers())
            && Modifier.isPublic(AlwaysTheTopTwo.class.getModifiers()));
        inside(names);
    }

    private static void inside(Set<String> names) {
        for (Method m : AlwaysTheTopTwo.class.getDeclaredMethods()) {
            Tally.holds("not to be seen, or of the face: " + m.getName(),
                Modifier.isPrivate(m.getModifiers()) != names.contains(m.getName()));
        }
        for (Class<?> c : AlwaysTheTopTwo.class.getDeclaredClasses()) {
            Tally.holds("static: " + c.getName(), Modifier.isStatic(c.getModifiers())
                && !Modifier.isPublic(c.getModifiers()) && !Modifier.isProtected(c.getModifiers()));
            for (Method m : c.getDeclaredMethods()) {
                Tally.holds("no name of the face: " + m.getName(), !names.contains(m.getName()));
            }
        }
    }
}
