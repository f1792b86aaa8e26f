import java.lang.reflect.Constructor;
import java.lang.reflect.Field;
import java.lang.reflect.Method;
import java.lang.reflect.Modifier;
import java.util.Set;
import java.util.TreeSet;

/** Promise 1, and the public face. */
public final class NewObjectTest {
    public static void main(String[] args) {
        constants();
        membersOfTheFace();
        allIsNone();
        objectsShareNothing();
        Due.end();
    }

    private static void constants() {
        Due.is("NONE", CycleShop.NONE, -1);
        Due.is("BAD", CycleShop.BAD, -2);
        Due.is("FULL", CycleShop.FULL, -3);
    }

    private static void membersOfTheFace() {
        Set<String> face = new TreeSet<>();
        Set<String> names = new TreeSet<>();
        Set<String> hidden = new TreeSet<>();
        for (Method method : CycleShop.class.getDeclaredMethods()) {
            if (Modifier.isPrivate(method.getModifiers())) {
                hidden.add(method.getName());
            } else {
                face.add(method.toString());
                names.add(method.getName());
            }
        }
        Due.is("the face's methods " + face, face.equals(dueMethods()) ? 1 : 0, 1);
        hidden.retainAll(names);
        Due.is("private methods with a public name " + hidden, hidden.size(), 0);

        Set<String> constants = new TreeSet<>();
        for (Field field : CycleShop.class.getDeclaredFields()) {
            if (!Modifier.isPrivate(field.getModifiers())) {
                constants.add(field.toString());
            }
        }
        Set<String> dueConstants = new TreeSet<>();
        for (String name : new String[] {"NONE", "BAD", "FULL"}) {
            dueConstants.add("public static final int CycleShop." + name);
        }
        Due.is("the face's constants " + constants, constants.equals(dueConstants) ? 1 : 0, 1);

        Constructor<?>[] constructors = CycleShop.class.getDeclaredConstructors();
        Due.is("constructors", constructors.length, 1);
        Due.is("the constructor " + constructors[0], constructors[0].toString().equals("public CycleShop()") ? 1 : 0, 1);
        Due.is("public and final", CycleShop.class.getModifiers(), Modifier.PUBLIC | Modifier.FINAL);
    }

    private static Set<String> dueMethods() {
        Set<String> due = new TreeSet<>();
        for (String method : new String[] {"long CycleShop.act(int,int,int,int)", "int CycleShop.step(int,int,int,int,int,int)",
            "int CycleShop.clear(int)", "int CycleShop.run(int,int)", "int CycleShop.told(int)", "long CycleShop.sum()",
            "int CycleShop.tally(int)", "int CycleShop.stand(int,int)", "int CycleShop.basket(int,int)",
            "int CycleShop.rack(int,int)", "int CycleShop.grid(int,int,int)"}) {
            due.add("public " + method);
        }
        return due;
    }

    private static void allIsNone() {
        CycleShop shop = new CycleShop();
        Due.told(shop, 0, 0, 0, CycleShop.NONE, 0);
        Due.is("sum()", shop.sum(), 0);
        for (int reason = 1; reason <= 7; reason++) {
            Due.is("tally(" + reason + ")", shop.tally(reason), 0);
        }
        for (int a = 0; a < 4; a++) {
            Due.stand(shop, a, 0, 0, 0, 0, 0, 0, 0, 0);
            Due.is("basket", shop.basket(a, 0), 0);
            Due.is("rack", shop.rack(a, 0), Due.LEAST);
            Due.is("grid", shop.grid(a, 0, 0), 0);
            for (int b = 0; b < 4; b++) {
                Due.fails(shop, 10, a, b, 0, Due.NOTHING);
            }
            Due.fails(shop, 16, a, 1, 0, Due.NOTHING);
            Due.is("clear(" + a + ")", shop.clear(a), 0);
            Due.is("run(" + a + ", 0)", shop.run(a, 0), 0);
        }
    }

    private static void objectsShareNothing() {
        CycleShop first = new CycleShop();
        CycleShop second = new CycleShop();
        Due.act(first, 0, 0, 5, 0, 5);
        Due.act(first, 7, 0, 2, 0, 2);
        Due.fails(first, 3, 0, 0, 0, Due.NOTHING);
        Due.step(first, 0, new int[] {1, 0, 0, 0}, -1, 0);
        Due.stand(second, 0, 0, 0);
        Due.fails(second, 10, 0, 0, 0, Due.NOTHING);
        Due.is("tally(1)", second.tally(1), 1);
        Due.is("clear(0)", second.clear(0), 0);
    }
}
