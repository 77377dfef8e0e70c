import java.lang.reflect.Constructor;
import java.lang.reflect.Field;
import java.lang.reflect.Method;
import java.lang.reflect.Modifier;
import java.util.Set;
import java.util.TreeSet;

/** The public face, as the document writes it: constants, constructor, methods, and no more. */
public final class FaceTest {
    private static final String METHODS = "factory:3 base:3 price:2 bullion:2 stock:2 person:2 goes:2 feed:2 mail:4"
            + " order:1 letter:2 copy:2 known:2 paper:2 force:1 forced:2 holds:2 ship:2 take:0 load:2 stow:3 sail:2"
            + " lose:1 shipOf:2 voyage:2 recount:3 days:1 entry:2 open:2 accept:1 bill:2 refuse:1 council:5 wants:4"
            + " sale:2 bought:2 shares:3 gain:0 divide:1 holder:2 heard:3 year:3 plan:4 act:3 trace:1 taken:2"
            + " count:1 sheet:3 cell:3 carry:5";

    public static void main(String[] args) throws ReflectiveOperationException {
        Set<String> due = new TreeSet<>(Set.of(METHODS.split(" ")));
        Check.due("promises 2 to 51", due.size(), 50);
        Set<String> found = new TreeSet<>();
        Set<String> names = new TreeSet<>();
        for (Method method : TwoSeas.class.getDeclaredMethods()) {
            if (Modifier.isPublic(method.getModifiers())) {
                found.add(method.getName() + ":" + method.getParameterCount());
                names.add(method.getName());
                Check.holds(method + " answers an int", method.getReturnType() == int.class);
                Check.holds(method + " is of the object", !Modifier.isStatic(method.getModifiers()));
                for (Class<?> type : method.getParameterTypes()) {
                    Check.holds(method + " takes ints", type == int.class);
                }
            }
        }
        Check.holds("the methods are " + due + ", not " + found, due.equals(found));
        for (Method method : TwoSeas.class.getDeclaredMethods()) {
            if (!Modifier.isPublic(method.getModifiers())) {
                boolean made = method.isSynthetic();
                Check.holds(method + " is private", made || Modifier.isPrivate(method.getModifiers()));
                Check.holds(method + " has a name of its own", made || !names.contains(method.getName()));
            }
        }
        constants();
        constructors();
        Check.holds("public", Modifier.isPublic(TwoSeas.class.getModifiers()));
        Check.holds("final", Modifier.isFinal(TwoSeas.class.getModifiers()));
        for (Class<?> inside : TwoSeas.class.getDeclaredClasses()) {
            int modifiers = inside.getModifiers();
            Check.holds(inside + " is static", Modifier.isStatic(modifiers));
            Check.holds(inside + " is not public", !Modifier.isPublic(modifiers) && !Modifier.isProtected(modifiers));
            for (Method method : inside.getDeclaredMethods()) {
                Check.holds(method + " has a name of its own", !names.contains(method.getName()));
            }
            fieldsAreFew(inside);
        }
        fieldsAreFew(TwoSeas.class);
        Check.end();
    }

    private static void constants() throws ReflectiveOperationException {
        int published = 0;
        for (Field field : TwoSeas.class.getDeclaredFields()) {
            if (Modifier.isPublic(field.getModifiers())) {
                published++;
            } else {
                Check.holds(field + " is private", Modifier.isPrivate(field.getModifiers()));
            }
            if (Modifier.isStatic(field.getModifiers())) {
                Check.holds(field + " is final", Modifier.isFinal(field.getModifiers()));
            }
        }
        Check.due("public constants", published, 4);
        String[] names = {"NONE", "BAD", "STATE", "FULL"};
        for (int i = 0; i < names.length; i++) {
            Field field = TwoSeas.class.getDeclaredField(names[i]);
            Check.due(names[i], field.getInt(null), -1 - i);
            Check.holds(names[i] + " is an int", field.getType() == int.class);
        }
    }

    private static void fieldsAreFew(Class<?> owner) {
        int fields = 0;
        for (Field field : owner.getDeclaredFields()) {
            fields += Modifier.isStatic(field.getModifiers()) ? 0 : 1;
        }
        Check.holds(owner + " has twenty fields at most, not " + fields, fields <= 20);
    }

    private static void constructors() {
        Constructor<?>[] all = TwoSeas.class.getDeclaredConstructors();
        Check.due("constructors", all.length, 1);
        Check.due("its parameters", all[0].getParameterCount(), 0);
        Check.holds("it is public", Modifier.isPublic(all[0].getModifiers()));
    }
}
