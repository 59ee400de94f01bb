import java.lang.reflect.Constructor;
import java.lang.reflect.Field;
import java.lang.reflect.Method;
import java.lang.reflect.Modifier;
import java.util.ArrayList;
import java.util.Arrays;
import java.util.List;
import java.util.TreeSet;

/** The face of the document: these members are public, and no others. */
public final class FaceTest {
    private static final String IOOBE = "IndexOutOfBoundsException";
    private static final String IAE = "IllegalArgumentException";
    private static final String ISE = "IllegalStateException";

    private static final String[] METHODS = {
        "int draft(int) " + IAE + " " + ISE,
        "int write(int,int) " + IOOBE + " " + ISE,
        "int move(int,int,int) " + IOOBE + " " + ISE,
        "int erase(int,int) " + IOOBE + " " + ISE,
        "int late(int,int) " + IOOBE + " " + IAE,
        "int lose(int) " + IOOBE,
        "int scan(int) " + IOOBE,
        "int room(int,int) " + IOOBE + " " + IAE,
        "boolean pin(int,int,boolean) " + IOOBE,
        "int upload(int,int) " + IOOBE + " " + IAE + " " + ISE,
        "int pull(int) " + IOOBE,
        "int open(int,int) " + IOOBE + " " + ISE,
        "int lock(int,int,int) " + IOOBE + " " + IAE + " " + ISE,
        "int breakLock(int) " + IOOBE + " " + ISE,
        "void share(int,int,int,int) " + IOOBE + " " + IAE,
        "int hold(int,int,int) " + IOOBE + " " + IAE + " " + ISE,
        "int release()",
        "int thin()",
        "int restore(int,int) " + IOOBE + " " + IAE + " " + ISE,
        "int restoreFolder(int,int) " + IOOBE + " " + IAE + " " + ISE,
        "int damage(int) " + IOOBE,
        "int scrub()",
        "int follow(int) " + IAE,
        "int pass(int) " + IAE + " " + ISE,
        "int time()",
        "int stateOf(int,int) " + IOOBE,
        "int folderOf(int,int) " + IOOBE,
        "int numberAt(int,int,int) " + IOOBE,
        "boolean isChanged(int,int) " + IOOBE,
        "int seen(int,int) " + IOOBE,
        "int noted(int) " + IOOBE,
        "int taken(int) " + IOOBE,
        "int versions()",
        "int version(int,int) " + IOOBE + " " + IAE,
        "int asOf(int,int) " + IOOBE + " " + IAE,
        "int lockOf(int) " + IOOBE,
        "int right(int,int) " + IOOBE,
        "int count(int) " + IAE,
        "int lost()",
    };

    private static String told(Method method) {
        List<String> types = new ArrayList<>();
        for (Class<?> type : method.getParameterTypes()) {
            types.add(type.getName());
        }
        StringBuilder text = new StringBuilder();
        text.append(method.getReturnType().getName()).append(' ').append(method.getName());
        text.append('(').append(String.join(",", types)).append(')');
        for (Class<?> thrown : method.getExceptionTypes()) {
            text.append(' ').append(thrown.getSimpleName());
        }
        return text.toString();
    }

    private static void methods() {
        TreeSet<String> due = new TreeSet<>(Arrays.asList(METHODS));
        TreeSet<String> got = new TreeSet<>();
        TreeSet<String> publicNames = new TreeSet<>();
        for (Method method : KeeperHouse.class.getDeclaredMethods()) {
            if (!Modifier.isPrivate(method.getModifiers())) {
                got.add(told(method));
                publicNames.add(method.getName());
                Due.is(method.getName() + " is public", Modifier.isPublic(method.getModifiers()), true);
                Due.is(method.getName() + " is static", Modifier.isStatic(method.getModifiers()), false);
            }
        }
        Due.is("methods as due " + got, got.equals(due), true);
        hidden(KeeperHouse.class, publicNames);
        for (Class<?> inside : KeeperHouse.class.getDeclaredClasses()) {
            hidden(inside, publicNames);
            Due.is(inside + " is private", Modifier.isPrivate(inside.getModifiers()), true);
            Due.is(inside + " is static", Modifier.isStatic(inside.getModifiers()), true);
        }
    }

    private static void hidden(Class<?> where, TreeSet<String> publicNames) {
        for (Method method : where.getDeclaredMethods()) {
            boolean isFace = where == KeeperHouse.class && !Modifier.isPrivate(method.getModifiers());
            Due.is(where + "." + method.getName() + " bears a name of the face",
                    !isFace && publicNames.contains(method.getName()), false);
        }
    }

    private static void constants() throws IllegalAccessException {
        String[] names = {"NONE", "NO_RIGHT", "READ", "WRITE", "ABSENT", "KNOWN", "THERE"};
        int[] values = {-1, 0, 1, 2, 0, 1, 2};
        int found = 0;
        for (Field field : KeeperHouse.class.getDeclaredFields()) {
            if (Modifier.isPrivate(field.getModifiers())) {
                continue;
            }
            found++;
            int place = Arrays.asList(names).indexOf(field.getName());
            Due.is(field + " is of the face", place >= 0, true);
            Due.is(field + " is int", field.getType() == int.class, true);
            Due.is(field + " is a constant", field.getModifiers(),
                    Modifier.PUBLIC | Modifier.STATIC | Modifier.FINAL);
            if (place >= 0) {
                Due.is(field.getName(), field.getInt(null), values[place]);
            }
        }
        Due.is("constants", found, names.length);
    }

    public static void main(String[] args) throws IllegalAccessException {
        Due.is("the class", KeeperHouse.class.getModifiers(), Modifier.PUBLIC | Modifier.FINAL);
        Constructor<?>[] made = KeeperHouse.class.getDeclaredConstructors();
        Due.is("constructors", made.length, 1);
        Due.is("the constructor is public", Modifier.isPublic(made[0].getModifiers()), true);
        Due.is("the constructor's parameters", made[0].getParameterCount(), 0);
        methods();
        constants();
        Due.end("FaceTest");
    }
}
