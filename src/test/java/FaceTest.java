import java.lang.reflect.Constructor;
import java.lang.reflect.Field;
import java.lang.reflect.Method;
import java.lang.reflect.Modifier;
import java.util.Set;
import java.util.TreeSet;

/** The public face, and the first rule of LANGUAGE.md: nothing else is to be seen of the class. */
final class FaceTest {
    private static final Check CHECK = new Check("FaceTest");
    private static final String[] METHODS = {
        "int create()", "int open(int)", "int close(int)", "int remove(int)", "int sync(int)",
        "int append(int,int,int)", "int cut(int,int)", "int crash()", "int mend()", "int set(int,int)",
        "int type(int)", "int clearText()", "int fault()", "int perform()", "int undo()", "int save()",
        "int restore()", "int block(int,int)", "int file(int,int)", "int extent(int,int,int)", "int run(int,int)",
        "int read(int,int,int,int)", "int count(int)", "int total(int)", "int ifAppended(int,int,int)",
        "int room(int)", "double wholeness()"};

    private static void holds(String what, boolean fact) {
        CHECK.due(what, 1, fact ? 1 : 0);
    }

    public static void main(String[] args) {
        constants();
        theClass();
        methods();
        classesInside();
        CHECK.end();
    }

    private static void constants() {
        CHECK.due("NO_SUCH", -1, LendingDisk.NO_SUCH);
        CHECK.due("BAD_VALUE", -2, LendingDisk.BAD_VALUE);
        CHECK.due("TOO_MANY", -3, LendingDisk.TOO_MANY);
        CHECK.due("NOT_POSSIBLE", -4, LendingDisk.NOT_POSSIBLE);
        CHECK.due("NONE", -5, LendingDisk.NONE);
        CHECK.due("MOST", 0, LendingDisk.MOST);
        CHECK.due("POLICY", 1, LendingDisk.POLICY);
        Set<String> names = new TreeSet<>();
        for (Field field : LendingDisk.class.getDeclaredFields()) {
            int kind = field.getModifiers();
            if (Modifier.isPublic(kind)) {
                names.add(field.getName());
                holds(field + " is a constant", Modifier.isStatic(kind) && Modifier.isFinal(kind));
            } else {
                holds(field + " is private", Modifier.isPrivate(kind));
            }
            holds(field + " is final if static", !Modifier.isStatic(kind) || Modifier.isFinal(kind));
        }
        holds("the constants " + names,
            names.equals(Set.of("NO_SUCH", "BAD_VALUE", "TOO_MANY", "NOT_POSSIBLE", "NONE", "MOST", "POLICY")));
    }

    private static void theClass() {
        int kind = LendingDisk.class.getModifiers();
        holds("public and final", Modifier.isPublic(kind) && Modifier.isFinal(kind));
        holds("no class above", LendingDisk.class.getSuperclass() == Object.class);
        holds("no interface", LendingDisk.class.getInterfaces().length == 0);
        Constructor<?>[] constructors = LendingDisk.class.getDeclaredConstructors();
        CHECK.due("constructors", 1, constructors.length);
        holds("a public one", Modifier.isPublic(constructors[0].getModifiers()));
        CHECK.due("parameters", 0, constructors[0].getParameterCount());
    }

    private static void methods() {
        Set<String> open = new TreeSet<>();
        Set<String> openNames = new TreeSet<>();
        for (Method method : LendingDisk.class.getDeclaredMethods()) {
            if (Modifier.isPublic(method.getModifiers())) {
                String whole = method.toGenericString();
                String from = whole.substring("public ".length()).replace("LendingDisk.", "");
                open.add(from);
                openNames.add(method.getName());
            }
        }
        holds("the methods " + open, open.equals(Set.of(METHODS)));
        for (Method method : LendingDisk.class.getDeclaredMethods()) {
            if (!Modifier.isPublic(method.getModifiers())) {
                holds(method + " is private", Modifier.isPrivate(method.getModifiers()));
                holds(method + " has a name of its own", !openNames.contains(method.getName()));
            }
        }
        for (Class<?> inside : LendingDisk.class.getDeclaredClasses()) {
            for (Method method : inside.getDeclaredMethods()) {
                holds(method + " has a name of its own", !openNames.contains(method.getName()));
            }
        }
    }

    private static void classesInside() {
        for (Class<?> inside : LendingDisk.class.getDeclaredClasses()) {
            int kind = inside.getModifiers();
            holds(inside + " is not open", !Modifier.isPublic(kind) && !Modifier.isProtected(kind));
            holds(inside + " is static", Modifier.isStatic(kind));
            for (Field field : inside.getDeclaredFields()) {
                holds(field + " is final if static",
                    !Modifier.isStatic(field.getModifiers()) || Modifier.isFinal(field.getModifiers()));
            }
        }
        holds("some twelve classes at most", LendingDisk.class.getDeclaredClasses().length <= 12);
    }
}
