import java.lang.reflect.Constructor;
import java.lang.reflect.Field;
import java.lang.reflect.Method;
import java.lang.reflect.Modifier;
import java.util.List;
import java.util.TreeSet;

/** The face of the class, and promise 1. */
final class FaceTest {
    private static final String[] METHODS = {
        "int allow(int,int) IndexOutOfBoundsException IllegalArgumentException",
        "int setImage(int,int) IndexOutOfBoundsException IllegalArgumentException",
        "int setDelta(int,int,int) IndexOutOfBoundsException IllegalArgumentException",
        "int size(int,int) IndexOutOfBoundsException",
        "int sizeByWays(int,int) IndexOutOfBoundsException",
        "int addDevice(int,int) IndexOutOfBoundsException IllegalStateException",
        "int charge(int,int) IndexOutOfBoundsException IllegalArgumentException",
        "void setWindow(int,int,int) IndexOutOfBoundsException IllegalArgumentException",
        "int report(int,boolean) IndexOutOfBoundsException IllegalStateException",
        "int devices()",
        "int state(int) IndexOutOfBoundsException",
        "int version(int) IndexOutOfBoundsException",
        "int campaignOf(int) IndexOutOfBoundsException",
        "int toGo(int) IndexOutOfBoundsException",
        "int battery(int) IndexOutOfBoundsException",
        "int begin(int,int,int,int) IndexOutOfBoundsException IllegalArgumentException IllegalStateException",
        "void setRules(int,int,int,int,int) IndexOutOfBoundsException IllegalArgumentException",
        "boolean toggle(int) IndexOutOfBoundsException",
        "boolean isActive(int) IndexOutOfBoundsException",
        "int ring(int) IndexOutOfBoundsException",
        "int reports(int) IndexOutOfBoundsException",
        "int eligible(int) IndexOutOfBoundsException",
        "int pass(int) IllegalArgumentException",
    };

    private FaceTest() {
    }

    static void run() {
        Check.test("face: the methods are the document's, and no other one can be seen", FaceTest::methods);
        Check.test("face: the constants are the document's, and no other field can be seen", FaceTest::constants);
        Check.test("face: the class and what stands inside it", FaceTest::classes);
        Check.test("promise 1: a new object has no devices and no campaigns", FaceTest::newObject);
        Check.test("promise 1: a new object has no sizes, and its clock begins with 0", FaceTest::newState);
        Check.test("promise 1: two objects share nothing", FaceTest::twoObjects);
    }

    private static void methods() {
        TreeSet<String> due = new TreeSet<>();
        for (String method : METHODS) {
            due.add(method);
        }
        TreeSet<String> got = new TreeSet<>();
        TreeSet<String> seen = new TreeSet<>();
        for (Method method : Ringroll.class.getDeclaredMethods()) {
            if (!Modifier.isPrivate(method.getModifiers()) && !method.isSynthetic()) {
                got.add(told(method));
                seen.add(method.getName());
                Check.same("modifiers of " + method.getName(), Modifier.PUBLIC, method.getModifiers());
            }
        }
        Check.same("the methods", due, got);
        for (Method method : Ringroll.class.getDeclaredMethods()) {
            if (Modifier.isPrivate(method.getModifiers())) {
                Check.no("a private method named " + method.getName(), seen.contains(method.getName()));
            }
        }
    }

    private static String told(Method method) {
        StringBuilder text = new StringBuilder(method.getReturnType().getSimpleName());
        text.append(' ').append(method.getName()).append('(');
        String comma = "";
        for (Class<?> type : method.getParameterTypes()) {
            text.append(comma).append(type.getSimpleName());
            comma = ",";
        }
        text.append(')');
        for (Class<?> thrown : method.getExceptionTypes()) {
            text.append(' ').append(thrown.getSimpleName());
        }
        return text.toString();
    }

    private static void constants() {
        Check.same("NONE", -1, Ringroll.NONE);
        Check.same("IDLE", 0, Ringroll.IDLE);
        Check.same("LOADS", 1, Ringroll.LOADS);
        Check.same("TRIAL", 2, Ringroll.TRIAL);
        TreeSet<String> seen = new TreeSet<>();
        for (Field field : Ringroll.class.getDeclaredFields()) {
            if (!Modifier.isPrivate(field.getModifiers()) && !field.isSynthetic()) {
                seen.add(Modifier.toString(field.getModifiers()) + " " + field.getType() + " " + field.getName());
            }
            if (Modifier.isStatic(field.getModifiers())) {
                Check.yes(field.getName() + " is final", Modifier.isFinal(field.getModifiers()));
            }
        }
        String kind = "public static final int ";
        Check.same("the fields", "[" + kind + "IDLE, " + kind + "LOADS, " + kind + "NONE, " + kind + "TRIAL]",
                seen.toString());
    }

    private static void classes() {
        Check.same("modifiers", Modifier.PUBLIC | Modifier.FINAL, Ringroll.class.getModifiers());
        Constructor<?>[] constructors = Ringroll.class.getDeclaredConstructors();
        Check.same("constructors", 1, constructors.length);
        Check.same("the constructor", "public Ringroll()", constructors[0].toString());
        for (Class<?> inside : Ringroll.class.getDeclaredClasses()) {
            int modifiers = inside.getModifiers();
            Check.yes(inside + " is static", Modifier.isStatic(modifiers));
            Check.no(inside + " is public", Modifier.isPublic(modifiers));
            Check.no(inside + " is protected", Modifier.isProtected(modifiers));
        }
    }

    private static void newObject() {
        Told x = new Told();
        Check.same("devices()", 0, x.devices());
        Check.refuses("state(0)", Check.INDEX, x, () -> x.state(0));
        Check.refuses("ring(0)", Check.INDEX, x, () -> x.ring(0));
        Check.same("the first device", 0, x.addDevice(3, 7));
        Check.same("the first campaign", 0, x.begin(7, 15, 255, Ringroll.NONE));
    }

    private static void newState() {
        Told x = new Told();
        for (int from = 0; from < 8; from++) {
            for (int to = 0; to < 8; to++) {
                int due = from == to ? 0 : Ringroll.NONE;
                Check.same("size(" + from + ", " + to + ")", due, x.size(from, to));
                Check.same("sizeByWays(" + from + ", " + to + ")", due, x.sizeByWays(from, to));
                if (from != to) {
                    Check.same("setDelta(" + from + ", " + to + ", NONE)", -1, x.setDelta(from, to, Ringroll.NONE));
                }
            }
            Check.same("setImage(" + from + ", NONE)", -1, x.setImage(from, Ringroll.NONE));
            Check.same("allow(" + from + ", 15)", 15, x.allow(from, 15));
        }
        x.setImage(1, 100);
        x.addDevice(0, 0);
        x.setWindow(0, 0, 0);
        Check.beginForAll(x, 1, 1, 0);
        Check.same("pass(1) at the hour 0", 1, x.pass(1));
    }

    private static void twoObjects() {
        List<String> before = Look.at(new Told(), 0);
        Told x = Check.fleet(3);
        Check.beginForAll(x, 1, 1, 0);
        x.allow(5, 2);
        x.pass(7);
        Check.same("what a new object holds", before, Look.at(new Told(), 0));
        Told y = new Told();
        Check.same("devices()", 0, y.devices());
        Check.same("campaigns", 0, Check.campaigns(y));
        Check.same("size(0, 1)", -1, y.size(0, 1));
        Check.same("allow(5, 15)", 15, y.allow(5, 15));
    }
}
