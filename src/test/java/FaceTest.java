import java.lang.reflect.Constructor;
import java.lang.reflect.Field;
import java.lang.reflect.Method;
import java.lang.reflect.Modifier;
import java.util.Arrays;
import java.util.Set;
import java.util.TreeSet;

/** The face: just the document's public members, and no static state. */
public final class FaceTest {
    private static final String[] METHODS = {
        "int append(int,int,int,int,int)", "int load(int) IllegalArgumentException", "int errorOffset()",
        "int deviceCount()", "int ruleCount()", "int clock()",
        "int state(int) IndexOutOfBoundsException", "int weight(int) IndexOutOfBoundsException",
        "int queueLength(int) IndexOutOfBoundsException", "int backlog(int) IndexOutOfBoundsException",
        "long virtualTime(int) IndexOutOfBoundsException", "int delivered(int) IndexOutOfBoundsException",
        "int longestDelay(int) IndexOutOfBoundsException", "int rejected()", "int proxied()", "int dropped()",
        "boolean isQuiet(int) IllegalArgumentException",
        "int verdict(int,int,int) IndexOutOfBoundsException IllegalArgumentException",
        "int matching(int,int,int) IllegalArgumentException",
        "boolean isUseless(int) IndexOutOfBoundsException",
        "int openPorts(int,int) IndexOutOfBoundsException", "int fairness()",
        "int drainTime(int) IllegalArgumentException",
        "int arrive(int,int,int,int) IndexOutOfBoundsException IllegalArgumentException",
        "int tick(int) IllegalArgumentException IllegalStateException",
        "int sleep(int) IndexOutOfBoundsException IllegalStateException",
        "int wake(int) IndexOutOfBoundsException IllegalStateException",
        "int setWeight(int,int) IndexOutOfBoundsException IllegalArgumentException",
        "int addRule(boolean,int,int,int,int) IllegalArgumentException IllegalStateException",
        "int removeRule(int) IndexOutOfBoundsException", "int moveRule(int,int) IndexOutOfBoundsException",
        "int undo()", "long checksum()"};
    private static final String[] CONSTANTS = {
        "SYNTAX_ERROR=-2", "OUT_OF_RANGE=-3", "TOO_MANY=-4", "HOME=0", "GUEST=1", "IOT=2", "NET=3", "ANY=4",
        "AWAKE=0", "WAKING=1", "ASLEEP=2", "ALLOWED=0", "DENIED=1", "ISOLATED=2"};

    private FaceTest() {
    }

    public static void main(String[] args) throws IllegalAccessException {
        Check.yes("the class is public and final", Modifier.isPublic(HomeGateway.class.getModifiers())
                && Modifier.isFinal(HomeGateway.class.getModifiers()));
        methods();
        fields();
        constructors();
        for (Class<?> inner : HomeGateway.class.getDeclaredClasses()) {
            Check.yes(inner + " is private and static", Modifier.isPrivate(inner.getModifiers())
                    && Modifier.isStatic(inner.getModifiers()));
            staticFieldsAreFinal(inner);
        }
        Check.end();
    }

    private static void methods() {
        Set<String> seen = new TreeSet<>();
        Set<String> names = new TreeSet<>();
        for (Method method : HomeGateway.class.getDeclaredMethods()) {
            if (Modifier.isPublic(method.getModifiers())) {
                seen.add(written(method));
                names.add(method.getName());
            }
        }
        Check.same("the methods", seen.toString(), new TreeSet<>(Arrays.asList(METHODS)).toString());
        for (Method method : HomeGateway.class.getDeclaredMethods()) {
            if (!Modifier.isPublic(method.getModifiers())) {
                Check.yes(method + " is private", Modifier.isPrivate(method.getModifiers()));
                Check.no(method + " bears a public name", names.contains(method.getName()));
            }
        }
    }

    private static String written(Method method) {
        StringBuilder text = new StringBuilder();
        text.append(method.getReturnType()).append(' ').append(method.getName()).append('(');
        String comma = "";
        for (Class<?> type : method.getParameterTypes()) {
            text.append(comma).append(type);
            comma = ",";
        }
        text.append(')');
        for (Class<?> type : method.getExceptionTypes()) {
            text.append(' ').append(type.getSimpleName());
        }
        return text.toString();
    }

    private static void fields() throws IllegalAccessException {
        Set<String> seen = new TreeSet<>();
        for (Field field : HomeGateway.class.getDeclaredFields()) {
            if (Modifier.isPublic(field.getModifiers())) {
                Check.same(field + " is an int", field.getType().toString(), "int");
                seen.add(field.getName() + "=" + field.getInt(null));
            } else {
                Check.yes(field + " is private", Modifier.isPrivate(field.getModifiers()));
            }
        }
        Check.same("the constants", seen.toString(), new TreeSet<>(Arrays.asList(CONSTANTS)).toString());
        staticFieldsAreFinal(HomeGateway.class);
    }

    private static void staticFieldsAreFinal(Class<?> type) {
        for (Field field : type.getDeclaredFields()) {
            Check.yes(field + " is final if static",
                    !Modifier.isStatic(field.getModifiers()) || Modifier.isFinal(field.getModifiers()));
        }
    }

    private static void constructors() {
        Constructor<?>[] all = HomeGateway.class.getDeclaredConstructors();
        Check.same("one constructor", all.length, 1);
        Check.yes("it is public", Modifier.isPublic(all[0].getModifiers()));
        Check.same("without parameters", all[0].getParameterCount(), 0);
    }
}
