import java.lang.reflect.Constructor;
import java.lang.reflect.Field;
import java.lang.reflect.Member;
import java.lang.reflect.Method;
import java.lang.reflect.Modifier;
import java.util.ArrayList;
import java.util.Arrays;
import java.util.Collections;
import java.util.List;

/** The public face: every constant, constructor and method of the document, and no other. */
public final class FaceTest {
    private static final String[] METHODS = {
        "int row(int, int)", "int lay(int, int, int)", "int tear(int)", "int copy(int, int, int, int, int)",
        "int train()", "int plate(int)", "int snail(int)", "int barrel(int, int)", "int gear(int, int, int)",
        "int wind(int)", "int broken(int, int)", "int told(int, int)", "int mark(int, int)",
        "int notch(int, int)", "int cut(int, int, int)", "int put(int, int)", "int mean(int)",
        "int tower(int)", "int hang(int, int, boolean)", "int unhang(int, boolean)", "int hands(int, int)",
        "int forward(int, int)", "int back(int, int)", "int rate(int, int)", "int go(int, boolean)",
        "int windGoing(int, int)", "int silence(int, int, int, int)", "int letOff(int, boolean)",
        "int runOut(int, boolean)", "int pass(int)", "int tells(int, int)", "int log(int, int, int)",
        "int heard(int, int, int)", "int ahead(int, int)", "int meet(int, int)", "int right(int, boolean)",
        "int off(int, boolean)", "int putRight(int, int)", "int act(int)",
        "int due(int, int, int, int, int)", "int misfits(int, int, int, int, int)", "int fault(int, int)",
        "int faultTold(boolean)", "int explained(int, int)", "int windy(int, int, int, int, int)",
        "int wheel(int)", "int nearest(int, int, int)", "int chosen(int)", "int daily(int, boolean)",
        "int lasting(int)", "int lastingDays(int, boolean)", "int asked()", "long upper()", "long lower()",
        "int count(int)", "int finding()", "int findings(int)", "long digest()"};
    private static final String[] CONSTANTS = {"BAD", "FULL", "FINDING", "STATE", "NONE"};

    private static final Checks c = new Checks("FaceTest");

    public static void main(String[] args) {
        constants();
        methods();
        constructors();
        c.is("the class is public and final", HammerTowers.class.getModifiers(), Modifier.PUBLIC | Modifier.FINAL);
        c.end();
    }

    private static void constants() {
        c.is("BAD", HammerTowers.BAD, -1);
        c.is("FULL", HammerTowers.FULL, -2);
        c.is("FINDING", HammerTowers.FINDING, -3);
        c.is("STATE", HammerTowers.STATE, -4);
        c.is("NONE", HammerTowers.NONE, -9);
        List<String> seen = new ArrayList<>();
        for (Field field : HammerTowers.class.getDeclaredFields()) {
            if (isSeen(field)) {
                seen.add(field.getName());
            }
        }
        same("constants", seen, Arrays.asList(CONSTANTS));
    }

    private static void methods() {
        List<String> seen = new ArrayList<>();
        List<String> hidden = new ArrayList<>();
        List<String> names = new ArrayList<>();
        for (Method method : HammerTowers.class.getDeclaredMethods()) {
            if (isSeen(method)) {
                seen.add(signature(method));
                names.add(method.getName());
            } else {
                hidden.add(method.getName());
            }
        }
        same("methods", seen, Arrays.asList(METHODS));
        c.is("no private method bears the name of a public one", Collections.disjoint(names, hidden) ? 1 : 0, 1);
    }

    private static void constructors() {
        Constructor<?>[] all = HammerTowers.class.getDeclaredConstructors();
        c.is("constructors", all.length, 1);
        c.is("its parameters", all[0].getParameterCount(), 0);
        c.is("it is public", all[0].getModifiers(), Modifier.PUBLIC);
    }

    private static boolean isSeen(Member member) {
        return !Modifier.isPrivate(member.getModifiers()) && !member.isSynthetic();
    }

    private static String signature(Method method) {
        List<String> types = new ArrayList<>();
        for (Class<?> type : method.getParameterTypes()) {
            types.add(type.getName());
        }
        String kind = Modifier.toString(method.getModifiers()).equals("public") ? "" : "not only public: ";
        return kind + method.getReturnType().getName() + " " + method.getName() + "(" + String.join(", ", types) + ")";
    }

    private static void same(String what, List<String> got, List<String> want) {
        List<String> one = new ArrayList<>(got);
        List<String> other = new ArrayList<>(want);
        Collections.sort(one);
        Collections.sort(other);
        c.is(what + " are " + other + ", seen are " + one, one.equals(other) ? 1 : 0, 1);
    }
}
