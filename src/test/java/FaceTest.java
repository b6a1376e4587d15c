import java.lang.reflect.Constructor;
import java.lang.reflect.Field;
import java.lang.reflect.Member;
import java.lang.reflect.Method;
import java.lang.reflect.Modifier;
import java.util.Arrays;
import java.util.TreeSet;

/** Promise 1 and the public face. */
public final class FaceTest {
    public static void main(String[] args) {
        constants();
        nothingIsKnown();
        nothingElseIsSeen();
        Probe.finish();
    }

    private static void constants() {
        Probe.due("REFUSED", SendPolicy.REFUSED, -1);
        Probe.due("NONE", SendPolicy.NONE, -2);
        Probe.due("FULL", SendPolicy.FULL, -3);
    }

    private static void nothingIsKnown() {
        SendPolicy fresh = new SendPolicy();
        Probe.due("octet(-1)", fresh.octet(-1), 0);
        Probe.due("octet(0)", fresh.octet(0), SendPolicy.NONE);
        Probe.due("cost(0)", fresh.cost(0), 0);
        Probe.due("cost(1)", fresh.cost(1), 0);
        Probe.due("permission()", fresh.permission(), SendPolicy.REFUSED);
        Probe.due("cost(0)", fresh.cost(0), 0);
        Probe.due("end(1)", fresh.end(1), SendPolicy.REFUSED);
        Probe.due("end(0)", fresh.end(0), 0);
        Probe.due("forget()", fresh.forget(), 0);
        Probe.due("expand()", fresh.expand(), SendPolicy.REFUSED);
        Probe.due("feed", fresh.feed(0, 0, 0, 0, 0), 20);
        // Two objects share nothing.
        Probe.due("end(1) of another", new SendPolicy().end(1), SendPolicy.REFUSED);
    }

    private static void nothingElseIsSeen() {
        Class<?> face = SendPolicy.class;
        Probe.due("public and final", face.getModifiers() & (Modifier.PUBLIC | Modifier.FINAL),
            Modifier.PUBLIC | Modifier.FINAL);
        TreeSet<String> seen = new TreeSet<>();
        for (Method method : face.getDeclaredMethods()) {
            note(seen, method, method.getName() + Arrays.toString(method.getParameterTypes()));
            if (method.getReturnType() != int.class) {
                Probe.due("an int from " + method, 0, 1);
            }
        }
        for (Field field : face.getDeclaredFields()) {
            note(seen, field, field.getName());
        }
        for (Constructor<?> maker : face.getDeclaredConstructors()) {
            note(seen, maker, "new" + Arrays.toString(maker.getParameterTypes()));
        }
        String want = "[FULL, NONE, REFUSED, cost[int], end[int], entry[int, int], expand[],"
            + " feed[int, int, int, int, int], forget[], new[], octet[int], permission[], sender[int]]";
        if (!seen.toString().equals(want)) {
            Probe.due("the face is " + seen + " and should be " + want, 0, 1);
        }
    }

    private static void note(TreeSet<String> seen, Member member, String name) {
        if (!Modifier.isPrivate(member.getModifiers()) && !member.isSynthetic()) {
            seen.add(name);
        }
    }
}
