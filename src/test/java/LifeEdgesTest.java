import java.util.Random;

/** The boundary cases of a whole life: promise 1, and the bound on calls. */
public final class LifeEdgesTest {
    private static final int CALLS = 512;

    public static void main(String[] args) {
        nothingIsKnown();
        objectsShareNothing();
        theLastCallThatCounts();
        anyArgumentsAtAll();
        theDearestCalls();
        Probe.finish();
    }

    // "Nothing is known": each call by itself on an object of its own
    private static void nothingIsKnown() {
        Probe.due("feed", new SendPolicy().feed(1, 2, 3, 4, 5), 20);
        Probe.due("end(0)", new SendPolicy().end(0), 0);
        Probe.due("end(1)", new SendPolicy().end(1), SendPolicy.REFUSED);
        Probe.due("end(-1)", new SendPolicy().end(-1), SendPolicy.REFUSED);
        for (int sort = -1; sort <= 4; sort++) {
            Probe.due("entry", new SendPolicy().entry(sort, 0), SendPolicy.REFUSED);
        }
        Probe.due("forget", new SendPolicy().forget(), 0);
        Probe.due("sender", new SendPolicy().sender(0), SendPolicy.REFUSED);
        Probe.due("permission", new SendPolicy().permission(), SendPolicy.REFUSED);
        Probe.due("cost(0)", new SendPolicy().cost(0), 0);
        Probe.due("cost(1)", new SendPolicy().cost(1), 0);
        Probe.due("expand", new SendPolicy().expand(), SendPolicy.REFUSED);
        Probe.due("octet(-1)", new SendPolicy().octet(-1), 0);
        Probe.due("octet(0)", new SendPolicy().octet(0), SendPolicy.NONE);
    }

    private static void objectsShareNothing() {
        Probe one = Probe.furnished();
        Probe other = new Probe().tapeHas(0, "another's life").holds("");
        Probe.due("another's entries", other.policy.forget(), 0);
        Probe.due("another's sender", other.policy.permission(), SendPolicy.REFUSED);
        Probe.due("another's cost", other.policy.cost(0), 0);
        other.from(9, "v@b.com").expands("other", "other").text("a.com", "v=spf1 all").permits("none here", 0, 0, 0);
        one.isFurnishedStill("another's life");
    }

    // "at most 512 calls after it has been made": the 512th still answers
    private static void theLastCallThatCounts() {
        SendPolicy policy = new SendPolicy();
        for (int k = 1; k <= CALLS; k++) {
            int due = k > 40 ? SendPolicy.FULL : 20 * k;
            Probe.due("call " + k, policy.feed(k, k, k, k, k), due);
        }
        SendPolicy checked = new SendPolicy();
        // "a v=spf1 a mx -all" and "x@a"
        checked.feed(0x6120763d, 0x73706631, 0x2061206d, 0x78202d61, 0x6c6c0000);
        checked.end(18);
        checked.entry(0, 0);
        checked.feed(0x78406100, 0, 0, 0, 0);
        checked.end(3);
        Probe.due("sender", checked.sender(1), 0);
        for (int k = 7; k <= CALLS; k += 2) {
            Probe.due("permission in call " + k, checked.permission(), 3);
            Probe.due("cost in call " + (k + 1), checked.cost(k / 2 % 2), 2);
        }
        SendPolicy forgetful = new SendPolicy();
        for (int k = 4; k <= CALLS; k += 4) {
            forgetful.feed(0x61000000, 0, 0, 0, 0);
            forgetful.end(1);
            Probe.due("entry before call " + k, forgetful.entry(k / 4 % 2 == 0 ? 1 : 3, k), 1);
            Probe.due("forget in call " + k, forgetful.forget(), 1);
        }
    }

    // No call may throw, whatever comes in whatever order.
    private static void anyArgumentsAtAll() {
        Random random = new Random(7);
        int[] edges = {0, 1, -1, 2, 3, 4, 20, 39, 40, 60, 700, 780, 799, 800, 801, Integer.MAX_VALUE, Integer.MIN_VALUE};
        for (int run = 0; run < 200; run++) {
            SendPolicy policy = new SendPolicy();
            for (int k = 0; k < CALLS; k++) {
                int number = random.nextInt(3) == 0 ? random.nextInt() : edges[random.nextInt(edges.length)];
                anyCall(policy, random.nextInt(9), number, random);
            }
        }
    }

    private static void anyCall(SendPolicy policy, int which, int number, Random random) {
        switch (which) {
            case 0 -> inBounds("feed", policy.feed(number, random.nextInt(), number, -1, 0x61616161), 800);
            case 1 -> inBounds("end", policy.end(number), 800);
            case 2 -> inBounds("entry", policy.entry(number, number), 40);
            case 3 -> inBounds("forget", policy.forget(), 40);
            case 4 -> inBounds("sender", policy.sender(number), 0);
            case 5 -> inBounds("permission", policy.permission(), 6);
            case 6 -> inBounds("cost", policy.cost(number), 11);
            case 7 -> inBounds("expand", policy.expand(), 18200);
            default -> inBounds("octet", policy.octet(number), 18200);
        }
    }

    private static void inBounds(String call, int got, int most) {
        Probe.due(call + " answers from -3 to " + most + ": " + got, got >= -3 && got <= most ? 1 : 0, 1);
    }

    // The longest names, records and rows there are, all in one life.
    private static void theDearestCalls() {
        String name = "a".repeat(20) + "." + "b".repeat(20) + "." + "c".repeat(18);
        String loop = "v=spf1 " + "x=%% ".repeat(120) + "include:%{o} -all";
        Probe probe = new Probe().from(-1, "l".repeat(30) + "@" + name).text(name, loop);
        for (int k = 2; k <= 40; k++) {
            Probe.due("entry", probe.entry(2, k, "m " + name), k);
        }
        for (int k = 0; k < 40; k++) {
            probe.permits("a record that includes itself", 6, 11, 0);
        }
    }
}
