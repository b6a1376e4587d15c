/** Promises 2 and 3: feed and end; and which calls empty the TAPE. */
public final class TapeTest {
    public static void main(String[] args) {
        highestByteFirst();
        limitOfFeed();
        limitWithoutTwenties();
        edgesOfEnd();
        readersEmptyTheTape();
        othersLeaveTheTape();
        Probe.finish();
    }

    private static void highestByteFirst() {
        Probe probe = new Probe().from(1, "x@a.com");
        probe.policy.feed(0x61626364, 0x65666768, 0x696a6b6c, 0x6d6e6f70, 0x71727374);
        Probe.due("expand of 20 bytes", probe.policy.expand(), 20);
        probe.holds("abcdefghijklmnopqrst");
    }

    private static void limitOfFeed() {
        SendPolicy policy = new SendPolicy();
        for (int k = 1; k <= 40; k++) {
            Probe.due("feed " + k, policy.feed(k, k, k, k, k), 20 * k);
        }
        Probe.due("feed beyond 800", policy.feed(0, 0, 0, 0, 0), SendPolicy.FULL);
        Probe.due("feed beyond 800 again", policy.feed(0, 0, 0, 0, 0), SendPolicy.FULL);
        Probe.due("FULL changes nothing", policy.end(800), 800);
        Probe.due("end(801)", policy.end(801), SendPolicy.REFUSED);
    }

    private static void limitWithoutTwenties() {
        SendPolicy policy = new SendPolicy();
        for (int k = 1; k <= 40; k++) {
            policy.feed(0, 0, 0, 0, 0);
        }
        Probe.due("end(781)", policy.end(781), 781);
        Probe.due("feed to 801", policy.feed(0, 0, 0, 0, 0), SendPolicy.FULL);
        Probe.due("end(780)", policy.end(780), 780);
        Probe.due("feed to 800", policy.feed(0, 0, 0, 0, 0), 800);
        Probe.due("end(3)", policy.end(3), 3);
        Probe.due("feed to 23", policy.feed(0, 0, 0, 0, 0), 23);
    }

    private static void edgesOfEnd() {
        SendPolicy policy = new SendPolicy();
        policy.feed(0, 0, 0, 0, 0);
        Probe.due("end(21)", policy.end(21), SendPolicy.REFUSED);
        Probe.due("end(-1)", policy.end(-1), SendPolicy.REFUSED);
        Probe.due("end(least)", policy.end(Integer.MIN_VALUE), SendPolicy.REFUSED);
        Probe.due("end(most)", policy.end(Integer.MAX_VALUE), SendPolicy.REFUSED);
        Probe.due("end(20)", policy.end(20), 20);
        Probe.due("end(7)", policy.end(7), 7);
        Probe.due("end(8) behind end(7)", policy.end(8), SendPolicy.REFUSED);
        Probe.due("end(0)", policy.end(0), 0);
        Probe.due("end(1) behind end(0)", policy.end(1), SendPolicy.REFUSED);
    }

    private static void isEmpty(Probe probe, String after) {
        Probe.due("tape after " + after, probe.policy.end(1), SendPolicy.REFUSED);
    }

    private static void readersEmptyTheTape() {
        Probe probe = new Probe();
        probe.type("abc").policy.expand();
        isEmpty(probe, "expand without a sender");
        probe.type("no sender").policy.sender(1);
        isEmpty(probe, "sender refused");
        probe.from(1, "x@a.com");
        isEmpty(probe, "sender");
        probe.type("%").policy.expand();
        isEmpty(probe, "expand refused");
        probe.type("abc").policy.expand();
        isEmpty(probe, "expand");
        probe.entry(0, 0, "a.com v");
        isEmpty(probe, "entry");
        probe.entry(0, 0, "a.com");
        isEmpty(probe, "entry refused");
        probe.entry(9, 0, "a.com");
        isEmpty(probe, "entry of no sort");
        for (int k = 1; k < 40; k++) {
            probe.host("a.com", k);
        }
        Probe.due("entry 41", probe.entry(1, 0, "a.com"), SendPolicy.FULL);
        isEmpty(probe, "entry with 40");
    }

    private static void othersLeaveTheTape() {
        Probe probe = new Probe().from(1, "x@a.com").type("abc");
        probe.policy.permission();
        probe.policy.cost(0);
        probe.policy.octet(0);
        probe.policy.forget();
        Probe.due("the tape stays", probe.policy.end(3), 3);
        Probe.due("its bytes stay", probe.policy.expand(), 3);
        probe.holds("abc");
    }
}
