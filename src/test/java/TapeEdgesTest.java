/** The boundary cases of THE TAPE, of feed and of end: promises 2 and 3, sentence by sentence. */
public final class TapeEdgesTest {
    private static final int ZEDS = 0x7a7a7a7a;

    public static void main(String[] args) {
        noneAtFirst();
        atMostEightHundred();
        fullWhereTwentyDoNotFit();
        callsThatReadItEmptyIt();
        refusedCallsThatReadItEmptyIt();
        callsThatDoNotReadItLeaveIt();
        highestByteFirst();
        bytesOfEightBits();
        cutToItsFirstBytes();
        refusedIfItHasLess();
        refusedBelowZero();
        Probe.finish();
    }

    private static Probe known() {
        return new Probe().from(Probe.address(1, 2, 3, 4), "u@a.com");
    }

    // "THE TAPE has bytes, none at first"
    private static void noneAtFirst() {
        new Probe().tapeHas(0, "nothing");
        Probe.due("the first feed", new Probe().feedWords(ZEDS), 20);
        Probe probe = known();
        Probe.due("expand of a tape without bytes", probe.policy.expand(), SendPolicy.REFUSED);
        Probe.due("sender of a tape without bytes", new SendPolicy().sender(1), SendPolicy.REFUSED);
        for (int sort = 0; sort <= 3; sort++) {
            Probe.due("entry of a tape without bytes", new SendPolicy().entry(sort, 1), SendPolicy.REFUSED);
        }
    }

    // "at most 800"
    private static void atMostEightHundred() {
        Probe probe = known();
        for (int size = 20; size <= 800; size += 20) {
            Probe.due("feed to " + size, probe.feedWords(ZEDS), size);
        }
        Probe.due("feed to 820", probe.feedWords(0x79797979), SendPolicy.FULL);
        probe.tapeHas(800, "FULL").tapeIs("z".repeat(800)).tapeHas(0, "expand");
        Probe.due("feed behind FULL and expand", probe.feedWords(ZEDS), 20);
        probe.tapeIs("z".repeat(20));
    }

    // "FULL if it would have more than 800"
    private static void fullWhereTwentyDoNotFit() {
        for (int size = 777; size <= 800; size++) {
            Probe probe = known().type(Probe.pattern(size));
            boolean fits = size <= 780;
            Probe.due("feed to " + (size + 20), probe.feedWords(ZEDS), fits ? size + 20 : SendPolicy.FULL);
            Probe.due("feed once more", probe.feedWords(ZEDS), SendPolicy.FULL);
            String want = Probe.pattern(size) + (fits ? "z".repeat(20) : "");
            probe.tapeHas(want.length(), "FULL").tapeIs(want);
        }
        Probe probe = known().type(Probe.pattern(800));
        Probe.due("feed", probe.feedWords(ZEDS), SendPolicy.FULL);
        Probe.due("end behind FULL", probe.policy.end(780), 780);
        Probe.due("feed when there is room again", probe.feedWords(ZEDS), 800);
        probe.tapeIs(Probe.pattern(780) + "z".repeat(20));
    }

    // "calls that read it empty it"
    private static void callsThatReadItEmptyIt() {
        String[] tapes = {"b.com v=spf1 -all", "b.com", "b.com c.com", "b.com"};
        for (int sort = 0; sort < tapes.length; sort++) {
            Probe probe = Probe.furnished();
            Probe.due("entry", probe.entry(sort, 1, tapes[sort]), 5);
            isEmpty(probe, "entry of sort " + sort);
        }
        Probe probe = Probe.furnished().from(1, "v@b.com");
        isEmpty(probe, "sender");
        isEmpty(probe.expands("abc", "abc"), "expand");
    }

    // "calls that read it empty it"; "the TAPE is empty in any case"
    private static void refusedCallsThatReadItEmptyIt() {
        for (int sort = -1; sort <= 4; sort++) {
            Probe probe = Probe.furnished();
            Probe.due("entry", probe.entry(sort, 1, "no.name@x"), SendPolicy.REFUSED);
            isEmpty(probe, "a refused entry of sort " + sort);
        }
        Probe probe = Probe.furnished();
        Probe.due("sender", probe.type("no.mailbox").policy.sender(1), SendPolicy.REFUSED);
        isEmpty(probe, "a refused sender");
        isEmpty(probe.refusesToExpand("no%macro"), "a refused expand");
        for (int k = 5; k <= 40; k++) {
            probe.host("h" + k, k);
        }
        Probe.due("entry 41", probe.entry(1, 1, "h41"), SendPolicy.FULL);
        isEmpty(probe, "FULL");
    }

    private static void isEmpty(Probe probe, String behind) {
        probe.tapeHas(0, behind);
        Probe.due("feed behind " + behind, probe.feedWords(ZEDS), 20);
        probe.tapeIs("z".repeat(20));
    }

    // The other side of "calls that read it": no other call takes anything from it.
    private static void callsThatDoNotReadItLeaveIt() {
        Probe probe = Probe.furnished().type("abc");
        SendPolicy policy = probe.policy;
        Probe.due("permission", policy.permission(), 4);
        probe.tapeHas(3, "permission");
        Probe.due("cost(0)", policy.cost(0), 3);
        Probe.due("cost(2)", policy.cost(2), SendPolicy.REFUSED);
        probe.tapeHas(3, "cost");
        Probe.due("octet(0)", policy.octet(0), 'k');
        Probe.due("octet(4)", policy.octet(4), SendPolicy.NONE);
        probe.tapeHas(3, "octet");
        Probe.due("forget()", policy.forget(), 4);
        probe.tapeHas(3, "forget").tapeIs("abc");
        Probe lone = new Probe().type("u@a.com");
        Probe.due("permission without a sender", lone.policy.permission(), SendPolicy.REFUSED);
        Probe.due("the sender from a tape that stayed", lone.policy.sender(1), 0);
        lone.expands("%{s}", "u@a.com");
    }

    // "Twenty bytes, five times four, the highest of each first"
    private static void highestByteFirst() {
        Probe probe = known();
        Probe.due("feed", probe.policy.feed(0x61626364, 0x65666768, 0x696a6b6c, 0x6d6e6f70, 0x71727374), 20);
        Probe.due("feed", probe.policy.feed(0x21222324, 0x26272829, 0x2a2b2c2d, 0x2e2f3031, 0x7b7c7d7e), 40);
        probe.tapeIs("abcdefghijklmnopqrst!\"#$&'()*+,-./01{|}~");
    }

    // A byte has eight bits: none of 128 to 255 may pass for the letter that its lower seven make.
    private static void bytesOfEightBits() {
        Probe probe = known();
        int high = 0xe1e1e1e1;
        Probe.due("feed", probe.feedWords(high), 20);
        Probe.due("end", probe.policy.end(1), 1);
        Probe.due("a name of byte 225", probe.policy.entry(1, 1), SendPolicy.REFUSED);
        Probe.due("feed", probe.feedWords(high), 20);
        Probe.due("a D of byte 225", probe.policy.expand(), SendPolicy.REFUSED);
        Probe.due("feed", probe.policy.feed(0x6140e100, 0, 0, 0, 0), 20);
        Probe.due("end", probe.policy.end(3), 3);
        Probe.due("a domain of byte 225", probe.policy.sender(1), SendPolicy.REFUSED);
        probe.expands("%{s}", "u@a.com");
    }

    // "The TAPE is cut to its first n bytes: n"
    private static void cutToItsFirstBytes() {
        int[] cuts = {0, 1, 19, 20, 21, 39, 40};
        for (int cut : cuts) {
            Probe probe = known().type(Probe.pattern(40));
            Probe.due("end(" + cut + ")", probe.policy.end(cut), cut);
            probe.tapeHas(cut, "end(" + cut + ")");
            Probe.due("feed behind end(" + cut + ")", probe.feedWords(ZEDS), cut + 20);
            probe.tapeIs(Probe.pattern(cut) + "z".repeat(20));
        }
    }

    // "REFUSED if it has less"
    private static void refusedIfItHasLess() {
        int[] sizes = {0, 1, 20, 799, 800};
        for (int size : sizes) {
            Probe probe = Probe.furnished().type(Probe.pattern(size));
            int[] more = {size + 1, size + 2, size + 20, 801, 1000, Integer.MAX_VALUE};
            for (int n : more) {
                Probe.due("end(" + n + ") of " + size, probe.policy.end(n), SendPolicy.REFUSED);
            }
            probe.tapeHas(size, "refused ends");
            if (size > 0) {
                probe.tapeIs(Probe.pattern(size)).expands("kept", "kept");
            }
            probe.isFurnishedStill("refused ends");
        }
    }

    // "REFUSED if ... n is below 0"
    private static void refusedBelowZero() {
        Probe probe = Probe.furnished().type("abc");
        int[] below = {-1, -2, -3, -20, -800, Integer.MIN_VALUE};
        for (int n : below) {
            Probe.due("end(" + n + ")", probe.policy.end(n), SendPolicy.REFUSED);
        }
        probe.tapeHas(3, "ends below 0").tapeIs("abc").expands("kept", "kept").isFurnishedStill("ends below 0");
        Probe.due("end(0) is not below", known().policy.end(0), 0);
    }
}
