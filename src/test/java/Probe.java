import java.nio.charset.StandardCharsets;

/** Makes calls on one SendPolicy in words instead of ints, and counts the answers that are not due. */
final class Probe {
    private static int wrong = 0;

    // Nothing is promised behind the 512th call, so no test may lean on it.
    private static final int CALLS_LIMIT = 512;
    private static final int OCTETS_ASKED = 100;

    final SendPolicy policy = new SendPolicy();
    private int calls = 0;

    private void count(int more) {
        calls += more;
        if (calls > CALLS_LIMIT) {
            throw new IllegalStateException("a test makes more calls on one object than are promised");
        }
    }

    static void due(String call, long got, long want) {
        if (got != want) {
            wrong++;
            System.out.println(call + " answered " + got + ", due is " + want);
        }
    }

    static void finish() {
        System.out.println(wrong == 0 ? "all answers are as due" : wrong + " answers are not as due");
        if (wrong != 0) {
            System.exit(1);
        }
    }

    static int word(byte[] bytes, int from) {
        int word = 0;
        for (int k = from; k < from + 4; k++) {
            word = word << 8 | (k < bytes.length ? bytes[k] & 255 : 0);
        }
        return word;
    }

    static byte[] bytes(String text) {
        return text.getBytes(StandardCharsets.ISO_8859_1);
    }

    static int address(int a, int b, int c, int d) {
        return a << 24 | b << 16 | c << 8 | d;
    }

    /** Signs that a D may have, none like its neighbours, so that a lost or doubled one is seen. */
    static String pattern(int length) {
        StringBuilder text = new StringBuilder();
        for (int k = 0; k < length; k++) {
            text.append((char) ('a' + k % 23));
        }
        return text.toString();
    }

    /** An object with something in all that it keeps but the tape, and with a permission behind it. */
    static Probe furnished() {
        Probe probe = new Probe().from(address(1, 2, 3, 4), "u@a.com");
        probe.text("a.com", "v=spf1 a:b.com exists:%{l}.none ~mx -all").host("b.com", 7);
        probe.exchange("a.com", "m.com").host("m.com", address(1, 2, 3, 4));
        return probe.expands("kept", "kept").permits("furnished", 4, 3, 1);
    }

    /** Looks at all that furnished() made; its entries are gone then. */
    void isFurnishedStill(String behind) {
        holds("kept");
        count(3);
        due("cost(0) behind " + behind, policy.cost(0), 3);
        due("cost(1) behind " + behind, policy.cost(1), 1);
        permits("behind " + behind, 4, 3, 1);
        tapeHas(0, behind);
        expands("%{s}/%{i}", "u@a.com/1.2.3.4");
        due("forget behind " + behind, policy.forget(), 4);
    }

    /** Asks the tape for one byte more than it should have, and then for those. */
    Probe tapeHas(int size, String behind) {
        count(2);
        due("end(" + (size + 1) + ") behind " + behind, policy.end(size + 1), SendPolicy.REFUSED);
        due("end(" + size + ") behind " + behind, policy.end(size), size);
        return this;
    }

    /** Reads the tape as it is, which must be without macros, and looks at OUT. */
    Probe tapeIs(String want) {
        count(1);
        due("expand of the tape", policy.expand(), want.length());
        return holds(want);
    }

    /** Puts exactly the text on a tape that is empty. */
    Probe type(String text) {
        byte[] bytes = bytes(text);
        // The feeds, the end, and the call that reads the tape.
        count((bytes.length + 19) / 20 + 2);
        for (int k = 0; k < bytes.length; k += 20) {
            int got = policy.feed(word(bytes, k), word(bytes, k + 4), word(bytes, k + 8),
                word(bytes, k + 12), word(bytes, k + 16));
            due("feed for " + text, got, k + 20);
        }
        due("end for " + text, policy.end(bytes.length), bytes.length);
        return this;
    }

    int entry(int sort, int address, String text) {
        return type(text).policy.entry(sort, address);
    }

    Probe text(String name, String value) {
        return made(entry(0, 0, name + " " + value), name + " " + value);
    }

    Probe host(String name, int address) {
        return made(entry(1, address, name), name);
    }

    Probe exchange(String name, String host) {
        return made(entry(2, 0, name + " " + host), name + " " + host);
    }

    Probe trouble(String name) {
        return made(entry(3, 0, name), name);
    }

    private Probe made(int got, String what) {
        if (got < 1) {
            due("entry for " + what, got, 1);
        }
        return this;
    }

    Probe from(int address, String mailbox) {
        due("sender of " + mailbox, type(mailbox).policy.sender(address), 0);
        return this;
    }

    Probe permits(String why, int permission, int counted, int voids) {
        count(3);
        due("permission: " + why, policy.permission(), permission);
        due("cost(0): " + why, policy.cost(0), counted);
        due("cost(1): " + why, policy.cost(1), voids);
        return this;
    }

    /** Expands a D that is one, and looks at OUT. */
    Probe expands(String target, String want) {
        due("expand of " + target, type(target).policy.expand(), want.length());
        return holds(want);
    }

    int feedWords(int word) {
        count(1);
        return policy.feed(word, word, word, word, word);
    }

    Probe refusesToExpand(String target) {
        due("expand of " + target, type(target).policy.expand(), SendPolicy.REFUSED);
        return this;
    }

    /** Looks at every byte of OUT, or at some all over it if it is long. */
    Probe holds(String want) {
        int step = want.length() / OCTETS_ASKED + 1;
        count(want.length() / step + 3);
        due("octet(-1) for " + want, policy.octet(-1), want.length());
        for (int k = 0; k < want.length(); k += step) {
            due("octet(" + k + ") for " + want, policy.octet(k), want.charAt(k));
        }
        due("octet behind " + want, policy.octet(want.length()), SendPolicy.NONE);
        return this;
    }
}
