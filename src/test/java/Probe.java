import java.nio.charset.StandardCharsets;

/** Makes calls on one SendPolicy in words instead of ints, and counts the answers that are not due. */
final class Probe {
    private static int wrong = 0;

    // Nothing is promised behind the 512th call, so no test may lean on it.
    private static final int CALLS_LIMIT = 512;
    private static final int OCTETS_ASKED = 100;

    final SendPolicy policy = new SendPolicy();
    private int calls = 0;

    private void count(int more) {
        calls += more;
        if (calls > CALLS_LIMIT) {
            throw new IllegalStateException("a test makes more calls on one object than are promised");
        }
    }

    static void due(String call, long got, long want) {
        if (got != want) {
            wrong++;
            System.out.println(call + " answered " + got + ", due is " + want);
        }
    }

    static void finish() {
        System.out.println(wrong == 0 ? "all answers are as due" : wrong + " answers are not as due");
        if (wrong != 0) {
            System.exit(1);
        }
    }

    static int word(byte[] bytes, int from) {
        int word = 0;
        for (int k = from; k < from + 4; k++) {
            word = word << 8 | (k < bytes.length ? bytes[k] & 255 : 0);
        }
        return word;
    }

    static byte[] bytes(String text) {
        return text.getBytes(StandardCharsets.ISO_8859_1);
    }

    static int address(int a, int b, int c, int d) {
        return a << 24 | b << 16 | c << 8 | d;
    }

    /** Puts exactly the text on a tape that is empty. */
    Probe type(String text) {
        byte[] bytes = bytes(text);
        // The feeds, the end, and the call that reads the tape.
        count((bytes.length + 19) / 20 + 2);
        for (int k = 0; k < bytes.length; k += 20) {
            int got = policy.feed(word(bytes, k), word(bytes, k + 4), word(bytes, k + 8),
                word(bytes, k + 12), word(bytes, k + 16));
            due("feed for " + text, got, k + 20);
        }
        due("end for " + text, policy.end(bytes.length), bytes.length);
        return this;
    }

    int entry(int sort, int address, String text) {
        return type(text).policy.entry(sort, address);
    }

    Probe text(String name, String value) {
        return made(entry(0, 0, name + " " + value), name + " " + value);
    }

    Probe host(String name, int address) {
        return made(entry(1, address, name), name);
    }

    Probe exchange(String name, String host) {
        return made(entry(2, 0, name + " " + host), name + " " + host);
    }

    Probe trouble(String name) {
        return made(entry(3, 0, name), name);
    }

    private Probe made(int got, String what) {
        if (got < 1) {
            due("entry for " + what, got, 1);
        }
        return this;
    }

    Probe from(int address, String mailbox) {
        due("sender of " + mailbox, type(mailbox).policy.sender(address), 0);
        return this;
    }

    Probe permits(String why, int permission, int counted, int voids) {
        count(3);
        due("permission: " + why, policy.permission(), permission);
        due("cost(0): " + why, policy.cost(0), counted);
        due("cost(1): " + why, policy.cost(1), voids);
        return this;
    }

    /** Expands a D that is one, and looks at OUT. */
    Probe expands(String target, String want) {
        due("expand of " + target, type(target).policy.expand(), want.length());
        return holds(want);
    }

    Probe refusesToExpand(String target) {
        due("expand of " + target, type(target).policy.expand(), SendPolicy.REFUSED);
        return this;
    }

    /** Looks at every byte of OUT, or at some all over it if it is long. */
    Probe holds(String want) {
        int step = want.length() / OCTETS_ASKED + 1;
        count(want.length() / step + 3);
        due("octet(-1) for " + want, policy.octet(-1), want.length());
        for (int k = 0; k < want.length(); k += step) {
            due("octet(" + k + ") for " + want, policy.octet(k), want.charAt(k));
        }
        due("octet behind " + want, policy.octet(want.length()), SendPolicy.NONE);
        return this;
    }
}
