import java.util.ArrayList;
import java.util.List;
import java.util.Random;

/** All promises: runs of calls from fixed seeds, answered by SendPolicy and by a second model of the document. */
public final class ModelTest {
    private static final int RUNS = 6000;
    private static final String[] NAMES = {"a.com", "b.org", "c.net", "x.a.com", "4.3.2.1", "com", "a"};
    private static final String[] MAILBOXES = {"x@a.com", "x.y@b.org", "a..b.@c.net", "u+v@x.a.com", "..@com"};
    private static final String[] TARGETS = {"a.com", "b.org", "c.net", "%{d}", "%{o}", "x.%{d}", "%{l}.%{o}", "%{ir}",
        "%{d1}", "%{d1r}", "%{o2r}", "%{i}", "%{s}", "%{l1r}", "%{or}", "a..b", "B", "%%", "x%_", "%-", "zz", "zz.%{d}",
        "%{d}/1", "%", "%{x}", "%{d0}", "%{dr1}", "a/b", "\u0080", "a:b=c"};
    private static final String[] BITS = {"", "", "", "/0", "/8", "/24", "/32", "/31", "/07", "/33", "/", "/1x", "/008"};
    private static final String[] NETWORKS = {"1.2.3.4", "1.2.3.5", "1.2.0.0", "255.255.255.255", "0.0.0.0", "001.2.3.4",
        "1.2.3", "1.2.3.256", "1.2.3.4.5", "0001.2.3.4", "1..3.4", ""};
    private static final String[] ODDS = {"x=y", "v=spf1", "x=", "all=%", "X=1", "=", "ptr", "+", "a=b=c", "-x=y", "alll"};
    private static final String BLOTS = "%{}slodirR190 .:/=+-?~_@aZ!\u007f\u0000\u00ff";
    private static final int[] ADDRESSES = {0x01020304, 0x01020305, 0x01020000, -1, 0, 0x80000000};

    private final Random random;
    private final SendPolicy policy = new SendPolicy();
    private final Model model = new Model();
    private final List<String> story = new ArrayList<>();
    private final int[] seen;

    private ModelTest(long seed, int[] seen) {
        random = new Random(seed);
        this.seen = seen;
    }

    public static void main(String[] args) {
        int[] seen = new int[7];
        for (int run = 0; run < RUNS; run++) {
            new ModelTest(run, seen).go();
        }
        for (int permission = 0; permission < seen.length; permission++) {
            // Runs that never come to some permission would prove nothing of it.
            Probe.due("enough runs with permission " + permission, seen[permission] >= 100 ? 1 : 0, 1);
        }
        Probe.finish();
    }

    private void go() {
        // The dearest step makes some fifty calls.
        while (story.size() < 440) {
            switch (random.nextInt(16)) {
                case 0:
                    same("forget()", policy.forget(), model.forget());
                    break;
                case 1:
                    wild();
                    break;
                case 2:
                    expand();
                    break;
                case 3:
                    type(blurred(pick(MAILBOXES)));
                    int from = pick(ADDRESSES);
                    same("sender(" + from + ")", policy.sender(from), model.sender(from));
                    break;
                case 4:
                case 5:
                case 6:
                    permission();
                    break;
                case 7:
                case 8:
                case 9:
                case 10:
                    type(pick(NAMES) + " v=spf1" + terms());
                    enter(0);
                    break;
                case 11:
                case 12:
                    type(pick(NAMES));
                    enter(1);
                    break;
                case 13:
                case 14:
                    type(pick(NAMES) + " " + pick(NAMES));
                    enter(2);
                    break;
                default:
                    if (random.nextInt(4) == 0) {
                        type(pick(NAMES));
                        enter(3);
                    }
            }
        }
    }

    private void same(String call, int got, int want) {
        story.add(call + " " + want);
        Probe.due(call + (got == want ? "" : " at the end of " + story + ":"), got, want);
    }

    private String pick(String[] from) {
        return from[random.nextInt(from.length)];
    }

    private int pick(int[] from) {
        return from[random.nextInt(from.length)];
    }

    private void enter(int sort) {
        int address = pick(ADDRESSES);
        same("entry(" + sort + ", " + address + ")", policy.entry(sort, address), model.entry(sort, address));
    }

    private void permission() {
        int due = model.permission();
        same("permission()", policy.permission(), due);
        same("cost(0)", policy.cost(0), model.counted);
        same("cost(1)", policy.cost(1), model.voids);
        if (due >= 0) {
            seen[due]++;
        }
    }

    private void expand() {
        StringBuilder target = new StringBuilder();
        for (int k = random.nextInt(4); k >= 0; k--) {
            target.append(pick(TARGETS));
        }
        String typed = blurred(target.toString());
        type(typed);
        same("expand() of " + typed, policy.expand(), model.expand());
        for (int k = 0; k < 4; k++) {
            int place = random.nextInt(model.out.length() + 3) - 2;
            same("octet(" + place + ")", policy.octet(place), model.octet(place));
        }
    }

    private void wild() {
        int n = random.nextInt(60) - 5;
        switch (random.nextInt(4)) {
            case 0:
                same("end(" + n + ")", policy.end(n), model.end(n));
                break;
            case 1:
                enter(random.nextInt(7) - 2);
                break;
            case 2:
                same("octet(" + n + ")", policy.octet(n), model.octet(n));
                break;
            default:
                feed(Probe.bytes(pick(NAMES) + " " + pick(NAMES)), 0);
        }
    }

    private void feed(byte[] bytes, int k) {
        int[] words = new int[5];
        StringBuilder fed = new StringBuilder();
        for (int w = 0; w < 5; w++) {
            words[w] = Probe.word(bytes, k + 4 * w);
            for (int shift = 24; shift >= 0; shift -= 8) {
                fed.append((char) (words[w] >>> shift & 255));
            }
        }
        same("feed '" + fed + "'", policy.feed(words[0], words[1], words[2], words[3], words[4]),
            model.feed(fed.toString()));
    }

    private void type(String text) {
        byte[] bytes = Probe.bytes(text);
        same("end(0)", policy.end(0), model.end(0));
        for (int k = 0; k < bytes.length; k += 20) {
            feed(bytes, k);
        }
        same("end(" + bytes.length + ")", policy.end(bytes.length), model.end(bytes.length));
    }

    /** Now and then with a sign put in, put over another or left out, where no list of odd words would think of it. */
    private String blurred(String text) {
        if (text.isEmpty() || random.nextInt(5) > 0) {
            return text;
        }
        int at = random.nextInt(text.length());
        int sign = random.nextInt(BLOTS.length() + 1);
        String blot = sign == BLOTS.length() ? "" : BLOTS.substring(sign, sign + 1);
        return text.substring(0, at) + blot + text.substring(at + random.nextInt(2));
    }

    private String terms() {
        StringBuilder terms = new StringBuilder();
        for (int k = random.nextInt(8); k > 0; k--) {
            terms.append(random.nextInt(12) == 0 ? "  " : " ").append(term());
        }
        return blurred(terms.toString());
    }

    private String term() {
        String sign = random.nextInt(3) == 0 ? "" : "+?~-".substring(random.nextInt(4)).substring(0, 1);
        // Most terms are good ones, for a record with a bad one says nothing of its others.
        boolean odd = random.nextInt(12) == 0;
        String target = TARGETS[random.nextInt(odd ? TARGETS.length : 22)];
        String bits = BITS[random.nextInt(odd ? BITS.length : 9)];
        switch (random.nextInt(9)) {
            case 0:
                return random.nextInt(3) == 0 ? sign + "all" : "x=y";
            case 1:
                return sign + "include:" + NAMES[random.nextInt(3)];
            case 2:
                return sign + "include:" + (random.nextInt(3) == 0 ? target : pick(NAMES));
            case 3:
                return sign + "a" + (random.nextBoolean() ? "" : ":" + target) + bits;
            case 4:
                return sign + "mx" + (random.nextBoolean() ? "" : ":" + target) + bits;
            case 5:
                return sign + "ip4:" + NETWORKS[random.nextInt(odd ? NETWORKS.length : 6)] + bits;
            case 6:
                return sign + "exists:" + target;
            case 7:
                return random.nextInt(3) > 0 ? "redirect=" + (random.nextInt(3) == 0 ? target : pick(NAMES)) : "x=%";
            default:
                return odd ? pick(ODDS) : "a/0";
        }
    }
}
