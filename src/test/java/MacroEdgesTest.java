import java.util.ArrayList;
import java.util.Arrays;
import java.util.Collections;
import java.util.List;

/** The boundary cases of MACROS, of OUT, of expand and of octet: promises 9 and 10, sentence by sentence. */
public final class MacroEdgesTest {
    private static final int HERE = Probe.address(10, 200, 3, 4);
    private static final String NAME_60 = "a".repeat(20) + "." + "b".repeat(20) + "." + "c".repeat(18);

    public static void main(String[] args) {
        outHasNoneAtFirst();
        oneSignAtLeast();
        signsFrom33To126();
        signsOfTwo();
        lettersOfMacros();
        theLastParts();
        turnedRoundFirst();
        partsThatAreEmpty();
        numbersOfAnAddress();
        percentsThatBeginNoMacro();
        slashMayBeInIt();
        theLongestOut();
        outMayBecomeEmpty();
        refusedWithoutASender();
        outStaysIfRefused();
        theCheckedNameIsTheDomain();
        octetsOfOut();
        noneIfThereIsNone();
        Probe.finish();
    }

    private static Probe usual() {
        return new Probe().from(HERE, "u-v.w@a.b.com");
    }

    private static void refuses(String... targets) {
        for (String target : targets) {
            Probe probe = Probe.furnished().refusesToExpand(target);
            probe.isFurnishedStill("expand of " + target);
        }
    }

    // "OUT has bytes, none at first"
    private static void outHasNoneAtFirst() {
        new Probe().holds("");
        Probe probe = usual().holds("");
        probe.text("a.b.com", "v=spf1 exists:%{s}").permits("a D of a term is not for OUT", 1, 1, 1).holds("");
        probe.expands("x", "x");
    }

    // "D: one sign ... at least"
    private static void oneSignAtLeast() {
        Probe probe = Probe.furnished();
        Probe.due("expand of nothing", probe.policy.expand(), SendPolicy.REFUSED);
        probe.isFurnishedStill("expand of nothing");
        usual().expands("x", "x");
    }

    // "sign of 33 to 126": each byte there is, alone and in the midst
    private static void signsFrom33To126() {
        for (int sign = 0; sign < 256; sign++) {
            Probe probe = usual().expands("kept", "kept");
            String alone = "" + (char) sign;
            String amidst = "x" + (char) sign + "y";
            if (sign >= 33 && sign <= 126 && sign != '%') {
                probe.expands(alone, alone).expands(amidst, amidst);
            } else {
                probe.refusesToExpand(alone).refusesToExpand(amidst).refusesToExpand("x" + alone).holds("kept");
            }
        }
    }

    // "MACRO %% is %, %_ a blank, %- the signs %20"
    private static void signsOfTwo() {
        Probe probe = usual().expands("%%", "%").expands("%_", " ").expands("%-", "%20");
        probe.expands("x%%y", "x%y").expands("x%_y", "x y").expands("x%-y", "x%20y").expands("%%%%%%", "%%%");
        // What a macro became is not read again.
        probe.expands("%%_", "%_").expands("%%-", "%-").expands("%%{s}", "%{s}").expands("%%%_", "% ").expands("%-_", "%20_");
    }

    // "of X: s LOCAL, @ and DOMAIN; l LOCAL; o DOMAIN; d the NAME that is checked; i the address"
    private static void lettersOfMacros() {
        Probe probe = usual();
        for (int sign = 33; sign < 127; sign++) {
            int place = "slodi".indexOf(sign);
            String macro = "%{" + (char) sign + "}";
            if (place < 0) {
                probe.refusesToExpand(macro);
            } else {
                String[] become = {"u-v.w@a.b.com", "u-v.w", "a.b.com", "a.b.com", "10.200.3.4"};
                probe.expands(macro, become[place]).expands("<" + macro + ">", "<" + become[place] + ">");
            }
        }
    }

    // "of n (a digit, not 0) the last n parts": fewer, as many, and more than there are
    private static void theLastParts() {
        String local = "a.b.c.d.e.f.g.h.i.j.k";
        Probe probe = new Probe().from(HERE, local + "@q");
        for (int n = 1; n <= 9; n++) {
            probe.expands("%{l" + n + "}", local.substring(local.length() - 2 * n + 1));
        }
        probe.expands("%{l}", local);
        Probe few = usual();
        for (int n = 1; n <= 9; n++) {
            few.expands("%{o" + n + "}", n == 1 ? "com" : n == 2 ? "b.com" : "a.b.com");
            few.expands("%{i" + n + "}", n == 1 ? "4" : n == 2 ? "3.4" : n == 3 ? "200.3.4" : "10.200.3.4");
        }
        refuses("%{l0}", "%{l0r}", "%{l00}", "%{l10}", "%{l01}", "%{l-1}", "%{l/}", "%{l:}", "%{l1");
        new Probe().from(HERE, "x@one").expands("%{o1}", "one").expands("%{o9}", "one").expands("%{o1r}", "one");
    }

    // "parted at each ., with r turned round, of n ... the last n parts": all n, against lists
    private static void turnedRoundFirst() {
        String[] mailboxes = {"u-v.w@a.b.com", "x@y", "a.b.c@d.e.f", ".a@b", "1.2.3.4.5.6.7.8.9.10@x.y"};
        for (String mailbox : mailboxes) {
            Probe probe = new Probe().from(HERE, mailbox);
            for (int n = 0; n <= 9; n++) {
                String macro = "%{s" + (n == 0 ? "" : n);
                probe.expands(macro + "}", parts(mailbox, n, false)).expands(macro + "r}", parts(mailbox, n, true));
            }
        }
        usual().expands("%{or}", "com.b.a").expands("%{o2r}", "b.a").expands("%{o1r}", "a").expands("%{ir}", "4.3.200.10");
        refuses("%{or2}", "%{orr}", "%{r}", "%{o2rr}", "%{oR}", "%{o2R}");
    }

    private static String parts(String text, int n, boolean turned) {
        List<String> parts = new ArrayList<>(List.of(text.split("\\.", -1)));
        if (turned) {
            Collections.reverse(parts);
        }
        return String.join(".", n == 0 ? parts : parts.subList(Math.max(0, parts.size() - n), parts.size()));
    }

    // "parted at each ., ... joined with . again": parts of a LOCAL may be empty
    private static void partsThatAreEmpty() {
        String[] locals = {".", "..", ".a", "a.", "a..b", "..a..b..", ".".repeat(30)};
        for (String local : locals) {
            Probe probe = new Probe().from(HERE, local + "@q");
            for (int n = 0; n <= 9; n += n < 4 ? 1 : 5) {
                String macro = "%{l" + (n == 0 ? "" : n);
                probe.expands(macro + "}", parts(local, n, false)).expands(macro + "r}", parts(local, n, true));
            }
        }
    }

    // "i the address, four numbers with . between"
    private static void numbersOfAnAddress() {
        int[] numbers = {0, 1, 9, 10, 99, 100, 127, 128, 199, 200, 255};
        for (int number : numbers) {
            Probe probe = new Probe();
            for (int shift = 0; shift <= 24; shift += 8) {
                int address = number << shift;
                String[] four = {"0", "0", "0", "0"};
                four[3 - shift / 8] = "" + number;
                probe.from(address, "x@a").expands("%{i}", String.join(".", four));
                Collections.reverse(Arrays.asList(four));
                probe.expands("%{ir}", String.join(".", four));
            }
        }
    }

    // "without a % that does not begin a MACRO"
    private static void percentsThatBeginNoMacro() {
        refuses("%", "x%", "%x", "%%%", "%{", "%{}", "%{s", "%{s1", "%{s1r", "%{s}%", "%{ss}", "%{s s}", "%s", "%}", "%2",
            "%20", "% ", "%\0", "%{s.}", "%{s,}", "%{S}", "%{1}", "%{1s}", "%{\u00f3}", "x%{s}y%{", "%{p}", "%{v}", "%{h}",
            "%(s}", "%xs}", "%ss}", "%[s]", "%{s)", "%}s{");
        Probe probe = usual().expands("%{o}{", "a.b.com{").expands("{%{o}}", "{a.b.com}").expands("%%{", "%{");
        probe.expands("x".repeat(796) + "%{l}", "x".repeat(796) + "u-v.w");
        probe.refusesToExpand("x".repeat(797) + "%{l").refusesToExpand("x".repeat(799) + "%");
        // What stood behind the tape's end before is not read with it.
        Probe.due("feed", probe.policy.feed(0x257b6f7d, 0, 0, 0, 0), 20);
        Probe.due("end", probe.policy.end(3), 3);
        Probe.due("expand of a macro cut short", probe.policy.expand(), SendPolicy.REFUSED);
    }

    // "(/ may be in it)"
    private static void slashMayBeInIt() {
        usual().expands("/", "/").expands("a/b", "a/b").expands("//8/", "//8/").expands("%{o}/24", "a.b.com/24");
    }

    // "OUT becomes what becomes of the TAPE ...: how many bytes": 200 macros, each a whole mailbox
    private static void theLongestOut() {
        String mailbox = "l".repeat(30) + "@" + NAME_60;
        Probe probe = new Probe().from(-1, mailbox);
        probe.expands("%{s}".repeat(200), mailbox.repeat(200)).expands("%{s}".repeat(199) + "abc", mailbox.repeat(199) + "abc");
        Probe.due("octet of the shorter", probe.policy.octet(mailbox.length() * 200 - 1), SendPolicy.NONE);
        probe.expands("z", "z");
        new Probe().from(-1, mailbox).expands(Probe.pattern(800), Probe.pattern(800))
            .expands("%-".repeat(400), "%20".repeat(400)).expands("%_".repeat(400), " ".repeat(400));
        new Probe().from(-1, mailbox).expands("%{i}".repeat(200), "255.255.255.255".repeat(200));
    }

    // A D that is one may become nothing: OUT has no bytes then, which is no refusal.
    private static void outMayBecomeEmpty() {
        Probe probe = new Probe().from(HERE, "x.@a").expands("kept", "kept").expands("%{l1}", "");
        Probe.due("octet(0)", probe.policy.octet(0), SendPolicy.NONE);
        probe.expands("%{l1}%{l1}", "").expands("%{l1}x", "x").expands("%{l2}", "x.");
    }

    // "REFUSED ... without a SENDER"
    private static void refusedWithoutASender() {
        Probe probe = new Probe().refusesToExpand("abc").refusesToExpand("%{s}").refusesToExpand("%").refusesToExpand("");
        probe.holds("").from(HERE, "x@a").holds("").expands("abc", "abc");
    }

    // "REFUSED if it is none ... (OUT stays then)"
    private static void outStaysIfRefused() {
        Probe probe = usual().expands("first", "first");
        String[] bad = {"", "%", "abc%", "a b", "abcdefgh\u007f", "%{s}%{s}%"};
        for (String target : bad) {
            probe.refusesToExpand(target).holds("first").tapeHas(0, "a refused expand");
        }
        probe.expands("2nd", "2nd");
    }

    // "(the NAME that is checked is the SENDER's DOMAIN)": whatever was checked last
    private static void theCheckedNameIsTheDomain() {
        Probe probe = new Probe().from(HERE, "x@a.com").text("a.com", "v=spf1 include:b.com").text("b.com", "v=spf1 what");
        probe.expands("%{d}", "a.com").permits("broken inside", 6, 1, 0).expands("%{d}", "a.com");
        probe.from(HERE, "x@c.com").expands("%{d}", "c.com").expands("%{d1r}", "c");
    }

    // "Byte k of OUT; for k -1 how many"
    private static void octetsOfOut() {
        Probe probe = usual().expands("a~", "a~");
        for (int round = 0; round < 2; round++) {
            Probe.due("octet(-1)", probe.policy.octet(-1), 2);
            Probe.due("octet(0)", probe.policy.octet(0), 'a');
            Probe.due("octet(1)", probe.policy.octet(1), '~');
        }
    }

    // "NONE if there is none"
    private static void noneIfThereIsNone() {
        Probe probe = Probe.furnished();
        int[] none = {4, 5, -2, -3, 64, 800, 18200, 1 << 16, Integer.MAX_VALUE, Integer.MIN_VALUE, Integer.MIN_VALUE + 1};
        for (int k : none) {
            Probe.due("octet(" + k + ")", probe.policy.octet(k), SendPolicy.NONE);
            Probe.due("octet(" + k + ") of a new object", new SendPolicy().octet(k), SendPolicy.NONE);
        }
        Probe.due("octet(3)", probe.policy.octet(3), 't');
        probe.isFurnishedStill("octets that are none");
        // The longer OUT before is not seen behind the shorter one.
        Probe.due("octet(0) of a new object", new SendPolicy().octet(0), SendPolicy.NONE);
        usual().expands("longer", "longer").expands("ab", "ab").expands("c", "c");
    }
}
