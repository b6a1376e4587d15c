/** Promises 9 and 10: expand and octet. */
public final class ExpandTest {
    public static void main(String[] args) {
        letters();
        partsAndTurns();
        partsThatAreEmpty();
        plainSigns();
        noTarget();
        outStays();
        longest();
        octets();
        Probe.finish();
    }

    private static Probe usual() {
        return new Probe().from(Probe.address(1, 22, 255, 4), "u-v.w@a.b.com");
    }

    private static void letters() {
        usual().expands("%{s}", "u-v.w@a.b.com").expands("%{l}", "u-v.w").expands("%{o}", "a.b.com")
            .expands("%{d}", "a.b.com").expands("%{i}", "1.22.255.4");
    }

    private static void partsAndTurns() {
        Probe probe = usual();
        probe.expands("%{ir}", "4.255.22.1").expands("%{i1}", "4").expands("%{i2r}", "22.1");
        probe.expands("%{i4}", "1.22.255.4").expands("%{i5}", "1.22.255.4").expands("%{i9r}", "4.255.22.1");
        probe.expands("%{s2}", "b.com").expands("%{sr}", "com.b.w@a.u-v").expands("%{s2r}", "w@a.u-v");
        probe.expands("%{d1}", "com").expands("%{d1r}", "a").expands("%{lr}", "w.u-v").expands("%{l1r}", "u-v");
        probe.expands("%{ir}.%{l1}._x.%{d2}", "4.255.22.1.w._x.b.com");
        probe.from(0, "x@one").expands("%{or}", "one").expands("%{o3}", "one");
    }

    private static void partsThatAreEmpty() {
        Probe probe = new Probe().from(0, "a..b.@c");
        probe.expands("%{l}", "a..b.").expands("%{lr}", ".b..a").expands("%{l1}", "").expands("%{l2}", "b.");
        probe.expands("%{l3}", ".b.").expands("%{l1r}", "a").expands("%{l2r}", ".a").expands("%{l3r}", "b..a");
        probe.from(0, "." + ".".repeat(29) + "@c").expands("%{l}", ".".repeat(30)).expands("%{lr}", ".".repeat(30));
        probe.expands("%{l9}", ".".repeat(8)).expands("%{l1r}", "");
    }

    private static void plainSigns() {
        Probe probe = usual();
        probe.expands("%%", "%").expands("%_", " ").expands("%-", "%20").expands("%%%%", "%%");
        probe.expands("%%{s}", "%{s}").expands("%%_", "%_").expands("%_%-%%-", " %20%-");
        probe.expands("!", "!").expands("~", "~").expands("/", "/").expands("a/b:c=d", "a/b:c=d");
        probe.expands("{s}", "{s}").expands("A.B", "A.B").expands("}{", "}{");
    }

    private static void noTarget() {
        Probe probe = usual().expands("kept", "kept");
        String[] bad = {"", " ", "a b", "\u007f", "\0", "\u0080", "\u00ff", "\t", "%", "a%", "%%%", "%a", "%{", "%{}",
            "%{s", "%{x}", "%{S}", "%{s0}", "%{s10}", "%{sr1}", "%{srr}", "%{s1r", "%{1}", "%{r}", "%{s }", "%{s-}",
            "%{ss}", "%{s}%", "% ", "%{d1r}}%", "%{p}", "%{h}", "%20"};
        for (String target : bad) {
            probe.refusesToExpand(target);
        }
        probe.holds("kept");
    }

    private static void outStays() {
        Probe probe = new Probe().refusesToExpand("abc");
        probe.holds("").from(1, "x@a.com").holds("").expands("abc", "abc");
        Probe.due("sender refused", probe.type("none").policy.sender(1), SendPolicy.REFUSED);
        probe.text("a.com", "v=spf1 exists:%{l}.b").permits("out is not for D of terms", 1, 1, 1).holds("abc");
        probe.expands("z", "z");
    }

    private static void longest() {
        String mailbox = "l".repeat(30) + "@" + "a".repeat(20) + "." + "b".repeat(20) + "." + "c".repeat(18);
        Probe probe = new Probe().from(1, mailbox);
        probe.expands("%{s}".repeat(200), mailbox.repeat(200));
        probe.expands("%-".repeat(400), "%20".repeat(400));
        probe.expands("a".repeat(800), "a".repeat(800));
    }

    private static void octets() {
        Probe probe = usual().expands("ab", "ab");
        int[] none = {-2, 2, 3, 800, Integer.MAX_VALUE, Integer.MIN_VALUE};
        for (int k : none) {
            Probe.due("octet(" + k + ")", probe.policy.octet(k), SendPolicy.NONE);
        }
        Probe.due("octet(1)", probe.policy.octet(1), 'b');
        Probe.due("octet(-1)", probe.policy.octet(-1), 2);
        // A shorter OUT shows nothing of the longer one before it.
        probe.expands("c", "c");
        Probe.due("octet(1)", probe.policy.octet(1), SendPolicy.NONE);
    }
}
