/** Promise 7: permission, its records, its terms and what they match; and promise 8 beside it. */
public final class PermissionTest {
    private static final int NONE = 0, NEUTRAL = 1, PASS = 2, FAIL = 3, SOFT = 4, TROUBLE = 5, BROKEN = 6;
    private static final int HERE = Probe.address(1, 2, 3, 4);

    public static void main(String[] args) {
        records();
        signs();
        goodTerms();
        brokenTerms();
        brokenBeforeAnyMatch();
        networks();
        includes();
        hosts();
        exchanges();
        existence();
        troubles();
        redirects();
        checkedNames();
        namesThatAreNone();
        Probe.finish();
    }

    private static Probe usual() {
        return new Probe().from(HERE, "x@a.com");
    }

    private static Probe with(String terms) {
        return usual().text("a.com", "v=spf1 " + terms);
    }

    private static void records() {
        Probe.due("without a sender", new Probe().text("a.com", "v=spf1 all").policy.permission(), SendPolicy.REFUSED);
        usual().permits("no text", NONE, 0, 0);
        usual().text("b.com", "v=spf1 all").permits("another's text", NONE, 0, 0);
        usual().text("a.co", "v=spf1 all").text("a.comm", "v=spf1 all").permits("names nearly the same", NONE, 0, 0);
        String[] others = {"", " ", "v=spf", "v=spf1x", "v=spf10 all", "V=spf1 all", " v=spf1 all", "v=spf1\tall", "x"};
        for (String value : others) {
            usual().text("a.com", value).permits("no policy: " + value, NONE, 0, 0);
            usual().text("a.com", value).text("a.com", "v=spf1 -all").permits("beside: " + value, FAIL, 0, 0);
        }
        usual().text("a.com", "v=spf1").permits("no terms", NEUTRAL, 0, 0);
        usual().text("a.com", "v=spf1 ").permits("a blank", NEUTRAL, 0, 0);
        usual().text("a.com", "v=spf1    ").permits("blanks", NEUTRAL, 0, 0);
        with("  -all  ").permits("blanks about", FAIL, 0, 0);
        with("all").text("a.com", "v=spf1").permits("two", BROKEN, 0, 0);
        with("all").text("a.com", "v=spf1 all").text("a.com", "v=spf1").permits("three", BROKEN, 0, 0);
        with("all").trouble("a.com").permits("trouble", TROUBLE, 0, 0);
        with("all").text("a.com", "v=spf1").trouble("a.com").permits("trouble before two", TROUBLE, 0, 0);
        usual().trouble("a.com").permits("trouble and no text", TROUBLE, 0, 0);
        usual().host("a.com", 1).exchange("a.com", "b").permits("other entries", NONE, 0, 0);
    }

    private static void signs() {
        with("all").permits("all", PASS, 0, 0);
        with("+all").permits("+all", PASS, 0, 0);
        with("?all").permits("?all", NEUTRAL, 0, 0);
        with("~all").permits("~all", SOFT, 0, 0);
        with("-all").permits("-all", FAIL, 0, 0);
        with("~all -all").permits("the first", SOFT, 0, 0);
        String[] terms = {"ip4:1.2.3.4", "a", "mx", "exists:a.com", "include:b.com"};
        for (String term : terms) {
            int counted = term.startsWith("ip4") ? 0 : 1;
            String[] signs = {"", "+", "?", "~", "-"};
            int[] due = {PASS, PASS, NEUTRAL, SOFT, FAIL};
            for (int k = 0; k < signs.length; k++) {
                with(signs[k] + term + " -all").host("a.com", HERE).exchange("a.com", "a.com")
                    .text("b.com", "v=spf1 all").permits(signs[k] + term, due[k], counted, 0);
            }
        }
    }

    private static void goodTerms() {
        String[] good = {"ip4:0.0.0.0", "ip4:255.255.255.255/32", "ip4:001.010.000.255", "ip4:9.9.9.9/08",
            "x=", "x=y", "exp=%", "a=1", "mx=", "all=", "include=b", "ip4=", "z9-_.=a=b", "v=spf1", "v=spf1 v=spf1",
            "x=\u0001\t\u00ff/:%{", "redirect-=1", "redirec=1", "redirect.=%", "x=1 x=1 x=2", "abc=1", "mxx=1", "allx=1"};
        for (String terms : good) {
            with(terms).permits(terms, NEUTRAL, 0, 0);
            with(terms + " -all").permits(terms + " -all", FAIL, 0, 0);
        }
        String[] counted = {"a", "a/0", "a/00", "a/32", "a/9", "a:b", "a:b/7", "a:b:c", "a:%{d}/24", "a:b=c", "a:-/01",
            "mx", "mx/0", "mx/32", "mx:b", "mx:b/7", "mx:%%", "exists:b", "exists:/", "exists:a/b", "exists:%{ir}.x",
            "exists:%_", "exists:!~", "a:a:b/3", "exists:b/99"};
        for (String terms : counted) {
            with(terms).permits(terms, NEUTRAL, 1, 1);
            with("~" + terms + " -all").permits("~" + terms + " -all", FAIL, 1, 1);
        }
    }

    private static void brokenTerms() {
        String[] bad = {"al", "alll", "All", "all:", "all/0", "all:b", "+", "-", "--all", "+-all", "all-", "\tall",
            "include", "include:", "include/b", "include:%", "include:%{x}", "include:b\u007f", "include:b\u0080",
            "Include:b", "a:", "a/", "a:/0", "a:b/", "a/33", "a/99", "a/032", "a/-1", "a/1x", "a/x", "a//0", "a/0/0",
            "a:b/c", "a:b/0/0", "a:b//0", "a:%", "a:%{d0}", "a:%{d/}", "a:b\t", "aa", "a:b%", "a\0",
            "mx:", "mx/", "mx:/0", "mx/33", "mx/000", "mx:b/c", "mx:%{", "mxx", "m", "MX", "mx:b/3/", "mx:\u00e4",
            "ip4", "ip4:", "ip4/8", "ip4:1", "ip4:1.2.3", "ip4:1.2.3.", "ip4:.1.2.3", "ip4:1..2.3", "ip4:1.2.3.4.",
            "ip4:1.2.3.4.5", "ip4:1.2.3.256", "ip4:256.2.3.1", "ip4:999.1.1.1", "ip4:0001.2.3.4", "ip4:1.2.3.0004",
            "ip4:1.2.3.4/", "ip4:1.2.3.4/33", "ip4:1.2.3.4/032", "ip4:1.2.3.4/0/0", "ip4:1.2.3.4/a", "ip4:%{i}",
            "ip4:1.2.3.4x", "ip4:1,2,3,4", "ip4:/8", "ip6:1.2.3.4", "ip4:-1.2.3.4", "IP4:1.2.3.4",
            "exists", "exists:", "exists:%{s", "exists:%{ir1}", "exists:%a", "exists=b:%\u0020%", "exist:b", "exists:\0",
            "redirect", "redirect=", "redirect=%", "redirect=%{q}", "redirect=\u0001", "redirect=b%", "redirect:b",
            "redirect=b redirect=b", "redirect=b x=y redirect=c", "+redirect=b", "-redirect=b", "~x=y", "?x=",
            "X=y", "x", "=", "=y", "9=y", "-=y", "_=y", ".=y", "xY=y", "x:y=z", "x/y=z", "x+=z", "x y=", "\u00e4=1",
            "x\t=1", "ptr", "ptr:b", "%", "%{d}", "\0", "\u00ff"};
        for (String terms : bad) {
            with(terms).permits(terms, BROKEN, 0, 0);
        }
    }

    private static void brokenBeforeAnyMatch() {
        with("all what").permits("behind all", BROKEN, 0, 0);
        with("a mx -all a/33").host("a.com", HERE).permits("behind a match, uncounted", BROKEN, 0, 0);
        with("all redirect=b redirect=c").permits("two redirects behind all", BROKEN, 0, 0);
        with("include:b.com all").text("b.com", "v=spf1 all ?").permits("inside", BROKEN, 1, 0);
        with("all include:b.com").text("b.com", "v=spf1 all ?").permits("inside what is not reached", PASS, 0, 0);
    }

    private static void networks() {
        with("ip4:1.2.3.4").permits("all bits", PASS, 0, 0);
        with("ip4:1.2.3.5").permits("the last bit", NEUTRAL, 0, 0);
        with("ip4:1.2.3.5/31").permits("31 the same", PASS, 0, 0);
        with("ip4:1.2.3.6/31").permits("31 others", NEUTRAL, 0, 0);
        with("ip4:129.2.3.4/1").permits("the first bit", NEUTRAL, 0, 0);
        with("ip4:127.255.255.255/1").permits("one bit", PASS, 0, 0);
        with("ip4:255.255.255.255/0").permits("no bits", PASS, 0, 0);
        with("ip4:255.255.255.255/00").permits("no bits in two digits", PASS, 0, 0);
        with("ip4:1.2.0.0/16").permits("16", PASS, 0, 0);
        with("ip4:1.3.0.0/16").permits("16 others", NEUTRAL, 0, 0);
        with("ip4:1.3.0.0/15").permits("15", PASS, 0, 0);
        with("ip4:1.3.0.0/015").permits("three digits", BROKEN, 0, 0);
        with("ip4:001.002.003.004/032").permits("three digits of 32", BROKEN, 0, 0);
        with("ip4:001.002.003.004").permits("zeros before", PASS, 0, 0);
        Probe high = with("ip4:200.0.0.0/5").from(Probe.address(207, 255, 1, 1), "x@a.com");
        high.permits("high addresses", PASS, 0, 0).from(Probe.address(208, 0, 0, 0), "x@a.com");
        high.permits("high addresses, others", NEUTRAL, 0, 0);
    }

    private static void includes() {
        String[] inside = {"all", "?all", "-all", "~all", ""};
        for (String terms : inside) {
            int due = terms.equals("all") ? FAIL : SOFT;
            with("-include:b.com ~all").text("b.com", "v=spf1 " + terms).permits("include " + terms, due, 1, 0);
        }
        with("include:b.com all").permits("of no policy", BROKEN, 1, 0);
        with("include:b.com all").text("b.com", "hello").permits("of another text", BROKEN, 1, 0);
        with("include:b.com all").trouble("b.com").permits("of trouble", TROUBLE, 1, 0);
        with("include:b.com all").text("b.com", "v=spf1").text("b.com", "v=spf1").permits("of two", BROKEN, 1, 0);
        with("include:b.com -all").text("b.com", "v=spf1 include:c.com ?all").text("c.com", "v=spf1 ip4:1.0.0.0/8 -all")
            .permits("two deep", PASS, 2, 0);
        with("include:b.com -all").text("b.com", "v=spf1 include:c.com ?all").trouble("c.com")
            .permits("trouble two deep", TROUBLE, 2, 0);
        with("include:b.com -all").text("b.com", "v=spf1 include:c.com ?all").permits("none two deep", BROKEN, 2, 0);
        with("include:b.com ~include:c.com -all").text("b.com", "v=spf1 -all").text("c.com", "v=spf1 a:a.com")
            .host("a.com", HERE).permits("the second", SOFT, 3, 0);
    }

    private static void hosts() {
        with("a -all").host("a.com", 9).host("a.com", HERE).permits("the second address", PASS, 1, 0);
        with("a -all").host("a.com", HERE + 1).permits("another address", FAIL, 1, 0);
        with("a/24 -all").host("a.com", HERE ^ 255).permits("24 bits", PASS, 1, 0);
        with("a/24 -all").host("a.com", HERE ^ 256).permits("24 others", FAIL, 1, 0);
        with("a/0 -all").host("a.com", ~HERE).permits("no bits", PASS, 1, 0);
        with("a/0 -all").permits("no bits of no address", FAIL, 1, 1);
        with("a:b.com -all").host("a.com", HERE).host("b.com", 1).permits("the D, not d", FAIL, 1, 0);
        with("a:b.com -all").host("b.com", HERE).permits("a D", PASS, 1, 0);
        with("a:b.com/16 -all").host("b.com", HERE ^ 65535).permits("a D with bits", PASS, 1, 0);
        with("a:%{l}.%{o} -all").host("x.a.com", HERE).permits("a D with macros", PASS, 1, 0);
        with("a -all").exchange("a.com", "a.com").text("a.com", "x").permits("no address, void", FAIL, 1, 1);
    }

    private static void exchanges() {
        with("mx -all").host("a.com", HERE).permits("no exchange, void", FAIL, 1, 1);
        with("mx -all").exchange("a.com", "m.b").permits("its host has no address: no void", FAIL, 1, 0);
        with("mx -all").exchange("a.com", "m.b").host("m.b", HERE).permits("its host", PASS, 1, 0);
        with("mx/24 -all").exchange("a.com", "m.b").exchange("a.com", "n.b").host("n.b", HERE ^ 3)
            .permits("the second exchange", PASS, 1, 0);
        with("mx:c.com/31 -all").exchange("c.com", "m.b").host("m.b", HERE ^ 2).permits("31 others", FAIL, 1, 0);
        with("mx -all").exchange("a.com", "m.b").exchange("a.com", "n.b").host("m.b", HERE).trouble("n.b")
            .permits("a match before trouble", PASS, 1, 0);
        with("mx -all").exchange("a.com", "n.b").exchange("a.com", "m.b").host("m.b", HERE).trouble("n.b")
            .permits("trouble before a match", TROUBLE, 1, 0);
        with("mx -all").exchange("a.com", "n.b").exchange("n.b", "m.b").host("m.b", HERE)
            .permits("exchanges of exchanges are none", FAIL, 1, 0);
        Probe many = with("mx mx mx mx -all");
        for (int k = 0; k < 12; k++) {
            many.exchange("a.com", "m" + k);
        }
        many.permits("exchanges count nothing", FAIL, 4, 0);
    }

    private static void existence() {
        with("exists:b.com -all").host("b.com", 77).permits("any address", PASS, 1, 0);
        with("exists:b.com -all").exchange("b.com", "a.com").text("b.com", "x").permits("no address", FAIL, 1, 1);
        with("exists:%{ir}.%{l}.%{d2} -all").host("4.3.2.1.x.a.com", 0).permits("macros", PASS, 1, 0);
    }

    private static void troubles() {
        with("a all").host("a.com", HERE).trouble("b.com").permits("of another", PASS, 1, 0);
        with("a:b.com all").host("b.com", HERE).trouble("b.com").permits("a", TROUBLE, 1, 0);
        with("a:b.com all").trouble("b.com").permits("a of no address is no void", TROUBLE, 1, 0);
        with("mx:b.com all").exchange("b.com", "a").trouble("b.com").permits("mx", TROUBLE, 1, 0);
        with("exists:b.com all").host("b.com", 1).trouble("b.com").permits("exists", TROUBLE, 1, 0);
        with("all a:b.com").trouble("b.com").permits("not reached", PASS, 0, 0);
        with("ip4:1.2.3.4 a:b.com").trouble("b.com").permits("behind a match", PASS, 0, 0);
    }

    private static void redirects() {
        with("redirect=b.com").text("b.com", "v=spf1 ~all").permits("taken", SOFT, 1, 0);
        with("redirect=b.com ip4:9.9.9.9").text("b.com", "v=spf1 -all").permits("before other terms", FAIL, 1, 0);
        with("redirect=b.com ip4:1.2.3.4").text("b.com", "v=spf1 -all").permits("a match goes first", PASS, 0, 0);
        with("redirect=b.com ?all").text("b.com", "v=spf1 -all").permits("all is there", NEUTRAL, 0, 0);
        with("redirect=b.com").text("b.com", "v=spf1").permits("neutral", NEUTRAL, 1, 0);
        with("redirect=b.com").permits("of none", BROKEN, 1, 0);
        with("redirect=b.com").trouble("b.com").permits("of trouble", TROUBLE, 1, 0);
        with("redirect=b.com").text("b.com", "v=spf1 redirect=c.com").text("c.com", "v=spf1 a -all").host("c.com", HERE)
            .permits("of a redirect", PASS, 3, 0);
        with("redirect=_s.%{d}").text("_s.a.com", "v=spf1 -all").permits("macros", FAIL, 1, 0);
        with("include:b.com ~all").text("b.com", "v=spf1 redirect=c.com").text("c.com", "v=spf1 -all")
            .permits("fail inside include is no match", SOFT, 2, 0);
        with("include:b.com -all").text("b.com", "v=spf1 redirect=c.com").text("c.com", "v=spf1 all")
            .permits("pass inside include", PASS, 2, 0);
    }

    private static void checkedNames() {
        with("include:b.com -all").text("b.com", "v=spf1 a").host("b.com", HERE).permits("a of the included", PASS, 2, 0);
        with("include:b.com -all").text("b.com", "v=spf1 exists:%{d}.z").host("b.com.z", 1).permits("d", PASS, 2, 0);
        with("include:b.com -all").text("b.com", "v=spf1 exists:%{o}.z").host("a.com.z", 1).permits("o", PASS, 2, 0);
        with("include:b.com a -all").text("b.com", "v=spf1 -a").host("b.com", 1).host("a.com", HERE)
            .permits("d behind an include", PASS, 3, 0);
        with("redirect=b.com").text("b.com", "v=spf1 mx").exchange("b.com", "b.com").host("b.com", HERE)
            .permits("mx of the redirected", PASS, 2, 0);
        with("include:%{d1}.%{d} -all").text("com.a.com", "v=spf1 include:x%{d3} ?all")
            .text("xcom.a.com", "v=spf1 exists:%{d1r}.%{d}").host("xcom.xcom.a.com", 0).permits("three names", PASS, 3, 0);
    }

    private static void namesThatAreNone() {
        String long60 = "a".repeat(20) + "." + "b".repeat(20) + "." + "c".repeat(18);
        with("a:" + long60 + " -all").host(long60, HERE).permits("60", PASS, 1, 0);
        with("a:" + long60 + "c -all").host(long60, HERE).permits("61", FAIL, 1, 1);
        with("a:" + long60 + "%{s}%{s} -all").host(long60, HERE).permits("far more", FAIL, 1, 1);
        with("include:" + long60 + "c -all").text(long60, "v=spf1 all").permits("61 included", BROKEN, 1, 0);
        with("redirect=b..c").permits("redirected to none", BROKEN, 1, 0);
        with("include:B.com all").text("b.com", "v=spf1 all").permits("great letters", BROKEN, 1, 0);
        with("a:b.com. -all").host("b.com", HERE).permits("a dot behind", FAIL, 1, 1);
        with("exists:b.com%_ -all").host("b.com", HERE).permits("a blank behind", FAIL, 1, 1);
        with("mx:%{s} -all").exchange("a.com", "a.com").host("a.com", HERE).permits("an @ within", FAIL, 1, 1);
        with("exists:%{l1} -all").from(1, "x.@a.com").permits("nothing at all", FAIL, 1, 1);
    }
}
