/** The boundary cases of what TERMS match, of COUNT and of VOID: promises 7 and 8, sentence by sentence. */
public final class MatchEdgesTest {
    private static final int NONE = 0, NEUTRAL = 1, PASS = 2, FAIL = 3, SOFT = 4, TROUBLE = 5, BROKEN = 6;
    private static final int HERE = Probe.address(1, 2, 3, 4);

    public static void main(String[] args) {
        theFirstThatMatches();
        theFirstBits();
        thirtyTwoBitsWithout();
        whatIncludeMakesOfACheck();
        addressesOfDOrOfTheChecked();
        domainAndCheckedName();
        existsForAnyAddress();
        exchangesInTheirOrder();
        tenAreCounted();
        elevenAreBroken();
        atOnceInsideToo();
        whatIsNotCounted();
        twoAreVoid();
        threeAreBroken();
        exchangesOwnAreNotVoid();
        troubleAtOnce();
        noNameHasNoEntries();
        redirectIfNoneMatches();
        neutralElse();
        costBeforeAny();
        costOfTheLatest();
        costOfOthers();
        Probe.finish();
    }

    private static Probe with(String terms) {
        return new Probe().from(HERE, "x@a.com").text("a.com", "v=spf1 " + terms);
    }

    /** A domain with ten terms at most that are counted and never match nor are void. */
    private static Probe counting(int times, String last) {
        return with("a:far ".repeat(times) + last).host("far", ~HERE).host("near", HERE).exchange("far", "far")
            .exchange("near", "near").text("yes", "v=spf1 all").text("no", "v=spf1 -all");
    }

    // "The TERMS ..., in their order; the first that MATCHES gives PASS, NEUTRAL, SOFT, FAIL by its SIGN"
    private static void theFirstThatMatches() {
        String[] signs = {"+", "?", "~", "-", ""};
        int[] due = {PASS, NEUTRAL, SOFT, FAIL, PASS};
        String[] terms = {"all", "ip4:1.2.3.4", "a:near", "mx:near", "exists:far", "include:yes"};
        for (int k = 0; k < signs.length; k++) {
            String other = signs[k].equals("~") ? "-" : "~";
            for (String term : terms) {
                int counted = term.startsWith("all") || term.startsWith("ip4") ? 0 : 1;
                counting(0, signs[k] + term).permits(term + " alone", due[k], counted, 0);
                counting(0, signs[k] + term + " " + other + "all").permits(term + " first", due[k], counted, 0);
                counting(0, other + "ip4:9.9.9.9 " + signs[k] + term + " " + other + "a:near")
                    .permits(term + " behind one that does not match", due[k], counted, 0);
            }
        }
    }

    // "the first N bits of the SENDER's address are Q's"; "the first N bits of one are the SENDER's"
    private static void theFirstBits() {
        int[] senders = {HERE, 0, -1, Integer.MIN_VALUE, Integer.MAX_VALUE, 0x55555555, 0xaaaaaaaa};
        for (int sender : senders) {
            for (int bits = 0; bits <= 32; bits++) {
                // The bit that stands next behind the first N may differ, and all behind it; the last of them may not.
                bitsHold(sender, bits, sender ^ (bits == 32 ? 0 : -1 >>> bits), PASS);
                bitsHold(sender, bits, sender ^ (bits == 32 ? 0 : 1 << 31 - bits), PASS);
                if (bits > 0) {
                    bitsHold(sender, bits, sender ^ 1 << 32 - bits, FAIL);
                    bitsHold(sender, bits, sender ^ 1 << 31, FAIL);
                }
            }
        }
    }

    private static void bitsHold(int sender, int bits, int other, int due) {
        String network = (other >>> 24) + "." + (other >>> 16 & 255) + "." + (other >>> 8 & 255) + "." + (other & 255);
        String why = " of " + Integer.toHexString(sender) + " and " + Integer.toHexString(other) + "/" + bits;
        Probe probe = new Probe().from(sender, "x@q").text("q", "v=spf1 ip4:" + network + "/" + bits + " -all");
        probe.permits("ip4" + why, due, 0, 0);
        probe.text("h", "v=spf1 a/" + bits + " -all").host("h", other).from(sender, "x@h").permits("a" + why, due, 1, 0);
        probe.text("m", "v=spf1 mx/" + bits + " -all").exchange("m", "h").from(sender, "x@m").permits("mx" + why, due, 1, 0);
    }

    // "32 without"
    private static void thirtyTwoBitsWithout() {
        String[] terms = {"ip4:1.2.3.4", "a:b", "mx:b"};
        for (String term : terms) {
            for (int bit = -1; bit < 32; bit++) {
                int from = bit < 0 ? HERE : HERE ^ 1 << bit;
                Probe probe = new Probe().from(from, "x@a.com").text("a.com", "v=spf1 " + term + " -all");
                probe.host("b", HERE).exchange("b", "b");
                probe.permits(term + " but for bit " + bit, bit < 0 ? PASS : FAIL, term.startsWith("ip4") ? 0 : 1, 0);
            }
        }
    }

    // "include: CHECK of D: PASS: it matches; TROUBLE, BROKEN: that at once; NONE: BROKEN"
    private static void whatIncludeMakesOfACheck() {
        String[] inside = {"all", "-all", "~all", "?all", "", "ip4:9.9.9.9", "what", "a:t"};
        int[] due = {SOFT, FAIL, FAIL, FAIL, FAIL, FAIL, BROKEN, TROUBLE};
        for (int k = 0; k < inside.length; k++) {
            Probe probe = with("~include:b.com -all").text("b.com", "v=spf1 " + inside[k]).trouble("t");
            probe.permits("include of " + inside[k], due[k], inside[k].equals("a:t") ? 2 : 1, 0);
        }
        with("?include:b.com all").permits("include of none", BROKEN, 1, 0);
        with("?include:b.com all").text("b.com", "v=spf").permits("include of another text", BROKEN, 1, 0);
        with("?include:b.com all").text("b.com", "v=spf1").text("b.com", "v=spf1").permits("include of two", BROKEN, 1, 0);
        with("?include:b.com all").trouble("b.com").permits("include of trouble", TROUBLE, 1, 0);
        // At once: what would match behind it is not asked.
        with("?include:b.com all").text("b.com", "v=spf1 include:c.com all").permits("none inside", BROKEN, 2, 0);
    }

    // "a: ADDRESSES of D (d without)"; "mx: EXCHANGES of D (d without)"
    private static void addressesOfDOrOfTheChecked() {
        with("a -all").host("a.com", HERE).host("b.com", 1).permits("a without D", PASS, 1, 0);
        with("a:b.com -all").host("a.com", HERE).host("b.com", 1).permits("a with D", FAIL, 1, 0);
        with("mx -all").exchange("a.com", "h").exchange("b.com", "z").host("h", HERE).permits("mx without D", PASS, 1, 0);
        with("mx:b.com -all").exchange("a.com", "h").exchange("b.com", "z").host("h", HERE).permits("mx with D", FAIL, 1, 0);
        // d is the name that is checked now, and again the outer one behind an include.
        with("include:b.com a -all").text("b.com", "v=spf1 -a").host("b.com", HERE).host("a.com", HERE)
            .permits("d inside and behind", PASS, 3, 0);
        with("include:b.com ?a -all").text("b.com", "v=spf1 -a").host("b.com", HERE).host("a.com", 1)
            .permits("d behind is not that inside", FAIL, 3, 0);
        with("include:b.com exists:%{d}.x -all").text("b.com", "v=spf1 -all").host("b.com.x", 1)
            .permits("%{d} behind is not that inside", FAIL, 2, 1);
        with("redirect=b.com").text("b.com", "v=spf1 a -all").host("b.com", HERE).permits("d of the redirect", PASS, 2, 0);
        // A term without D takes none from another term, nor from another record.
        with("a exists:z.z").host("a.com", HERE).permits("a D behind it", PASS, 1, 0);
        with("-a:b.com a").host("a.com", HERE).host("b.com", 1).permits("a D before it", PASS, 2, 0);
        with("mx redirect=b.com").exchange("a.com", "h").host("h", HERE).permits("a redirect's D behind it", PASS, 1, 0);
        with("include:b.com include:c.com -all").text("b.com", "v=spf1 " + "x=y ".repeat(50) + "-exists:h").host("h", 1)
            .text("c.com", "v=spf1 a").host("c.com", HERE).permits("a D in the record before", PASS, 4, 0);
        with("a/31 -all").host("a.com", 1).host("a.com", HERE ^ 2).host("a.com", HERE ^ 1).permits("the third", PASS, 1, 0);
    }

    // "o DOMAIN; d the NAME that is checked": they part in a record of another name
    private static void domainAndCheckedName() {
        String[] before = {"include:b.net -all", "redirect=b.net"};
        for (String terms : before) {
            Probe probe = with(terms).text("b.net", "v=spf1 exists:%{o}.o exists:%{d}.d -all");
            probe.permits("neither is there", FAIL, 3, 2).host("a.com.d", 1).host("b.net.o", 1);
            probe.permits("nor the one for the other", FAIL, 3, 2).host("b.net.d", 1).permits("d", PASS, 3, 1);
            probe.host("a.com.o", 1).permits("o", PASS, 2, 0);
            probe = with(terms).text("b.net", "v=spf1 redirect=%{d1}.%{o1}").text("net.com", "v=spf1 exists:%{s}.%{d}");
            probe.permits("s is the sender's everywhere", terms.startsWith("r") ? NEUTRAL : FAIL, 3, 1);
        }
        with("redirect=x.%{d}").text("x.a.com", "v=spf1 include:y.%{d} -all").text("y.x.a.com", "v=spf1 a")
            .host("y.x.a.com", HERE).permits("d grows from name to name", PASS, 3, 0);
    }

    // "exists: D has an ADDRESS"
    private static void existsForAnyAddress() {
        int[] addresses = {0, -1, HERE, Integer.MIN_VALUE};
        for (int address : addresses) {
            with("exists:b.com -all").host("b.com", address).permits("exists", PASS, 1, 0);
        }
        with("exists:b.com -all").text("b.com", "v=spf1 all").exchange("b.com", "a.com").host("a.com", HERE)
            .permits("entries that are no addresses", FAIL, 1, 1);
    }

    // "mx: EXCHANGES of D ..., in their order, as a with each of them"
    private static void exchangesInTheirOrder() {
        Probe probe = with("mx -all").exchange("a.com", "m1").permits("an exchange without addresses", FAIL, 1, 0);
        probe.exchange("a.com", "m2").host("m2", HERE ^ 1).permits("another address", FAIL, 1, 0);
        probe.host("m2", HERE).permits("the second address of the second", PASS, 1, 0);
        probe.exchange("a.com", "m3").trouble("m3").permits("trouble behind it is not asked", PASS, 1, 0);
        probe.trouble("m1").permits("trouble before it is", TROUBLE, 1, 0);
        with("mx -all").exchange("a.com", "m").exchange("m", "n").host("n", HERE).permits("no exchange's exchange", FAIL, 1, 0);
        with("mx -all").host("a.com", HERE).exchange("b.com", "a.com").permits("another's exchange", FAIL, 1, 1);
        Probe many = with("mx -all");
        for (int k = 2; k <= 38; k++) {
            many.exchange("a.com", "m" + k);
        }
        many.permits("37 exchanges are no limit", FAIL, 1, 0);
        many.exchange("a.com", "m").host("m", HERE).permits("the last of 38", PASS, 1, 0);
    }

    // "COUNT 1 each, and more than 10 are BROKEN": ten are not
    private static void tenAreCounted() {
        String[] last = {"a:near -all", "mx:near -all", "exists:far -all", "include:yes -all", "redirect=yes"};
        for (String terms : last) {
            for (int before = 0; before <= 9; before++) {
                counting(before, terms).permits(before + " before " + terms, PASS, before + 1, 0);
            }
        }
        counting(10, "-all").permits("ten and all", FAIL, 10, 0);
        counting(10, "ip4:1.2.3.4").permits("ten and ip4", PASS, 10, 0);
        counting(10, "x=y").permits("ten and no match", NEUTRAL, 10, 0);
    }

    // "more than 10 are BROKEN, at once": the eleventh is counted, but not looked up
    private static void elevenAreBroken() {
        String[] last = {"a:near", "mx:near", "exists:far", "include:yes", "redirect=yes", "a:void", "mx:void", "exists:void",
            "include:none", "a:t", "include:t", "redirect=t"};
        for (String term : last) {
            Probe probe = counting(10, term + " x=y").trouble("t").permits("the eleventh is " + term, BROKEN, 11, 0);
            probe.permits("and again", BROKEN, 11, 0).from(HERE, "x@no").permits("another then", FAIL, 0, 0);
            counting(10, term + " ip4:1.2.3.4").trouble("t")
                .permits("what matches behind " + term, term.startsWith("redirect") ? PASS : BROKEN,
                    term.startsWith("redirect") ? 10 : 11, 0);
        }
        counting(40, "all").permits("the others are not counted", BROKEN, 11, 0);
    }

    // "at once", from however deep, and what is counted inside counts here
    private static void atOnceInsideToo() {
        for (int depth = 1; depth <= 12; depth++) {
            Probe chain = with("include:n1 all");
            Probe ring = with("redirect=n1");
            for (int k = 1; k <= depth; k++) {
                String next = k == depth ? "ip4:1.2.3.4" : "include:n" + (k + 1) + " -all";
                chain.text("n" + k, "v=spf1 " + next);
                ring.text("n" + k, "v=spf1 redirect=" + (k == depth ? "end" : "n" + (k + 1)));
            }
            chain.permits(depth + " includes", depth <= 10 ? PASS : BROKEN, Math.min(depth, 11), 0);
            ring.text("end", "v=spf1 -all").permits(depth + " redirects and one", depth <= 9 ? FAIL : BROKEN,
                Math.min(depth + 1, 11), 0);
            // A chain that broke deep inside leaves nothing for the next one.
            chain.from(HERE, "x@n" + depth).permits("the last alone", PASS, 0, 0);
        }
        Probe inside = counting(4, "include:b all").text("b", "v=spf1 " + "a:far ".repeat(5));
        inside.permits("ten in two records", PASS, 10, 0);
        counting(5, "include:b all").text("b", "v=spf1 " + "a:far ".repeat(5)).permits("eleven", BROKEN, 11, 0);
        counting(4, "include:b a:far all").text("b", "v=spf1 " + "a:far ".repeat(5)).permits("behind", BROKEN, 11, 0);
        with("include:a.com all").permits("itself", BROKEN, 11, 0);
        with("redirect=a.com").permits("to itself", BROKEN, 11, 0);
        with("include:b include:b all").text("b", "v=spf1 include:c include:c").text("c", "v=spf1 include:d include:d")
            .text("d", "v=spf1 -all").permits("a tree of fourteen", BROKEN, 11, 0);
    }

    // The other side of "Those that follow COUNT": all, ip4 and WORD=VALUE do not.
    private static void whatIsNotCounted() {
        with("ip4:9.9.9.9 x=y ".repeat(40) + "-all").permits("eighty terms", FAIL, 0, 0);
        counting(10, "ip4:9.9.9.9 ".repeat(20) + "-all").permits("behind ten", FAIL, 10, 0);
        counting(9, "redirect=no -all").permits("a redirect that is not taken", FAIL, 9, 0);
        Probe many = with("mx ".repeat(10) + "-all");
        for (int k = 0; k < 20; k++) {
            many.exchange("a.com", "m" + k).permits("exchanges of ten mx", FAIL, 10, 0);
        }
    }

    // "VOID ...: more than 2: BROKEN": two are not
    private static void twoAreVoid() {
        String[] terms = {"a", "a:z", "mx", "mx:z", "exists:z", "a:b..c", "mx:%%", "exists:%_"};
        for (String first : terms) {
            with(first + " -all").permits("void: " + first, FAIL, 1, 1);
            for (String second : terms) {
                with(first + " " + second + " -all").permits("void: " + first + " " + second, FAIL, 2, 2);
                with(first + " " + second + " a:b -all").host("b", HERE)
                    .permits("a match behind: " + first + " " + second, PASS, 3, 2);
            }
        }
        with("a:b a:z a:b mx:b a:z a:b -all").host("b", 1).exchange("b", "b").permits("others between", FAIL, 6, 2);
    }

    // "more than 2: BROKEN, at once": "the one too many with them"
    private static void threeAreBroken() {
        String[] terms = {"a", "a:z", "mx", "mx:z", "exists:z", "exists:b..c"};
        for (String third : terms) {
            Probe probe = with("a:y mx:y " + third + " all").permits("the third is " + third, BROKEN, 3, 3);
            probe.permits("and again", BROKEN, 3, 3).from(HERE, "x@b").text("b", "v=spf1 a mx ?all");
            probe.permits("two for another then", NEUTRAL, 2, 2);
        }
        with("a ".repeat(30)).permits("the others are not counted", BROKEN, 3, 3);
        with("a include:b all").text("b", "v=spf1 a a").permits("two of them inside", BROKEN, 4, 3);
        with("a mx redirect=b").text("b", "v=spf1 a all").permits("the third behind a redirect", BROKEN, 4, 3);
        with("a include:b a all").text("b", "v=spf1 -a").permits("one inside", BROKEN, 4, 3);
        counting(7, "a:z a:z a:z all").permits("the third is the tenth counted", BROKEN, 10, 3);
        counting(8, "a:z a:z a:z all").permits("the third would be the eleventh counted", BROKEN, 11, 2);
        counting(8, "a:z a:z -all").permits("ten with two", FAIL, 10, 2);
    }

    // "(not the exchanges' own)"; include and redirect of none are no VOID either
    private static void exchangesOwnAreNotVoid() {
        Probe probe = with("mx -all");
        for (int k = 0; k < 5; k++) {
            probe.exchange("a.com", "m" + k).permits(k + " exchanges without addresses", FAIL, 1, 0);
        }
        with("a:y a:z mx -all").exchange("a.com", "m").permits("behind two", FAIL, 3, 2);
        with("a:y a:z include:q all").permits("include of none", BROKEN, 3, 2);
        with("a:y a:z redirect=q").permits("redirect to none", BROKEN, 3, 2);
        with("a:y a:z ip4:9.9.9.9 -all").permits("ip4", FAIL, 2, 2);
    }

    // "TROUBLE at once"
    private static void troubleAtOnce() {
        String[] terms = {"a:t", "mx:t", "exists:t", "mx:m", "include:t"};
        for (String term : terms) {
            Probe probe = with(term + " all").trouble("t").exchange("m", "t").permits("trouble: " + term, TROUBLE, 1, 0);
            probe.from(HERE, "x@b").text("b", "v=spf1 ?all " + term).permits("not reached: " + term, NEUTRAL, 0, 0);
            with("?include:b all").text("b", "v=spf1 " + term).trouble("t").exchange("m", "t")
                .permits("inside: " + term, TROUBLE, 2, 0);
        }
    }

    // "If it is no NAME then: it has no entries"
    private static void noNameHasNoEntries() {
        String name60 = "a".repeat(20) + "." + "b".repeat(20) + "." + "c".repeat(18);
        String[] none = {name60 + "c", name60 + ".", name60 + "%{s}%{s}", "a".repeat(21), "x..y", ".x", "x.", "X", "x%_",
            "%_x", "x%%", "x%-", "%{s}", "x@y", "x:y", "~", "x".repeat(600)};
        for (String target : none) {
            with("a:" + target + " -all").host(name60, HERE).host("x", HERE).permits("a of " + target, FAIL, 1, 1);
            with("mx:" + target + " -all").exchange(name60, "x").exchange("x", "x").host("x", HERE)
                .permits("mx of " + target, FAIL, 1, 1);
            with("exists:" + target + " -all").host(name60, HERE).host("x", HERE).permits("exists of " + target, FAIL, 1, 1);
            with("include:" + target + " all").text(name60, "v=spf1 all").text("x", "v=spf1 all")
                .permits("include of " + target, BROKEN, 1, 0);
            with("redirect=" + target).text(name60, "v=spf1 all").text("x", "v=spf1 all")
                .permits("redirect to " + target, BROKEN, 1, 0);
        }
        String[] some = {name60, "a%{o1}", "%{d}", "x"};
        String[] names = {name60, "acom", "a.com", "x"};
        for (int k = 0; k < some.length; k++) {
            with("a:" + some[k] + " -all").host(names[k], HERE).permits("a of " + some[k], PASS, 1, 0);
        }
        with("include:" + name60 + " -all").text(name60, "v=spf1 a").host(name60, HERE).permits("include of 60", PASS, 2, 0);
        // Nothing at all is no NAME.
        Probe empty = with("a:%{l1} exists:%{l1} -all").from(HERE, "x.@a.com").permits("an empty D", FAIL, 2, 2);
        empty.from(HERE, "x@b").text("b", "v=spf1 -include:%{l1}").from(HERE, "x.@b").permits("an empty D", BROKEN, 1, 0);
    }

    // "If none matches: redirect, if it is there and no all is: COUNT, then CHECK of its D, NONE being BROKEN"
    private static void redirectIfNoneMatches() {
        String[] inside = {"all", "-all", "~all", "?all", "", "what", "a:t"};
        int[] due = {PASS, FAIL, SOFT, NEUTRAL, NEUTRAL, BROKEN, TROUBLE};
        for (int k = 0; k < inside.length; k++) {
            Probe probe = with("redirect=b.com").text("b.com", "v=spf1 " + inside[k]).trouble("t");
            probe.permits("redirect to " + inside[k], due[k], inside[k].equals("a:t") ? 2 : 1, 0);
        }
        with("redirect=b.com").permits("to none", BROKEN, 1, 0);
        with("redirect=b.com").text("b.com", "x").permits("to another text", BROKEN, 1, 0);
        with("redirect=b.com").text("b.com", "v=spf1").text("b.com", "v=spf1").permits("to two", BROKEN, 1, 0);
        with("redirect=b.com").trouble("b.com").permits("to trouble", TROUBLE, 1, 0);
        with("redirect=b.com ?ip4:1.2.3.4").text("b.com", "v=spf1 -all").permits("one matches behind it", NEUTRAL, 0, 0);
        with("redirect=b.com ip4:9.9.9.9").text("b.com", "v=spf1 -all").permits("one does not", FAIL, 1, 0);
        with("redirect=b.com ~all").text("b.com", "v=spf1 -all").permits("all is behind it", SOFT, 0, 0);
        with("~all redirect=b.com").text("b.com", "v=spf1 -all").permits("all is before it", SOFT, 0, 0);
        with("~all redirect=b.com").permits("all, and none to go to", SOFT, 0, 0);
        with("?a redirect=b.com").host("a.com", 1).text("b.com", "v=spf1 -all").permits("counted behind another", FAIL, 2, 0);
    }

    // "else NEUTRAL"
    private static void neutralElse() {
        with("").permits("no terms", NEUTRAL, 0, 0);
        with("-ip4:9.9.9.9").permits("none that matches", NEUTRAL, 0, 0);
        with("-a -mx").permits("none that matches, counted", NEUTRAL, 2, 2);
        with("x=y redirec=b.com").text("b.com", "v=spf1 -all").permits("words alone", NEUTRAL, 0, 0);
    }

    // "0 before any"
    private static void costBeforeAny() {
        Probe probe = new Probe().text("a.com", "v=spf1 a mx all");
        Probe.due("permission", probe.policy.permission(), SendPolicy.REFUSED);
        Probe.due("cost(0) of none", probe.policy.cost(0), 0);
        Probe.due("cost(1) of none", probe.policy.cost(1), 0);
        probe.from(HERE, "x@a.com").expands("%{s}", "x@a.com");
        Probe.due("cost(0) of a sender alone", probe.policy.cost(0), 0);
        Probe.due("cost(1) of a sender alone", probe.policy.cost(1), 0);
        probe.permits("then", PASS, 2, 2);
    }

    // "How often the latest PERMISSION has COUNTED (what 0), how many were VOID (1)"
    private static void costOfTheLatest() {
        Probe probe = Probe.furnished();
        for (int round = 0; round < 3; round++) {
            Probe.due("cost(0)", probe.policy.cost(0), 3);
            Probe.due("cost(1)", probe.policy.cost(1), 1);
        }
        probe.permits("the same again, not added", SOFT, 3, 1).from(HERE, "u@none").permits("less then", NONE, 0, 0);
        probe.from(HERE, "u@loop").text("loop", "v=spf1 a redirect=loop").permits("more then", BROKEN, 5, 3);
        probe.expands("%{d}%{d}", "looploop").permits("expand costs nothing", BROKEN, 5, 3);
        probe.trouble("loop").permits("trouble from the start", TROUBLE, 0, 0);
    }

    // "REFUSED for others"
    private static void costOfOthers() {
        Probe probe = Probe.furnished();
        int[] others = {-1, 2, 3, -2, 256, Integer.MIN_VALUE, Integer.MIN_VALUE + 1, Integer.MAX_VALUE};
        for (int what : others) {
            Probe.due("cost(" + what + ")", probe.policy.cost(what), SendPolicy.REFUSED);
            Probe.due("cost(" + what + ") of a new object", new SendPolicy().cost(what), SendPolicy.REFUSED);
        }
        probe.isFurnishedStill("costs of others");
    }
}
