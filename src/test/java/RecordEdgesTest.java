/** The boundary cases of a CHECK's texts and of how TERMS are written: promise 7, sentence by sentence. */
public final class RecordEdgesTest {
    private static final int NONE = 0, NEUTRAL = 1, PASS = 2, FAIL = 3, SOFT = 4, TROUBLE = 5, BROKEN = 6;
    private static final int HERE = Probe.address(1, 2, 3, 4);

    public static void main(String[] args) {
        refusedWithoutASender();
        textsThatAreRecords();
        troubleNoneTwo();
        blanksBetween();
        onlyBlanksPartTerms();
        whateverWouldMatchBefore();
        signs();
        digitsOfBits();
        numbersOfNetworks();
        whatMayLack();
        wordsAndValues();
        signsOfTargets();
        macrosOfTargets();
        slashesOfTargets();
        redirectOnceAtMost();
        smallLetters();
        Probe.finish();
    }

    private static Probe with(String terms) {
        return new Probe().from(HERE, "x@a.com").text("a.com", "v=spf1 " + terms);
    }

    /** Each is a term: the record holds, before it and behind it, and in a record that is included. */
    private static void areTerms(String... terms) {
        for (String term : terms) {
            with("~all " + term).permits("~all " + term, SOFT, 0, 0);
            with("ip4:1.2.3.4 " + term + " -all").permits("ip4 " + term, PASS, 0, 0);
            with("include:b.com -all").text("b.com", "v=spf1 all " + term).permits("included: " + term, PASS, 1, 0);
        }
    }

    /** Each is none: the record is broken, whatever would match before it, and nothing is looked up. */
    private static void areNone(String... terms) {
        for (String term : terms) {
            with(term).permits(term, BROKEN, 0, 0);
            with("all " + term).permits("all " + term, BROKEN, 0, 0);
            with(term + " all").permits(term + " all", BROKEN, 0, 0);
            Probe probe = with("include:b.com -all").text("b.com", "v=spf1 all " + term);
            probe.permits("included: " + term, BROKEN, 1, 0).from(HERE, "x@c.com");
            // A broken record leaves nothing behind for the next permission.
            probe.text("c.com", "v=spf1 -all").permits("another behind a broken one", FAIL, 0, 0);
        }
    }

    // "PERMISSION: CHECK of the SENDER's DOMAIN; REFUSED without one"
    private static void refusedWithoutASender() {
        Probe probe = new Probe().text("a.com", "v=spf1 a -all");
        Probe.due("permission", probe.policy.permission(), SendPolicy.REFUSED);
        Probe.due("cost(0)", probe.policy.cost(0), 0);
        probe.from(HERE, "x@a.com").permits("with one", FAIL, 1, 1);
        Probe.due("the entries stayed", probe.policy.forget(), 1);
    }

    // "its TEXTS that are v=spf1, or begin with v=spf1 and a blank (32)"
    private static void textsThatAreRecords() {
        String[] records = {"v=spf1", "v=spf1 ", "v=spf1  ", "v=spf1 x="};
        for (String value : records) {
            Probe probe = new Probe().from(HERE, "x@a.com").text("a.com", value);
            probe.permits("a record: " + value, NEUTRAL, 0, 0);
            probe.text("a.com", "v=spf1 -all").permits("a second record: " + value, BROKEN, 0, 0);
        }
        String[] others = {"", " ", "v", "v=spf", "v=spf1\0", "v=spf1\t", "v=spf1\u001f", "v=spf1!", "v=spf1-all", "v=spf1,",
            "v=spf11", "v=spf2", "v=spf2 all", "V=spf1", "v=SPF1 all", "v =spf1", " v=spf1", " v=spf1 all", "xv=spf1 all",
            "v=spf1\u00a0all", "v=spf1all", "v=spf", "v=spf 1", "spf1 all", "v:spf1 all"};
        for (String value : others) {
            Probe probe = new Probe().from(HERE, "x@a.com").text("a.com", value);
            probe.permits("no record: " + value, NONE, 0, 0);
            probe.text("a.com", "v=spf1 -all").permits("beside a record: " + value, FAIL, 0, 0);
            probe.text("a.com", value).permits("about a record: " + value, FAIL, 0, 0);
        }
    }

    // "TROUBLE: TROUBLE; none: NONE; two: BROKEN"
    private static void troubleNoneTwo() {
        Probe probe = new Probe().from(HERE, "x@a.com");
        probe.permits("no text", NONE, 0, 0).text("b.com", "v=spf1 all").permits("another's", NONE, 0, 0);
        probe.host("a.com", HERE).exchange("a.com", "a.com").permits("entries that are no texts", NONE, 0, 0);
        probe.text("a.com", "v=spf1 -all").permits("one", FAIL, 0, 0);
        probe.text("b.com", "v=spf1 all").permits("another's two", FAIL, 0, 0);
        probe.text("a.com", "v=spf1 -all").permits("two, though the same", BROKEN, 0, 0);
        probe.text("a.com", "v=spf1 -all").permits("three", BROKEN, 0, 0);
        probe.trouble("b.com").permits("another's trouble", BROKEN, 0, 0);
        probe.trouble("a.com").permits("trouble before two", TROUBLE, 0, 0);
        new Probe().from(HERE, "x@a.com").trouble("a.com").permits("trouble before none", TROUBLE, 0, 0);
        with("what").trouble("a.com").permits("trouble before a broken term", TROUBLE, 0, 0);
        with("what").text("a.com", "v=spf1 all").permits("two, one of them broken", BROKEN, 0, 0);
    }

    // "Behind, with blanks between, TERMS": one blank or more, at the end too
    private static void blanksBetween() {
        String[] terms = {"-all", " -all", "-all ", "   -all   ", "x=y  -all", "x=y    -all z=   "};
        for (String term : terms) {
            with(term).permits("blanks in '" + term + "'", FAIL, 0, 0);
        }
        with(" ".repeat(693)).permits("blanks alone", NEUTRAL, 0, 0);
        with(" ".repeat(692) + "?").permits("a term at the very end", BROKEN, 0, 0);
        with(" ".repeat(689) + "-all").permits("a good term at the very end", FAIL, 0, 0);
        areNone("-all-all", "allall", "ip4:1.2.3.4all", "aa", "amx", "mxa", "all+all");
    }

    // The other side of "blanks (32) between": no other byte parts two terms.
    private static void onlyBlanksPartTerms() {
        for (int sign = 0; sign < 256; sign++) {
            // all=all is a WORD and its VALUE, so no all is there.
            int due = sign == ' ' ? PASS : sign == '=' ? NEUTRAL : BROKEN;
            with("all" + (char) sign + "all").permits("all " + sign + " all", due, 0, 0);
            with("all " + (char) sign).permits("all and " + sign, sign == ' ' || sign == 'a' ? PASS : BROKEN, 0, 0);
        }
    }

    // "one that is none of these: BROKEN, whatever would match before it"
    private static void whateverWouldMatchBefore() {
        Probe probe = with("a mx exists:a.com include:b.com all ip5:1").host("a.com", HERE).exchange("a.com", "a.com");
        probe.text("b.com", "v=spf1 all").permits("behind five that match", BROKEN, 0, 0);
        with("a:t what").trouble("t").permits("trouble before it", BROKEN, 0, 0);
        with("a:z ".repeat(20) + "what").permits("limits before it", BROKEN, 0, 0);
        with("all include:b.com").text("b.com", "v=spf1 what").permits("in a record that is not read", PASS, 0, 0);
        areNone("what", "ptr", "ip6:1", "al", "alls", "includ:b", "exist:b", "+", "-", "?", "~", ":", "/", "=", "%");
    }

    // "[SIGN]": "SIGN: + ? ~ -, as if + without"; at most one, and none before redirect and WORD=VALUE
    private static void signs() {
        String[] terms = {"all", "include:b.com", "a", "a:b/8", "mx", "mx:b/8", "ip4:1.2.3.4/8", "exists:b"};
        for (String term : terms) {
            areTerms(term, "+" + term, "?" + term, "~" + term, "-" + term);
            areNone("++" + term, "+-" + term, "!" + term, "*" + term, "=" + term, "." + term, "_" + term, "+ " + term);
        }
        String[] unsigned = {"redirect=b.com", "x=y", "x="};
        for (String term : unsigned) {
            areTerms(term);
            areNone("+" + term, "?" + term, "~" + term, "-" + term);
        }
    }

    // "N: digits, at most two, 0 to 32"
    private static void digitsOfBits() {
        String[] before = {"a", "a:b", "mx", "mx:b", "ip4:9.9.9.9"};
        for (String term : before) {
            areTerms(term + "/0", term + "/9", term + "/10", term + "/31", term + "/32", term + "/00", term + "/09");
            areNone(term + "/33", term + "/34", term + "/39", term + "/40", term + "/99", term + "/000", term + "/032",
                term + "/001", term + "/100", term + "/320", term + "/-1", term + "/+1", term + "/a", term + "/1a",
                term + "/a1", term + "/:", term + "/1:", term + "//", term + "/1/", term + "/1/1", term + "//1",
                term + "/4294967296", term + "/", term + "/%{d}");
        }
        areNone("all/8", "all/32");
    }

    // "Q: four numbers of one to three digits, at most 255, with . between"
    private static void numbersOfNetworks() {
        for (int place = 0; place < 4; place++) {
            String[] good = {"0", "9", "00", "99", "000", "001", "100", "199", "249", "254", "255"};
            for (String number : good) {
                areTerms("ip4:" + network(place, number));
            }
            String[] bad = {"", "256", "257", "260", "300", "999", "0000", "0001", "0255", "1000", "-1", "+1", "a", "1a",
                "/", ":", "1:", "%", "4294967296"};
            for (String number : bad) {
                areNone("ip4:" + network(place, number));
            }
        }
        areNone("ip4:", "ip4:1", "ip4:1.2", "ip4:1.2.3", "ip4:1.2.3.4.5", "ip4:1.2.3.4.", "ip4:.1.2.3.4", "ip4:1.2..3.4",
            "ip4:1,2.3.4", "ip4:1.2.3:4", "ip4:1.2.3/8", "ip4:1.2.3.4:8", "ip4:/8", "ip4:...", "ip4:a.com", "ip4:%{i}");
    }

    private static String network(int place, String number) {
        String[] numbers = {"1", "2", "3", "4"};
        numbers[place] = number;
        return String.join(".", numbers);
    }

    // "[ ] may be there": what stands without [ ] must be
    private static void whatMayLack() {
        areTerms("a", "a:b", "a/8", "a:b/8", "mx", "mx:b", "mx/8", "mx:b/8", "ip4:1.2.3.4", "ip4:1.2.3.4/8");
        areNone("a:", "a:/8", "mx:", "mx:/8", "ip4", "ip4/8", "include", "include:", "exists", "exists:", "redirect",
            "redirect=", "redirect:b", "all:", "all:b", "a8", "a/8:b", "mx/8:b", "/8", ":b", "exists/8");
        // What an = makes a WORD and its VALUE of is a term after all.
        areTerms("a=", "mx=", "ip4=", "include=", "include=b", "exists=", "all=");
    }

    // "WORD: a letter, then letters, digits, - _ ."; "VALUE: all that is behind, or nothing"
    private static void wordsAndValues() {
        for (int sign = 0; sign < 256; sign++) {
            boolean letter = sign >= 'a' && sign <= 'z';
            boolean inside = letter || sign >= '0' && sign <= '9' || sign == '-' || sign == '_' || sign == '.';
            if (sign != ' ') {
                int first = letter ? PASS : BROKEN;
                with("all " + (char) sign + "=y").permits("a WORD of " + sign, first, 0, 0);
                int later = inside || sign == '=' ? PASS : BROKEN;
                with("all x" + (char) sign + "=y").permits("a WORD with " + sign, later, 0, 0);
                with("all x" + (char) sign + "z=y").permits("a WORD about " + sign, later, 0, 0);
            }
            with("all x=" + (char) sign).permits("a VALUE of " + sign, PASS, 0, 0);
        }
        areTerms("x=", "x=y", "x==", "x=y=z", "a-_.9=", "z=" + "v".repeat(600), "x=%", "x=%{", "x=/", "x=:", "x=+all");
        areTerms("x=y x=y x=z");
        areNone("x", "=", "=y", "==", "x y=", "x:y=", "x/=", "x%=", "x{}=", "1x=", "-x=", "_x=", ".x=");
    }

    // "D: one sign of 33 to 126 at least"
    private static void signsOfTargets() {
        String[] before = {"include:", "a:", "mx:", "exists:", "redirect="};
        for (String term : before) {
            for (int sign = 0; sign < 256; sign++) {
                if (sign == ' ' || sign == '%' || sign == '/') {
                    continue;
                }
                int due = sign >= 33 && sign <= 126 ? PASS : BROKEN;
                with("all " + term + (char) sign).permits(term + " of " + sign, due, 0, 0);
                with("all " + term + "b" + (char) sign + "c").permits(term + " with " + sign, due, 0, 0);
            }
            areNone(term, term + " b", term + "b\u007f", term + "\u001f", term + "\u0080", term + "\0");
            areTerms(term + "!", term + "~", term + "b", term + "b".repeat(600), term + "..", term + "=", term + ":");
        }
    }

    // "without a % that does not begin a MACRO": "%{X[n][r]}", "n (a digit, not 0)"
    private static void macrosOfTargets() {
        String[] before = {"include:", "a:", "mx:", "exists:", "redirect="};
        for (String term : before) {
            areTerms(term + "%%", term + "%_", term + "%-", term + "%%%%", term + "%%%_", term + "%{s}", term + "%{l}",
                term + "%{o}", term + "%{d}", term + "%{i}", term + "%{d1}", term + "%{d9}", term + "%{dr}",
                term + "%{d1r}", term + "%{d9r}", term + "b%{d}c%{l}", term + "%%{", term + "{d}", term + "}");
            areNone(term + "%", term + "b%", term + "%b", term + "%%%", term + "%{", term + "%{}", term + "%{d",
                term + "%{d1", term + "%{d1r", term + "%{d0}", term + "%{d0r}", term + "%{d10}", term + "%{d11}",
                term + "%{d-1}", term + "%{dr1}", term + "%{drr}", term + "%{dd}", term + "%{D}", term + "%{dR}",
                term + "%{x}", term + "%{r}", term + "%{1}", term + "%{1d}", term + "%{d }", term + "%{d.}",
                term + "%d", term + "%(d)", term + "%(d}", term + "%xd}", term + "%dd}", term + "%{d)", term + "%+", term + "%20", term + "%{d}%", term + "%{d}}%{");
        }
    }

    // "but /, in a and mx"
    private static void slashesOfTargets() {
        areTerms("include:/", "include:b/c", "exists:/", "exists:b/99", "redirect=/", "redirect=b/c", "exists:b//");
        areNone("a:/", "a:b/c", "a:/8", "a:b/8/8", "a:b//8", "mx:/", "mx:b/c", "mx:/8", "mx:b/8/8", "mx:b//8", "a:b/c/8");
        // A / in a D that is one makes no NAME of it.
        with("exists:b/8 -all").host("b", HERE).permits("exists of what is no name", FAIL, 1, 1);
        with("include:b/8 all").text("b", "v=spf1 all").permits("include of what is no name", BROKEN, 1, 0);
        with("redirect=b/8").text("b", "v=spf1 all").permits("redirect to what is no name", BROKEN, 1, 0);
    }

    // "redirect=D (once at most)"
    private static void redirectOnceAtMost() {
        areTerms("redirect=b.com", "redirect=b.com redirec=b.com redirectt=b.com redirect.=b.com");
        areNone("redirect=b.com redirect=b.com", "redirect=b.com x=y redirect=c.com", "redirect=b.com  redirect=%{d}");
        with("redirect=b.com").text("b.com", "v=spf1 redirect=c.com").text("c.com", "v=spf1 -all")
            .permits("once in each of two records", FAIL, 2, 0);
        with("include:b.com redirect=c.com").text("b.com", "v=spf1 redirect=c.com").text("c.com", "v=spf1 -all")
            .permits("once here and once inside", FAIL, 3, 0);
        with("-include:b.com").text("b.com", "v=spf1 redirect=c.com").text("c.com", "v=spf1 -all")
            .permits("the one inside is not the one here", NEUTRAL, 2, 0);
    }

    // "letters small"
    private static void smallLetters() {
        areNone("ALL", "All", "alL", "Include:b", "A", "A:b", "MX", "mX", "IP4:1.2.3.4", "Exists:b", "Redirect=b", "X=y", "xY=");
        areTerms("include:B", "a:B", "mx:B", "exists:B", "redirect=B", "x=Y");
    }
}
