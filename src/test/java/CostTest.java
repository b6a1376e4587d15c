/** Promise 8: cost, and the limits of what is counted. */
public final class CostTest {
    private static final int NONE = 0, NEUTRAL = 1, PASS = 2, FAIL = 3, TROUBLE = 5, BROKEN = 6;
    private static final int HERE = Probe.address(1, 2, 3, 4);

    public static void main(String[] args) {
        otherNumbers();
        onlyTheLatest();
        tenAndEleven();
        chains();
        loops();
        voids();
        limitsTogether();
        Probe.finish();
    }

    private static Probe with(String terms) {
        return new Probe().from(HERE, "x@a.com").text("a.com", "v=spf1 " + terms);
    }

    private static void otherNumbers() {
        Probe probe = with("a all");
        int[] others = {-1, 2, 3, Integer.MAX_VALUE, Integer.MIN_VALUE};
        for (int what : others) {
            Probe.due("cost(" + what + ")", probe.policy.cost(what), SendPolicy.REFUSED);
        }
        probe.permits("then", PASS, 1, 1);
        for (int what : others) {
            Probe.due("cost(" + what + ")", probe.policy.cost(what), SendPolicy.REFUSED);
        }
    }

    private static void onlyTheLatest() {
        Probe probe = with("a mx -all");
        probe.permits("first", FAIL, 2, 2).permits("again", FAIL, 2, 2);
        probe.from(1, "x@b.com");
        Probe.due("cost(0) behind a new sender", probe.policy.cost(0), 2);
        Probe.due("cost(1) behind a new sender", probe.policy.cost(1), 2);
        probe.permits("of another", NONE, 0, 0);
    }

    private static void tenAndEleven() {
        with("exists:b ".repeat(10) + "-all").host("c", 1).permits("three void end it", BROKEN, 3, 3);
        with("a:b ".repeat(10) + "-all").host("b", 1).permits("ten a", FAIL, 10, 0);
        with("a:b ".repeat(11) + "-all").host("b", 1).permits("eleven a", BROKEN, 11, 0);
        with("a:b ".repeat(30) + "-all").host("b", 1).permits("at once", BROKEN, 11, 0);
        with("mx:b ".repeat(11) + "-all").exchange("b", "b").permits("eleven mx", BROKEN, 11, 0);
        with("-exists:b all").host("b", 1).permits("a match ends it", FAIL, 1, 0);
        with("include:b ".repeat(10) + "-all").text("b", "v=spf1").permits("ten include", FAIL, 10, 0);
        with("include:b ".repeat(11) + "-all").text("b", "v=spf1").permits("eleven include", BROKEN, 11, 0);
        with("a:b ".repeat(10) + "a -all").host("b", 1).host("a.com", HERE).permits("the eleventh would match", BROKEN, 11, 0);
        with("a:b ".repeat(10) + "a:t -all").host("b", 1).trouble("t").permits("the eleventh's trouble", BROKEN, 11, 0);
        with("a:b ".repeat(9) + "a:t -all").host("b", 1).trouble("t").permits("the tenth's trouble", TROUBLE, 10, 0);
        with("a:b ".repeat(10) + "redirect=r").host("b", 1).text("r", "v=spf1 -all").permits("redirect too", BROKEN, 11, 0);
        with("a:b ".repeat(9) + "redirect=r").host("b", 1).text("r", "v=spf1 -all").permits("redirect tenth", FAIL, 10, 0);
        with("ip4:9.9.9.9 x=y ".repeat(20) + "-all").permits("uncounted terms", FAIL, 0, 0);
    }

    private static void chains() {
        for (int length = 1; length <= 12; length++) {
            Probe redirects = with("redirect=n1");
            Probe includes = with("include:n1 -all");
            for (int k = 1; k < length; k++) {
                redirects.text("n" + k, "v=spf1 redirect=n" + (k + 1));
                includes.text("n" + k, "v=spf1 include:n" + (k + 1));
            }
            boolean held = length <= 10;
            redirects.text("n" + length, "v=spf1 ip4:1.2.3.4 -all");
            redirects.permits("redirects, " + length, held ? PASS : BROKEN, Math.min(length, 11), 0);
            includes.text("n" + length, "v=spf1 ip4:1.2.3.4 -all");
            includes.permits("includes, " + length, held ? PASS : BROKEN, Math.min(length, 11), 0);
        }
    }

    private static void loops() {
        with("include:a.com all").permits("include of itself", BROKEN, 11, 0);
        with("redirect=a.com").permits("redirect to itself", BROKEN, 11, 0);
        with("include:b").text("b", "v=spf1 redirect=a.com").permits("round by two", BROKEN, 11, 0);
    }

    private static void voids() {
        with("a -all").permits("one", FAIL, 1, 1);
        with("a mx -all").permits("two", FAIL, 2, 2);
        with("a mx exists:z -all").permits("three", BROKEN, 3, 3);
        with("a mx exists:z all").permits("three before all", BROKEN, 3, 3);
        with("mx mx mx mx mx").permits("at once", BROKEN, 3, 3);
        with("a:%% a:a..b a:-. all").permits("what is no name", BROKEN, 3, 3);
        with("a include:b a -all").text("b", "v=spf1 a").permits("in all checks together", BROKEN, 4, 3);
        with("a mx redirect=b").text("b", "v=spf1 ?exists:q").permits("behind a redirect", BROKEN, 4, 3);
        with("a mx include:b -all").text("b", "v=spf1 all").permits("include is no void", PASS, 3, 2);
        with("a mx a:t -all").trouble("t").permits("trouble is no void", TROUBLE, 3, 2);
    }

    private static void limitsTogether() {
        with("a mx " + "a:b ".repeat(8) + "exists:z").host("b", 1).permits("the count comes first", BROKEN, 11, 2);
        with("a mx " + "a:b ".repeat(7) + "exists:z").host("b", 1).permits("the tenth is void", BROKEN, 10, 3);
        with("a mx " + "a:b ".repeat(8)).host("b", 1).permits("both at their limit", NEUTRAL, 10, 2);
    }
}
