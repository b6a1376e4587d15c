/** Promises 4 and 5: entry and forget. */
public final class EntryTest {
    private static final String PART = "abcdefghij0123456-_9";
    private static final String NAME_60 = PART + "." + PART + "." + PART.substring(2);

    public static void main(String[] args) {
        sorts();
        names();
        values();
        fullFirst();
        forgetting();
        Probe.finish();
    }

    private static void sorts() {
        Probe probe = new Probe();
        Probe.due("text", probe.entry(0, 5, "a.com some value"), 1);
        Probe.due("address", probe.entry(1, 5, "a.com"), 2);
        Probe.due("exchange", probe.entry(2, 5, "a.com b.com"), 3);
        Probe.due("trouble", probe.entry(3, 5, "a.com"), 4);
        Probe.due("the same again", probe.entry(3, 5, "a.com"), 5);
        int[] others = {-1, 4, 5, Integer.MAX_VALUE, Integer.MIN_VALUE};
        for (int sort : others) {
            Probe.due("sort " + sort, probe.entry(sort, 5, "a.com"), SendPolicy.REFUSED);
            Probe.due("sort " + sort, probe.entry(sort, 5, "a.com b.com"), SendPolicy.REFUSED);
        }
        refused(probe, 0, "a.com", "a.com\tv", "", " v", "A.com v", "a..b v");
        refused(probe, 1, "", "a.com ", "a.com b", " a.com", "a.com\0");
        refused(probe, 2, "a.com", "a.com ", "a.com b..c", "a.com b ", "a.com  b", "a.com b c", " b", ".a b");
        refused(probe, 3, "", "a.com ", "a.com b", "a@b");
        Probe.due("REFUSED adds nothing", probe.policy.forget(), 5);
    }

    private static void refused(Probe probe, int sort, String... tapes) {
        for (String tape : tapes) {
            Probe.due("entry " + sort + " of '" + tape + "'", probe.entry(sort, 0, tape), SendPolicy.REFUSED);
        }
    }

    private static void names() {
        Probe probe = new Probe();
        String[] good = {"a", "-", "_", "0", "a.b", "-a-._9_.z", PART, NAME_60, "a.b.c.d.e.f.g.h.i.j.k.l.m.n"};
        for (int k = 0; k < good.length; k++) {
            Probe.due("name " + good[k], probe.entry(1, 0, good[k]), k + 1);
        }
        refused(probe, 1, ".", ".a", "a.", "a..b", PART + "x", "a." + PART + "x", NAME_60 + "x", NAME_60 + ".",
            PART + "." + PART + "." + PART, "A", "aB", "a+b", "a/b", "a:b", "a%b", "\u00e4", "a\u00ff", "`", "{", "@");
    }

    private static void values() {
        Probe probe = new Probe();
        Probe.due("an empty value", probe.entry(0, 0, "a.com "), 1);
        Probe.due("a value of 700", probe.entry(0, 0, "a.com " + "v".repeat(700)), 2);
        Probe.due("a value of 701", probe.entry(0, 0, "a.com " + "v".repeat(701)), SendPolicy.REFUSED);
        Probe.due("the longest text", probe.entry(0, 0, NAME_60 + " " + " ".repeat(700)), 3);
        Probe.due("any bytes", probe.entry(0, 0, "a \0\u0001\u007f\u0080\u00ff  "), 4);
        Probe.due("a whole tape", probe.entry(0, 0, NAME_60 + " " + "v".repeat(739)), SendPolicy.REFUSED);
    }

    private static void fullFirst() {
        Probe probe = new Probe();
        for (int k = 1; k <= 40; k++) {
            Probe.due("entry " + k, probe.entry(1, k, "n" + k), k);
        }
        Probe.due("a good one with 40", probe.entry(1, 0, "a"), SendPolicy.FULL);
        Probe.due("a bad one with 40", probe.entry(1, 0, "a..b"), SendPolicy.FULL);
        Probe.due("no sort with 40", probe.entry(7, 0, "a"), SendPolicy.FULL);
        Probe.due("no tape with 40", probe.policy.entry(0, 0), SendPolicy.FULL);
        Probe.due("forget 40", probe.policy.forget(), 40);
        Probe.due("the first again", probe.entry(1, 0, "a"), 1);
    }

    private static void forgetting() {
        Probe probe = new Probe().from(1, "x@a.com").text("a.com", "v=spf1 a -all").host("a.com", 1);
        probe.permits("with entries", 2, 1, 0).expands("%{o}", "a.com");
        Probe.due("forget", probe.policy.forget(), 2);
        Probe.due("forget again", probe.policy.forget(), 0);
        Probe.due("cost stays", probe.policy.cost(0), 1);
        probe.holds("a.com");
        probe.permits("all are gone", 0, 0, 0);
        probe.text("a.com", "v=spf1 -all").permits("only the new one", 3, 0, 0);
    }
}
