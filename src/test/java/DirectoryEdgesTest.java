/** The boundary cases of NAMES, of THE DIRECTORY, of entry and of forget: promises 4 and 5, sentence by sentence. */
public final class DirectoryEdgesTest {
    private static final int NONE = 0, NEUTRAL = 1, PASS = 2, FAIL = 3, SOFT = 4, TROUBLE = 5, BROKEN = 6;
    private static final int HERE = Probe.address(1, 2, 3, 4);
    private static final String PART_20 = "abcdefghijklmnopqrst";
    private static final String NAME_60 = PART_20 + "." + PART_20 + "." + PART_20.substring(2);
    private static final String NAME_59 = NAME_60.substring(0, 59);

    public static void main(String[] args) {
        namesOfOneToSixtyBytes();
        partsOfOneToTwenty();
        signsOfNames();
        pointsBetween();
        noneAtFirst();
        atMostForty();
        fullFirst();
        inTheOrderInWhichTheyCame();
        valuesOfAtMostSevenHundred();
        valuesMayBeEmpty();
        addressesAreInts();
        troubleWhateverFor();
        sortsZeroToThree();
        refusedForOthers();
        allEntriesGo();
        Probe.finish();
    }

    /** The name is taken wherever a NAME may stand, and what comes under it is found there. */
    private static void isName(String name) {
        Probe probe = new Probe();
        Probe.due("address of " + name, probe.entry(1, HERE, name), 1);
        Probe.due("text of " + name, probe.entry(0, 0, name + " v=spf1 mx:m -all"), 2);
        Probe.due("exchange to " + name, probe.entry(2, 0, "m " + name), 3);
        probe.from(HERE, "x@" + name).expands("%{o}", name);
        probe.permits("a text, an exchange and its address by " + name, PASS, 1, 0);
        Probe.due("exchange of " + name, probe.entry(2, 0, name + " m"), 4);
        Probe.due("text", probe.entry(0, 0, "d v=spf1 -mx:" + name + " ~a:" + name + " all"), 5);
        probe.from(HERE, "x@d").permits("a D that is " + name, SOFT, 2, 0);
        Probe.due("trouble of " + name, probe.entry(3, 0, name), 6);
        probe.permits("trouble of a D that is " + name, TROUBLE, 1, 0);
        Probe.due("forget", probe.policy.forget(), 6);
    }

    /** The name is taken nowhere, and what was refused leaves nothing. */
    private static void isNoName(String name) {
        Probe probe = Probe.furnished();
        String[] tapes = {name + " v=spf1 all", name, name + " a.com", name, "a.com " + name};
        int[] sorts = {0, 1, 2, 3, 2};
        for (int k = 0; k < tapes.length; k++) {
            Probe.due("entry " + sorts[k] + " of " + tapes[k], probe.entry(sorts[k], HERE, tapes[k]), SendPolicy.REFUSED);
        }
        Probe.due("sender in " + name, probe.type("x@" + name).policy.sender(1), SendPolicy.REFUSED);
        probe.isFurnishedStill("what is no name: " + name);
    }

    // "NAMES: 1 to 60 bytes"
    private static void namesOfOneToSixtyBytes() {
        isNoName("");
        isName("a");
        isName(NAME_59);
        isName(NAME_60);
        isNoName(NAME_60 + "u");
        isNoName(NAME_60 + "uv");
        isNoName(NAME_60 + ".");
        isNoName(NAME_59 + ".u");
        String ones = "a.".repeat(29);
        isName(ones + "b");
        isName(ones + "bc");
        isNoName(ones + "bcd");
        isNoName(ones + "b.c");
        isNoName("a".repeat(255) + "." + "a");
        isNoName("a.".repeat(128) + "a");
    }

    // "parts of 1 to 20"
    private static void partsOfOneToTwenty() {
        String[] good = {PART_20, PART_20 + ".a", "a." + PART_20, "a." + PART_20 + ".b", PART_20 + "." + PART_20};
        for (String name : good) {
            isName(name);
            isNoName(name.replace(PART_20, PART_20 + "u"));
            isNoName(name.replace(PART_20, "-" + PART_20));
        }
        String[] empty = {".", "..", ".a", "a.", "a..b", ".a.b", "a.b.", PART_20 + ".", "." + PART_20};
        for (String name : empty) {
            isNoName(name);
        }
    }

    // "small letters, digits, - and _": each byte there is, alone and in the midst of letters
    private static void signsOfNames() {
        for (int sign = 0; sign < 256; sign++) {
            boolean good = "abcdefghijklmnopqrstuvwxyz0123456789-_".indexOf(sign) >= 0;
            // A blank or a point in the midst parts a name in two, which is another matter.
            String[] names = sign == ' ' || sign == '.' ? new String[] {"" + (char) sign}
                : new String[] {"" + (char) sign, "b" + (char) sign + "c", "b.c" + (char) sign};
            for (String name : names) {
                Probe probe = new Probe();
                Probe.due("name " + name, probe.entry(1, 1, name), good ? 1 : SendPolicy.REFUSED);
                Probe.due("name to " + name, probe.entry(2, 1, "a " + name), good ? 2 : SendPolicy.REFUSED);
                Probe.due("domain " + name, probe.type("x@" + name).policy.sender(1), good ? 0 : SendPolicy.REFUSED);
                Probe.due("forget", probe.policy.forget(), good ? 2 : 0);
            }
        }
        isName("az-09_");
        isNoName("aZ");
    }

    // "with . between": two parts are another name than one, and than two others
    private static void pointsBetween() {
        String[] others = {"ab", "a.bc", "aa.b", "b.a", "a", "b", "a-b", "a_b", "a.b.c", "x.a.b"};
        for (String other : others) {
            Probe probe = new Probe().from(HERE, "x@a.b").text(other, "v=spf1 all");
            probe.permits(other + " is not a.b", NONE, 0, 0);
            probe.text("a.b", "v=spf1 a:" + other + " -all").host("a.b", HERE).permits("its address", FAIL, 1, 1);
        }
    }

    // "none at first"
    private static void noneAtFirst() {
        Probe.due("forget", new SendPolicy().forget(), 0);
        Probe.due("the first entry", new Probe().entry(1, 1, "a"), 1);
        new Probe().from(HERE, "x@a").permits("without entries", NONE, 0, 0);
    }

    // "at most 40 entries"; "how many there are"; "FULL with 40"
    private static void atMostForty() {
        Probe probe = new Probe().from(HERE, "x@a").text("a", "v=spf1 a:h40 a:h41 -all");
        for (int k = 2; k <= 39; k++) {
            Probe.due("entry " + k, probe.entry(1, k, "h" + k), k);
        }
        probe.permits("with 39", FAIL, 2, 2);
        Probe.due("entry 40", probe.entry(1, HERE + 1, "h40"), 40);
        probe.permits("the fortieth is there", FAIL, 2, 1);
        Probe.due("entry 41", probe.entry(1, HERE, "h41"), SendPolicy.FULL);
        Probe.due("entry 42", probe.entry(1, HERE, "h40"), SendPolicy.FULL);
        probe.permits("no other came", FAIL, 2, 1).from(HERE + 1, "x@a").permits("nor went", PASS, 1, 0);
        Probe.due("forget", probe.policy.forget(), 40);
        Probe.due("an entry when there is room again", probe.entry(1, 1, "h41"), 1);
        probe.permits("the text went too", NONE, 0, 0);
    }

    // "FULL with 40, first": before any other reason to refuse; with 39 it is REFUSED
    private static void fullFirst() {
        Probe probe = new Probe();
        for (int k = 1; k <= 39; k++) {
            Probe.due("entry " + k, probe.entry(3, k, "t" + k), k);
        }
        tryBad(probe, SendPolicy.REFUSED);
        Probe.due("entry 40", probe.entry(3, 0, "t40"), 40);
        tryBad(probe, SendPolicy.FULL);
        Probe.due("forget", probe.policy.forget(), 40);
        tryBad(probe, SendPolicy.REFUSED);
    }

    private static void tryBad(Probe probe, int want) {
        int[] sorts = {-1, 0, 1, 2, 3, 4, Integer.MIN_VALUE, Integer.MAX_VALUE};
        for (int sort : sorts) {
            Probe.due("a bad entry " + sort, probe.entry(sort, 0, "a..b c..d"), want);
        }
        Probe.due("no tape", probe.policy.entry(0, 0), want);
        Probe.due("a bad sort of a good tape", probe.entry(4, 0, "a"), want);
        probe.tapeHas(0, "entries that did not come");
    }

    // "in the order in which they came"
    private static void inTheOrderInWhichTheyCame() {
        int due = TROUBLE;
        for (int round = 0; round < 2; round++) {
            Probe probe = new Probe().from(HERE, "x@a").host("good", HERE).trouble("bad").text("a", "v=spf1 mx -all");
            probe.exchange("a", "far").exchange("b", "bad");
            probe.exchange("a", round == 0 ? "bad" : "good").exchange("a", round == 0 ? "good" : "bad");
            probe.permits("mx in order", due, 1, 0);
            // What came before forget does not stand in front of what comes behind it.
            Probe.due("forget", probe.policy.forget(), 7);
            probe.exchange("a", round == 0 ? "good" : "bad").exchange("a", round == 0 ? "bad" : "good");
            probe.host("good", HERE).trouble("bad").text("a", "v=spf1 mx -all");
            probe.permits("mx in the new order", PASS + TROUBLE - due, 1, 0);
            due = PASS;
        }
    }

    // "a value of at most 700 bytes"
    private static void valuesOfAtMostSevenHundred() {
        int[] sizes = {699, 700, 701, 702, 738};
        for (int size : sizes) {
            // The term that decides stands at the very end, so that a value cut short is seen.
            String value = "v=spf1" + " ".repeat(size - 11) + " -all";
            Probe probe = new Probe().from(HERE, "x@" + NAME_60);
            boolean good = size <= 700;
            Probe.due("a value of " + size, probe.entry(0, 0, NAME_60 + " " + value), good ? 1 : SendPolicy.REFUSED);
            probe.tapeHas(0, "entry").permits("a value of " + size, good ? FAIL : NONE, 0, 0);
            Probe.due("forget", probe.policy.forget(), good ? 1 : 0);
        }
        Probe.due("700 behind a short name", new Probe().entry(0, 0, "a " + "\u00ff".repeat(700)), 1);
        Probe.due("701 behind a short name", new Probe().entry(0, 0, "a " + "\u00ff".repeat(701)), SendPolicy.REFUSED);
        Probe.due("a full tape", new Probe().entry(0, 0, "a " + "v".repeat(798)), SendPolicy.REFUSED);
    }

    // "a value may be empty": but the blank before it may not lack, and an exchange is no value
    private static void valuesMayBeEmpty() {
        Probe probe = new Probe().from(HERE, "x@a.com");
        Probe.due("without a blank", probe.entry(0, 0, "a.com"), SendPolicy.REFUSED);
        Probe.due("an empty value", probe.entry(0, 0, "a.com "), 1);
        Probe.due("a blank value", probe.entry(0, 0, "a.com  "), 2);
        Probe.due("an empty exchange", probe.entry(2, 0, "a.com "), SendPolicy.REFUSED);
        Probe.due("a blank alone", probe.entry(0, 0, " "), SendPolicy.REFUSED);
        Probe.due("an address with a blank", probe.entry(1, 0, "a.com "), SendPolicy.REFUSED);
        Probe.due("a trouble with a blank", probe.entry(3, 0, "a.com "), SendPolicy.REFUSED);
        probe.permits("texts that are no records", NONE, 0, 0).text("a.com", "v=spf1 ?all").permits("one", NEUTRAL, 0, 0);
        Probe.due("forget", probe.policy.forget(), 3);
    }

    // "ADDRESSES (an int)"
    private static void addressesAreInts() {
        int[] addresses = {0, 1, -1, Integer.MAX_VALUE, Integer.MIN_VALUE, HERE, 255, 256, 65536, 1 << 24, -256};
        for (int address : addresses) {
            Probe probe = new Probe().text("a", "v=spf1 a -all").host("a", address);
            for (int from : addresses) {
                probe.from(from, "x@a").permits(address + " for " + from, from == address ? PASS : FAIL, 1, 0);
            }
        }
        // Only an ADDRESS keeps its int.
        Probe probe = new Probe().from(HERE, "x@a");
        Probe.due("text", probe.entry(0, HERE, "a v=spf1 a mx -all"), 1);
        Probe.due("exchange", probe.entry(2, HERE, "a a"), 2);
        probe.permits("no address", FAIL, 2, 1);
    }

    // "TROUBLE (of a NAME: who looks for it, whatever for, gets TROUBLE)"
    private static void troubleWhateverFor() {
        String[] terms = {"include:t", "redirect=t", "a:t", "mx:t", "exists:t", "mx:m", "include:i", "redirect=i"};
        int[] counted = {1, 1, 1, 1, 1, 1, 2, 2};
        for (int k = 0; k < terms.length; k++) {
            Probe probe = new Probe().from(HERE, "x@a").text("a", "v=spf1 " + terms[k]).exchange("m", "t");
            probe.text("t", "v=spf1 all").host("t", HERE).exchange("t", "t").text("i", "v=spf1 a:t -all");
            probe.trouble("tt").trouble("x.t").trouble("t.x").permits("trouble of others: " + terms[k], PASS, counted[k], 0);
            probe.trouble("t").permits("trouble: " + terms[k], TROUBLE, counted[k], 0);
            probe.trouble("a").permits("trouble of the domain itself", TROUBLE, 0, 0);
            Probe.due("forget", probe.policy.forget(), 11);
            probe.text("a", "v=spf1 a:t -all").host("t", HERE).permits("trouble went with the others", PASS, 1, 0);
        }
    }

    // "sort 0 to 3"
    private static void sortsZeroToThree() {
        int[] others = {-1, 4, 5, 256, 257, Integer.MIN_VALUE, Integer.MIN_VALUE + 1, Integer.MAX_VALUE};
        String[] tapes = {"a.com v=spf1 all", "a.com", "a.com b.com", "a.com"};
        for (String tape : tapes) {
            for (int sort : others) {
                Probe probe = Probe.furnished();
                Probe.due("sort " + sort + " of " + tape, probe.entry(sort, 1, tape), SendPolicy.REFUSED);
                probe.isFurnishedStill("sort " + sort);
            }
        }
        for (int sort = 0; sort <= 3; sort++) {
            Probe probe = Probe.furnished();
            Probe.due("sort " + sort, probe.entry(sort, 1, tapes[sort]), 5);
            Probe.due("forget", probe.policy.forget(), 5);
        }
    }

    // "REFUSED for others": a tape of one sort under another
    private static void refusedForOthers() {
        String[][] tapes = {{"b.com", "b.com\tv", "", " b.com v", "b@com v"}, {"b.com c.com", "b.com ", " b.com", "b.com\0"},
            {"b.com", "b.com ", "b.com  c.com", "b.com c.com ", "b.com c.com d.com", "b.com v=spf1", " b.com c.com"},
            {"b.com c.com", "b.com ", " b.com", "b.com\0"}};
        for (int sort = 0; sort < tapes.length; sort++) {
            for (String tape : tapes[sort]) {
                Probe probe = Probe.furnished();
                Probe.due("entry " + sort + " of '" + tape + "'", probe.entry(sort, 1, tape), SendPolicy.REFUSED);
                probe.isFurnishedStill("entry " + sort + " of '" + tape + "'");
            }
        }
    }

    // "All entries go: how many there were"
    private static void allEntriesGo() {
        for (int size = 0; size <= 40; size += size < 3 || size > 37 ? 1 : 5) {
            Probe probe = new Probe().from(HERE, "x@a").expands("kept", "kept");
            for (int k = 1; k <= size; k++) {
                Probe.due("entry", k == 1 ? probe.entry(0, 0, "a v=spf1 -all") : probe.entry(1, k, "a"), k);
            }
            probe.permits("before forget", size > 0 ? FAIL : NONE, 0, 0).type("tape");
            Probe.due("forget", probe.policy.forget(), size);
            Probe.due("forget again", probe.policy.forget(), 0);
            probe.holds("kept").tapeHas(4, "forget").tapeIs("tape");
            probe.permits("behind forget", NONE, 0, 0).expands("%{s}", "x@a");
            Probe.due("the first again", probe.entry(0, 0, "a v=spf1 ~all"), 1);
            probe.permits("the first again", SOFT, 0, 0);
            probe.text("a", "v=spf1").permits("two", BROKEN, 0, 0);
        }
        Probe probe = Probe.furnished();
        Probe.due("forget", probe.policy.forget(), 4);
        Probe.due("cost(0) stays", probe.policy.cost(0), 3);
        Probe.due("cost(1) stays", probe.policy.cost(1), 1);
    }
}
