/** The boundary cases of THE SENDER and of sender: promise 6, sentence by sentence. */
public final class SenderEdgesTest {
    private static final int HERE = Probe.address(1, 2, 3, 4);
    private static final String NAME_60 = "a".repeat(20) + "." + "b".repeat(20) + "." + "c".repeat(18);
    private static final String LOCAL_30 = "abcdefghij.lmnopqrst-vwxyz_0+9";

    public static void main(String[] args) {
        noneAtFirst();
        localsOfOneToThirty();
        signsOfLocals();
        domainsAreNames();
        oneAtBetween();
        addressesAreInts();
        itStaysIfRefused();
        theNewOneTakesItsPlace();
        Probe.finish();
    }

    private static void takes(String mailbox) {
        Probe probe = Probe.furnished().from(Probe.address(9, 8, 7, 6), mailbox);
        probe.tapeHas(0, "sender").holds("kept");
        int at = mailbox.indexOf('@');
        probe.expands("%{s}", mailbox).expands("%{l}", mailbox.substring(0, at));
        probe.expands("%{o}", mailbox.substring(at + 1)).expands("%{i}", "9.8.7.6");
        probe.text(mailbox.substring(at + 1), "v=spf1 ip4:9.8.7.6 -all");
        // The entries for the name that furnished() uses make two records of it.
        probe.permits("the domain of " + mailbox, mailbox.endsWith("@a.com") ? 6 : 2, 0, 0);
    }

    private static void refuses(String mailbox) {
        Probe fresh = new Probe();
        Probe.due("sender " + mailbox, fresh.type(mailbox).policy.sender(HERE), SendPolicy.REFUSED);
        fresh.tapeHas(0, "a refused sender");
        Probe.due("still none", fresh.policy.permission(), SendPolicy.REFUSED);
        fresh.refusesToExpand("abc");
        Probe probe = Probe.furnished();
        Probe.due("sender " + mailbox, probe.type(mailbox).policy.sender(9), SendPolicy.REFUSED);
        probe.isFurnishedStill("sender " + mailbox);
    }

    // "none at first"
    private static void noneAtFirst() {
        Probe probe = new Probe().text("a.com", "v=spf1 all");
        Probe.due("permission", probe.policy.permission(), SendPolicy.REFUSED);
        probe.refusesToExpand("%{s}").refusesToExpand("abc").holds("");
        probe.from(HERE, "x@a.com").permits("then one", 2, 0, 0).expands("%{s}", "x@a.com");
    }

    // "a LOCAL part (1 to 30 ...)"
    private static void localsOfOneToThirty() {
        refuses("@a.com");
        takes("x@a.com");
        takes(LOCAL_30.substring(1) + "@a.com");
        takes(LOCAL_30 + "@a.com");
        refuses(LOCAL_30 + "x@a.com");
        refuses(LOCAL_30 + "xy@a.com");
        takes(LOCAL_30 + "@" + NAME_60);
        refuses(LOCAL_30 + "x@" + NAME_60);
        refuses("x".repeat(257) + "@a.com");
    }

    // "small letters, digits, . - _ +": each byte there is, alone, first, in the midst and last
    private static void signsOfLocals() {
        for (int sign = 0; sign < 256; sign++) {
            boolean good = "abcdefghijklmnopqrstuvwxyz0123456789.-_+".indexOf(sign) >= 0;
            String[] locals = {"" + (char) sign, (char) sign + "x", "x" + (char) sign + "y", "x" + (char) sign};
            for (String local : locals) {
                Probe probe = new Probe();
                int got = probe.type(local + "@a.com").policy.sender(1);
                Probe.due("local " + local, got, good ? 0 : SendPolicy.REFUSED);
                if (good) {
                    probe.expands("%{l}", local);
                }
            }
        }
        takes(".@a.com");
        takes("..@a.com");
        takes(".".repeat(30) + "@a.com");
        takes("+@a.com");
    }

    // "and a DOMAIN, a NAME"
    private static void domainsAreNames() {
        takes("x@0");
        takes("x@-._");
        takes("x@" + NAME_60);
        refuses("x@");
        refuses("x@" + NAME_60 + "c");
        refuses("x@" + "a".repeat(21));
        refuses("x@a..b");
        refuses("x@.a");
        refuses("x@a.");
        refuses("x@A");
        refuses("x@a+b");
        refuses("x@a ");
        refuses("x@ a");
    }

    // "LOCAL@DOMAIN"
    private static void oneAtBetween() {
        String[] bad = {"", "@", "@@", "x", "a.com", "x@@a.com", "x@y@a.com", "x@a.com@", "x a.com", " x@a.com", "x @a.com"};
        for (String mailbox : bad) {
            refuses(mailbox);
        }
    }

    // "an address (an int)"
    private static void addressesAreInts() {
        int[] addresses = {0, 1, 255, 256, 65535, 65536, 0xffffff, 0x1000000, Integer.MAX_VALUE, Integer.MIN_VALUE, -1, -256};
        String[] dotted = {"0.0.0.0", "0.0.0.1", "0.0.0.255", "0.0.1.0", "0.0.255.255", "0.1.0.0", "0.255.255.255",
            "1.0.0.0", "127.255.255.255", "128.0.0.0", "255.255.255.255", "255.255.255.0"};
        for (int k = 0; k < addresses.length; k++) {
            Probe probe = new Probe().from(addresses[k], "x@a").expands("%{i}", dotted[k]);
            probe.text("a", "v=spf1 ip4:" + dotted[k] + " -all").permits(dotted[k], 2, 0, 0);
            probe.from(addresses[k] + 1, "x@a").permits("the next to " + dotted[k], 3, 0, 0);
        }
    }

    // "REFUSED if it is none (it stays)": the address too, and none of its parts alone
    private static void itStaysIfRefused() {
        refuses("other@b..com");
        refuses("other@");
        refuses("OTHER@b.com");
        Probe probe = Probe.furnished();
        for (int round = 0; round < 3; round++) {
            Probe.due("sender", probe.type("v@b.com!").policy.sender(7), SendPolicy.REFUSED);
        }
        probe.isFurnishedStill("three refused senders");
    }

    // "THE SENDER is the address with the TAPE": nothing of the one before is left
    private static void theNewOneTakesItsPlace() {
        Probe probe = new Probe().from(-1, LOCAL_30 + "@" + NAME_60);
        probe.from(0, "x@a").expands("%{s}", "x@a").expands("%{l}", "x").expands("%{o}", "a").expands("%{d}", "a");
        probe.expands("%{i}", "0.0.0.0").from(-1, LOCAL_30 + "@" + NAME_60);
        probe.expands("%{s}", LOCAL_30 + "@" + NAME_60).expands("%{i}", "255.255.255.255");
        Probe kept = Probe.furnished().from(7, "v@b.com");
        Probe.due("cost(0) stays", kept.policy.cost(0), 3);
        Probe.due("cost(1) stays", kept.policy.cost(1), 1);
        kept.holds("kept").permits("of another domain", 0, 0, 0).from(HERE, "u@a.com").permits("and back", 4, 3, 1);
    }
}
