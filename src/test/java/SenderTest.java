/** Promise 6: sender. */
public final class SenderTest {
    private static final String LOCAL_30 = "abcdefghijklmnopqrstuvwxyz.-_+";
    private static final String NAME_60 = "a".repeat(20) + "." + "b".repeat(20) + "." + "c".repeat(18);

    public static void main(String[] args) {
        goodOnes();
        refusedOnesLeaveIt();
        Probe.finish();
    }

    private static void goodOnes() {
        Probe probe = new Probe();
        String[] good = {"x@a.com", "0@0", ".@a", "..@a", "+@_", "-@-", LOCAL_30 + "@" + NAME_60};
        for (String mailbox : good) {
            probe.from(7, mailbox).expands("%{s}", mailbox);
            int at = mailbox.indexOf('@');
            probe.expands("%{l}", mailbox.substring(0, at)).expands("%{o}", mailbox.substring(at + 1));
        }
        probe.from(-1, "x@a").expands("%{i}", "255.255.255.255");
        probe.from(0, "x@a").expands("%{i}", "0.0.0.0");
        probe.from(Integer.MIN_VALUE, "x@a").expands("%{i}", "128.0.0.0");
        probe.from(Probe.address(9, 10, 99, 100), "x@a").expands("%{i}", "9.10.99.100");
    }

    private static void refusedOnesLeaveIt() {
        Probe probe = new Probe();
        String[] bad = {"", "@", "x", "x@", "@a", "x@a@b", "x@@a", "x a@b", "x@a ", " x@a", "X@a", "x@A", "x@a..b",
            "x@.a", "x@a.", "x/y@a", "x%@a", LOCAL_30 + "a@a", "x@" + NAME_60 + "c", "\u00e4@a", "x@\u00e4", "x=y@a"};
        for (String mailbox : bad) {
            Probe.due("sender '" + mailbox + "'", probe.type(mailbox).policy.sender(1), SendPolicy.REFUSED);
            Probe.due("none after '" + mailbox + "'", probe.policy.permission(), SendPolicy.REFUSED);
        }
        probe.from(Probe.address(1, 2, 3, 4), "u@a.com");
        for (String mailbox : bad) {
            Probe.due("sender '" + mailbox + "'", probe.type(mailbox).policy.sender(1), SendPolicy.REFUSED);
        }
        probe.expands("%{s}/%{i}", "u@a.com/1.2.3.4");
    }
}
