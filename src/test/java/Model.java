import java.util.ArrayList;
import java.util.Collections;
import java.util.List;
import java.util.regex.Matcher;
import java.util.regex.Pattern;

/** The document once more, by patterns and lists: nothing here is taken from SendPolicy. */
final class Model {
    private static final String MACRO = "%%|%_|%-|%\\{[slodi][1-9]?r?\\}";
    private static final String ANY = "((?:[!-$&-~]|" + MACRO + ")+)";
    private static final String NO_SLASH = "((?:[!-$&-.0-~]|" + MACRO + ")+)";
    private static final String BITS = "(?:/([0-9]|[012][0-9]|3[012]))?";
    private static final String NUMBER = "(0?0?[0-9]|0?[1-9][0-9]|1[0-9][0-9]|2[0-4][0-9]|25[0-5])";
    private static final String SIGN = "([+?~-]?)";
    private static final Pattern ALL = Pattern.compile(SIGN + "all");
    private static final Pattern NAMED = Pattern.compile(SIGN + "(include|exists):" + ANY);
    private static final Pattern HOSTS = Pattern.compile(SIGN + "(a|mx)(?::" + NO_SLASH + ")?" + BITS);
    private static final Pattern NETWORK = Pattern.compile(
        SIGN + "ip4:" + NUMBER + "\\." + NUMBER + "\\." + NUMBER + "\\." + NUMBER + BITS);
    private static final Pattern REDIRECT = Pattern.compile("redirect=" + ANY);
    private static final Pattern OTHER = Pattern.compile("(?!redirect=)[a-z][a-z0-9_.-]*=.*", Pattern.DOTALL);
    private static final Pattern NAME = Pattern.compile("(?=.{1,60}$)[a-z0-9_-]{1,20}(\\.[a-z0-9_-]{1,20})*");
    private static final Pattern MAILBOX = Pattern.compile("([a-z0-9._+-]{1,30})@([^@]*)", Pattern.DOTALL);

    private record Row(int sort, String name, String value, int address) { }

    /** Ends a permission wherever it stands. */
    private static final class AtOnce extends RuntimeException {
        private static final long serialVersionUID = 1L;
        final int permission;

        AtOnce(int permission) {
            this.permission = permission;
        }
    }

    private final List<Row> rows = new ArrayList<>();
    private String tape = "";
    private String local = null;
    private String domain = null;
    private int address = 0;
    String out = "";
    int counted = 0;
    int voids = 0;

    int feed(String twenty) {
        if (tape.length() + 20 > 800) {
            return -3;
        }
        tape += twenty;
        return tape.length();
    }

    int end(int n) {
        if (n < 0 || n > tape.length()) {
            return -1;
        }
        tape = tape.substring(0, n);
        return n;
    }

    private String take() {
        String taken = tape;
        tape = "";
        return taken;
    }

    private static boolean isName(String text) {
        return NAME.matcher(text).matches();
    }

    int entry(int sort, int number) {
        String[] halves = take().split(" ", 2);
        if (rows.size() == 40) {
            return -3;
        }
        boolean two = halves.length == 2;
        boolean good = isName(halves[0]);
        switch (sort) {
            case 0 -> good &= two && halves[1].length() <= 700;
            case 2 -> good &= two && isName(halves[1]);
            case 1, 3 -> good &= !two;
            default -> good = false;
        }
        if (!good) {
            return -1;
        }
        rows.add(new Row(sort, halves[0], two ? halves[1] : "", number));
        return rows.size();
    }

    int forget() {
        int gone = rows.size();
        rows.clear();
        return gone;
    }

    int sender(int from) {
        Matcher found = MAILBOX.matcher(take());
        if (!found.matches() || !isName(found.group(2))) {
            return -1;
        }
        local = found.group(1);
        domain = found.group(2);
        address = from;
        return 0;
    }

    int permission() {
        if (domain == null) {
            return -1;
        }
        counted = 0;
        voids = 0;
        try {
            return check(domain);
        } catch (AtOnce stop) {
            return stop.permission;
        }
    }

    int expand() {
        String target = take();
        if (domain == null || !target.matches(ANY)) {
            return -1;
        }
        out = become(target, domain);
        return out.length();
    }

    int octet(int k) {
        if (k == -1) {
            return out.length();
        }
        return k < 0 || k >= out.length() ? -2 : out.charAt(k);
    }

    private String become(String target, String checked) {
        Matcher macros = Pattern.compile(MACRO).matcher(target);
        return macros.replaceAll(found -> Matcher.quoteReplacement(becomeMacro(found.group(), checked)));
    }

    private String becomeMacro(String macro, String checked) {
        switch (macro.charAt(1)) {
            case '%':
                return "%";
            case '_':
                return " ";
            case '-':
                return "%20";
            default:
        }
        String source = switch (macro.charAt(2)) {
            case 's' -> local + "@" + domain;
            case 'l' -> local;
            case 'o' -> domain;
            case 'd' -> checked;
            default -> (address >>> 24) + "." + (address >>> 16 & 255) + "." + (address >>> 8 & 255) + "." + (address & 255);
        };
        List<String> parts = new ArrayList<>(List.of(source.split("\\.", -1)));
        if (macro.endsWith("r}")) {
            Collections.reverse(parts);
        }
        char number = macro.charAt(3);
        if (number >= '1' && number <= '9') {
            parts = parts.subList(Math.max(0, parts.size() - (number - '0')), parts.size());
        }
        return String.join(".", parts);
    }

    private List<Row> look(int sort, String name) {
        List<Row> found = new ArrayList<>();
        for (Row row : rows) {
            if (row.name.equals(name) && row.sort == 3) {
                throw new AtOnce(5);
            }
            if (row.name.equals(name) && row.sort == sort) {
                found.add(row);
            }
        }
        return found;
    }

    private void count() {
        counted++;
        if (counted > 10) {
            throw new AtOnce(6);
        }
    }

    private int check(String name) {
        List<String> texts = new ArrayList<>();
        for (Row row : look(0, name)) {
            if ((row.value + " ").startsWith("v=spf1 ")) {
                texts.add(row.value);
            }
        }
        if (texts.size() != 1) {
            return texts.isEmpty() ? 0 : 6;
        }
        List<String> terms = new ArrayList<>();
        List<String> redirects = new ArrayList<>();
        for (String term : texts.get(0).substring(6).split(" +")) {
            Matcher redirect = REDIRECT.matcher(term);
            if (redirect.matches()) {
                redirects.add(redirect.group(1));
            } else if (ALL.matcher(term).matches() || NAMED.matcher(term).matches() || HOSTS.matcher(term).matches()
                || NETWORK.matcher(term).matches()) {
                terms.add(term);
            } else if (!term.isEmpty() && !OTHER.matcher(term).matches()) {
                throw new AtOnce(6);
            }
        }
        if (redirects.size() > 1) {
            throw new AtOnce(6);
        }
        for (String term : terms) {
            if (matches(term, name)) {
                return switch (term.charAt(0)) {
                    case '?' -> 1;
                    case '~' -> 4;
                    case '-' -> 3;
                    default -> 2;
                };
            }
        }
        return redirects.isEmpty() ? 1 : checkOf(redirects.get(0), name);
    }

    private int checkOf(String target, String name) {
        count();
        int found = check(become(target, name));
        if (found == 0 || found == 6) {
            throw new AtOnce(6);
        }
        return found;
    }

    private boolean matches(String term, String name) {
        Matcher named = NAMED.matcher(term);
        if (named.matches() && named.group(2).equals("include")) {
            return checkOf(named.group(3), name) == 2;
        }
        if (named.matches()) {
            count();
            return !looked(1, become(named.group(3), name)).isEmpty();
        }
        Matcher network = NETWORK.matcher(term);
        if (network.matches()) {
            int number = 0;
            for (int k = 2; k <= 5; k++) {
                number = number * 256 + Integer.parseInt(network.group(k));
            }
            return same(number, network.group(6));
        }
        Matcher hosts = HOSTS.matcher(term);
        return !hosts.matches() || matchesHosts(hosts, name);
    }

    private boolean matchesHosts(Matcher hosts, String name) {
        count();
        String target = hosts.group(3) == null ? name : become(hosts.group(3), name);
        boolean direct = hosts.group(2).equals("a");
        for (Row row : looked(direct ? 1 : 2, target)) {
            for (Row host : direct ? List.of(row) : look(1, row.value)) {
                if (same(host.address, hosts.group(4))) {
                    return true;
                }
            }
        }
        return false;
    }

    private List<Row> looked(int sort, String name) {
        List<Row> found = look(sort, name);
        if (found.isEmpty()) {
            voids++;
            if (voids > 2) {
                throw new AtOnce(6);
            }
        }
        return found;
    }

    private boolean same(int number, String bits) {
        int wanted = bits == null ? 32 : Integer.parseInt(bits);
        for (int k = 0; k < wanted; k++) {
            if ((number >>> 31 - k & 1) != (address >>> 31 - k & 1)) {
                return false;
            }
        }
        return true;
    }
}
