import java.util.Arrays;

/** Tells whether an address may send for a domain, by the records of a directory. */
public final class SendPolicy {
    public static final int REFUSED = -1, NONE = -2, FULL = -3;

    private static final int TAPE_LIMIT = 800, FED_AT_ONCE = 20;
    private static final int NAME_LIMIT = 60, PART_LIMIT = 20, LOCAL_LIMIT = 30;
    private static final int MAILBOX_LIMIT = LOCAL_LIMIT + 1 + NAME_LIMIT, DOTTED_LIMIT = 15;
    // The longest OUT comes from a tape of four-sign macros that each become a whole mailbox.
    private static final int OUT_LIMIT = TAPE_LIMIT / 4 * MAILBOX_LIMIT;
    // One more than a NAME has, so that what was cut off here can never be taken for a NAME.
    private static final int TARGET_LIMIT = NAME_LIMIT + 1;
    private static final int ENTRY_LIMIT = 40, VALUE_LIMIT = 700;
    private static final int TEXT = 0, ADDRESS = 1, EXCHANGE = 2, TROUBLED = 3;

    private static final int UNKNOWN = 0, NEUTRAL = 1, PASS = 2, FAIL = 3, SOFT = 4, TROUBLE = 5, BROKEN = 6;
    // What a term says beside TROUBLE and BROKEN; both lie outside the numbers of a PERMISSION.
    private static final int MISS = -1, HIT = -2;
    private static final int COUNT_LIMIT = 10, VOID_LIMIT = 2;
    // Each check but the first is counted, so no more than these can stand open at once.
    private static final int LEVELS = COUNT_LIMIT + 1;

    private static final String VERSION = "v=spf1";
    private static final int FIRST_TERM = 7;
    private static final int ALL = 0, INCLUDE = 1, A = 2, MX = 3, IP4 = 4, EXISTS = 5, REDIRECT = 6, OTHER = 7;
    private static final int ALL_BITS = 32;

    private final Bytes tape;
    private final Bytes out;
    private final Directory directory;
    private final Sender sender;
    private final Macros macros;
    private final Checker checker;

    public SendPolicy() {
        tape = new Bytes(TAPE_LIMIT);
        out = new Bytes(OUT_LIMIT);
        directory = new Directory();
        sender = new Sender();
        macros = new Macros(sender);
        checker = new Checker(directory, sender, macros);
    }

    public int feed(int a, int b, int c, int d, int e) {
        if (tape.size() + FED_AT_ONCE > TAPE_LIMIT) {
            return FULL;
        }
        tape.addFour(a);
        tape.addFour(b);
        tape.addFour(c);
        tape.addFour(d);
        tape.addFour(e);
        return tape.size();
    }

    public int end(int n) {
        if (n < 0 || n > tape.size()) {
            return REFUSED;
        }
        tape.cut(n);
        return n;
    }

    public int entry(int sort, int address) {
        boolean full = directory.size() >= ENTRY_LIMIT;
        boolean taken = !full && directory.take(sort, address, tape);
        tape.cut(0);
        if (full) {
            return FULL;
        }
        return taken ? directory.size() : REFUSED;
    }

    public int forget() {
        int gone = directory.size();
        directory.clear();
        return gone;
    }

    public int sender(int address) {
        boolean taken = sender.take(address, tape);
        tape.cut(0);
        return taken ? 0 : REFUSED;
    }

    public int permission() {
        if (!sender.isKnown()) {
            return REFUSED;
        }
        checker.begin();
        return checker.check(0);
    }

    public int cost(int what) {
        if (what == 0) {
            return checker.counted();
        }
        return what == 1 ? checker.voids() : REFUSED;
    }

    public int expand() {
        boolean good = sender.isKnown() && Macros.isTarget(tape, 0, tape.size());
        if (good) {
            out.cut(0);
            macros.write(tape, 0, tape.size(), sender.domain(), out);
        }
        tape.cut(0);
        return good ? out.size() : REFUSED;
    }

    public int octet(int k) {
        if (k == -1) {
            return out.size();
        }
        return k < 0 || k >= out.size() ? NONE : out.at(k);
    }

    /** A row of bytes that grows up to a limit; what would come beyond the limit is dropped. */
    private static final class Bytes {
        // Most rows stay short: they begin small so that a new object costs little.
        private static final int FIRST_ROOM = 64;

        private final int limit;
        private byte[] room;
        private int size;

        Bytes(int limit) {
            this.limit = limit;
            room = new byte[Math.min(limit, FIRST_ROOM)];
            size = 0;
        }

        int size() {
            return size;
        }

        int at(int k) {
            return k < 0 || k >= size ? -1 : room[k] & 255;
        }

        void cut(int n) {
            if (n >= 0 && n < size) {
                size = n;
            }
        }

        void add(int sign) {
            if (size >= limit) {
                return;
            }
            if (size >= room.length) {
                room = Arrays.copyOf(room, Math.min(limit, 2 * size + 1));
            }
            room[size] = (byte) sign;
            size++;
        }

        void addFour(int word) {
            add(word >>> 24);
            add(word >>> 16);
            add(word >>> 8);
            add(word);
        }

        void addPart(Bytes other, int from, int to) {
            if (from < 0 || from >= to || to > other.size) {
                return;
            }
            int count = Math.min(to - from, limit - size);
            if (size + count > room.length) {
                room = Arrays.copyOf(room, Math.min(limit, 2 * (size + count)));
            }
            System.arraycopy(other.room, from, room, size, count);
            size += count;
        }

        /** A number of 0 to 255, without leading zeros. */
        void addNumber(int number) {
            if (number >= 100) {
                add('0' + number / 100);
            }
            if (number >= 10) {
                add('0' + number / 10 % 10);
            }
            add('0' + number % 10);
        }

        /** Where the sign first stands from a place on, before a bound; the bound if it does not. */
        int find(int sign, int from, int to) {
            for (int k = from; k < to; k++) {
                if (at(k) == sign) {
                    return k;
                }
            }
            return to;
        }

        boolean same(Bytes other) {
            if (size != other.size) {
                return false;
            }
            for (int k = 0; k < size; k++) {
                if (room[k] != other.room[k]) {
                    return false;
                }
            }
            return true;
        }

        /** Whether the word stands at a place and ends before a bound or at it. */
        boolean has(String word, int from, int to) {
            if (to - from < word.length()) {
                return false;
            }
            for (int k = 0; k < word.length(); k++) {
                if (at(from + k) != word.charAt(k)) {
                    return false;
                }
            }
            return true;
        }
    }

    /** Which signs and which runs of signs are what. */
    private static final class Signs {
        static boolean isDigit(int sign) {
            return sign >= '0' && sign <= '9';
        }

        static boolean isLetter(int sign) {
            return sign >= 'a' && sign <= 'z';
        }

        static boolean isNameSign(int sign) {
            return isLetter(sign) || isDigit(sign) || sign == '-' || sign == '_';
        }

        static boolean isName(Bytes row, int from, int to) {
            if (to - from > NAME_LIMIT) {
                return false;
            }
            int part = 0;
            for (int k = from; k < to; k++) {
                int sign = row.at(k);
                if (sign == '.' && part > 0) {
                    part = 0;
                } else if (isNameSign(sign) && part < PART_LIMIT) {
                    part++;
                } else {
                    return false;
                }
            }
            return part > 0;
        }

        static boolean isLocal(Bytes row, int from, int to) {
            if (to <= from || to - from > LOCAL_LIMIT) {
                return false;
            }
            for (int k = from; k < to; k++) {
                int sign = row.at(k);
                if (!isNameSign(sign) && sign != '.' && sign != '+') {
                    return false;
                }
            }
            return true;
        }

        static boolean isWord(Bytes row, int from, int to) {
            if (to <= from || !isLetter(row.at(from))) {
                return false;
            }
            for (int k = from; k < to; k++) {
                if (!isNameSign(row.at(k)) && row.at(k) != '.') {
                    return false;
                }
            }
            return true;
        }
    }

    /** One entry: its value is a TEXT's value or the NAME of an EXCHANGE, else empty. */
    private static final class Entry {
        final int sort;
        final int address;
        final Bytes name;
        final Bytes value;

        Entry(int sort, int address, int nameSize, int valueSize) {
            this.sort = sort;
            this.address = address;
            name = new Bytes(nameSize);
            value = new Bytes(valueSize);
        }

        boolean isPolicyOf(Bytes of) {
            boolean begins = value.has(VERSION, 0, value.size());
            boolean ends = value.size() == VERSION.length() || value.at(VERSION.length()) == ' ';
            return sort == TEXT && begins && ends && name.same(of);
        }
    }

    /** Entries bear NAMES alone, so whoever looks for what is no NAME finds nothing. */
    private static final class Directory {
        private final Entry[] entries;
        private int size;

        Directory() {
            entries = new Entry[ENTRY_LIMIT];
            size = 0;
        }

        int size() {
            return size;
        }

        void clear() {
            size = 0;
        }

        boolean take(int sort, int address, Bytes tape) {
            int blank = tape.find(' ', 0, tape.size());
            if (size >= entries.length || !isGood(sort, tape, blank)) {
                return false;
            }
            int value = Math.min(blank + 1, tape.size());
            Entry made = new Entry(sort, address, blank, tape.size() - value);
            made.name.addPart(tape, 0, blank);
            made.value.addPart(tape, value, tape.size());
            entries[size] = made;
            size++;
            return true;
        }

        private static boolean isGood(int sort, Bytes tape, int blank) {
            if (!Signs.isName(tape, 0, blank)) {
                return false;
            }
            boolean alone = blank == tape.size();
            switch (sort) {
                case TEXT:
                    return !alone && tape.size() - blank - 1 <= VALUE_LIMIT;
                case EXCHANGE:
                    return !alone && Signs.isName(tape, blank + 1, tape.size());
                case ADDRESS:
                case TROUBLED:
                    return alone;
                default:
                    return false;
            }
        }

        boolean has(int sort, Bytes name) {
            for (int k = 0; k < size; k++) {
                if (entries[k].sort == sort && entries[k].name.same(name)) {
                    return true;
                }
            }
            return false;
        }

        int policies(Bytes name) {
            int found = 0;
            for (int k = 0; k < size; k++) {
                if (entries[k].isPolicyOf(name)) {
                    found++;
                }
            }
            return found;
        }

        /** The first policy of a name, or null. */
        Bytes policy(Bytes name) {
            for (int k = 0; k < size; k++) {
                if (entries[k].isPolicyOf(name)) {
                    return entries[k].value;
                }
            }
            return null;
        }

        boolean reaches(Bytes name, int address, int bits) {
            for (int k = 0; k < size; k++) {
                Entry host = entries[k];
                if (host.sort == ADDRESS && sameBits(host.address, address, bits) && host.name.same(name)) {
                    return true;
                }
            }
            return false;
        }

        /** The exchange that entry k gives to a name, or null if it gives none. */
        Bytes exchangeAt(int k, Bytes name) {
            if (k < 0 || k >= size || entries[k].sort != EXCHANGE || !entries[k].name.same(name)) {
                return null;
            }
            return entries[k].value;
        }

        static boolean sameBits(int one, int other, int bits) {
            // Java shifts by 32 as if by 0, so no bits at all are a case of their own.
            return bits <= 0 || (one ^ other) >>> (ALL_BITS - bits) == 0;
        }
    }

    /** THE SENDER, kept in each of the forms that macros ask for. */
    private static final class Sender {
        private final Bytes mailbox;
        private final Bytes local;
        private final Bytes domain;
        private final Bytes dotted;
        private int address;

        Sender() {
            mailbox = new Bytes(MAILBOX_LIMIT);
            local = new Bytes(LOCAL_LIMIT);
            domain = new Bytes(NAME_LIMIT);
            dotted = new Bytes(DOTTED_LIMIT);
            address = 0;
        }

        boolean isKnown() {
            return mailbox.size() > 0;
        }

        int address() {
            return address;
        }

        Bytes domain() {
            return domain;
        }

        boolean take(int from, Bytes tape) {
            int size = tape.size();
            int at = tape.find('@', 0, size);
            if (!Signs.isLocal(tape, 0, at) || !Signs.isName(tape, at + 1, size)) {
                return false;
            }
            address = from;
            refill(mailbox, tape, 0, size);
            refill(local, tape, 0, at);
            refill(domain, tape, at + 1, size);
            writeDotted();
            return true;
        }

        private static void refill(Bytes row, Bytes tape, int from, int to) {
            row.cut(0);
            row.addPart(tape, from, to);
        }

        private void writeDotted() {
            dotted.cut(0);
            for (int shift = 24; shift >= 0; shift -= 8) {
                dotted.addNumber(address >>> shift & 255);
                if (shift > 0) {
                    dotted.add('.');
                }
            }
        }

        /** What stands behind a macro's letter; for d the name that is checked. */
        Bytes source(int letter, Bytes checked) {
            switch (letter) {
                case 's':
                    return mailbox;
                case 'l':
                    return local;
                case 'o':
                    return domain;
                case 'i':
                    return dotted;
                default:
                    return checked;
            }
        }
    }

    /** Reads a D and writes what becomes of it. */
    private static final class Macros {
        private final Sender sender;
        private final int[] starts;

        Macros(Sender sender) {
            this.sender = sender;
            // A row of dots alone has one part more than signs, and the end of the last is kept too.
            starts = new int[MAILBOX_LIMIT + 2];
        }

        static boolean isTarget(Bytes row, int from, int to) {
            for (int k = from; k < to; k++) {
                int sign = row.at(k);
                if (sign < 33 || sign > 126) {
                    return false;
                }
                if (sign == '%') {
                    int length = macroLength(row, k, to);
                    if (length == 0) {
                        return false;
                    }
                    k += length - 1;
                }
            }
            return to > from;
        }

        /** How many signs the macro has whose % stands at a place; 0 if there is no macro. */
        private static int macroLength(Bytes row, int at, int to) {
            int next = at + 1 < to ? row.at(at + 1) : -1;
            if (next == '%' || next == '_' || next == '-') {
                return 2;
            }
            if (next != '{' || at + 2 >= to || !isMacroLetter(row.at(at + 2))) {
                return 0;
            }
            int k = at + 3;
            if (isPartNumber(row.at(k))) {
                k++;
            }
            if (row.at(k) == 'r') {
                k++;
            }
            return k < to && row.at(k) == '}' ? k + 1 - at : 0;
        }

        private static boolean isMacroLetter(int sign) {
            return sign == 's' || sign == 'l' || sign == 'o' || sign == 'd' || sign == 'i';
        }

        private static boolean isPartNumber(int sign) {
            return sign >= '1' && sign <= '9';
        }

        void write(Bytes row, int from, int to, Bytes checked, Bytes into) {
            for (int k = from; k < to; k++) {
                int sign = row.at(k);
                int length = sign == '%' ? macroLength(row, k, to) : 0;
                if (length == 0) {
                    into.add(sign);
                } else if (length == 2) {
                    writeSign(row.at(k + 1), into);
                    k++;
                } else {
                    boolean numbered = isPartNumber(row.at(k + 3));
                    boolean turned = row.at(k + length - 2) == 'r';
                    Bytes source = sender.source(row.at(k + 2), checked);
                    writeParts(source, numbered ? row.at(k + 3) - '0' : source.size() + 1, turned, into);
                    k += length - 1;
                }
            }
        }

        private static void writeSign(int sign, Bytes into) {
            if (sign == '%') {
                into.add('%');
            } else if (sign == '_') {
                into.add(' ');
            } else {
                into.add('%');
                into.add('2');
                into.add('0');
            }
        }

        private void writeParts(Bytes source, int most, boolean turned, Bytes into) {
            int parts = 0;
            starts[0] = 0;
            for (int k = 0; k <= source.size() && parts + 1 < starts.length; k++) {
                if (k == source.size() || source.at(k) == '.') {
                    parts++;
                    starts[parts] = k + 1;
                }
            }
            int first = Math.max(0, parts - most);
            for (int k = first; k < parts; k++) {
                int part = turned ? parts - 1 - k : k;
                if (k > first) {
                    into.add('.');
                }
                into.addPart(source, starts[part], starts[part + 1] - 1);
            }
        }
    }

    /** One term of a policy, as it was read last. */
    private static final class Term {
        private int kind;
        private int sign;
        private int bits;
        private int network;
        private int from;
        private int to;

        int kind() {
            return kind;
        }

        int bits() {
            return bits;
        }

        int network() {
            return network;
        }

        /** Where its D begins; there is none if that is where it ends. */
        int from() {
            return from;
        }

        int to() {
            return to;
        }

        int verdict() {
            switch (sign) {
                case '-':
                    return FAIL;
                case '~':
                    return SOFT;
                case '?':
                    return NEUTRAL;
                default:
                    return PASS;
            }
        }

        static boolean startsAt(Bytes text, int at) {
            return text.at(at) != ' ' && text.at(at - 1) == ' ';
        }

        boolean read(Bytes text, int start) {
            int stop = text.find(' ', start, text.size());
            int first = text.at(start);
            boolean signed = first == '+' || first == '?' || first == '~' || first == '-';
            int at = signed ? start + 1 : start;
            sign = signed ? first : '+';
            bits = ALL_BITS;
            from = stop;
            to = stop;
            // No two of these can both be right: none of the signs : and / is in a WORD.
            return readAll(text, at, stop)
                || text.has("include:", at, stop) && readTarget(INCLUDE, text, at + 8, stop)
                || text.has("a", at, stop) && readHost(A, text, at + 1, stop)
                || text.has("mx", at, stop) && readHost(MX, text, at + 2, stop)
                || text.has("ip4:", at, stop) && readNetwork(text, at + 4, stop)
                || text.has("exists:", at, stop) && readTarget(EXISTS, text, at + 7, stop)
                || !signed && text.has("redirect=", at, stop) && readTarget(REDIRECT, text, at + 9, stop)
                || !signed && readOther(text, at, stop);
        }

        private boolean readAll(Bytes text, int at, int stop) {
            kind = ALL;
            return stop - at == 3 && text.has("all", at, stop);
        }

        private boolean readOther(Bytes text, int at, int stop) {
            kind = OTHER;
            int mark = text.find('=', at, stop);
            // A redirect whose D is none is no other word: it must break its record.
            return mark < stop && Signs.isWord(text, at, mark) && !text.has("redirect=", at, stop);
        }

        private boolean readTarget(int read, Bytes text, int at, int stop) {
            kind = read;
            from = at;
            to = stop;
            return Macros.isTarget(text, at, stop);
        }

        private boolean readHost(int read, Bytes text, int at, int stop) {
            kind = read;
            // A D ends before the first slash here, so it needs no look for slashes of its own.
            int slash = text.find('/', at, stop);
            if (at < slash) {
                from = at + 1;
                to = slash;
                if (text.at(at) != ':' || !Macros.isTarget(text, from, to)) {
                    return false;
                }
            }
            return slash == stop || readBits(text, slash + 1, stop);
        }

        private boolean readNetwork(Bytes text, int at, int stop) {
            kind = IP4;
            int slash = text.find('/', at, stop);
            return readFour(text, at, slash) && (slash == stop || readBits(text, slash + 1, stop));
        }

        private boolean readFour(Bytes text, int at, int stop) {
            int dots = 0;
            int digits = 0;
            int number = 0;
            network = 0;
            for (int k = at; k < stop; k++) {
                int found = text.at(k);
                if (Signs.isDigit(found) && digits < 3) {
                    digits++;
                    number = number * 10 + found - '0';
                } else if (found == '.' && digits > 0 && dots < 3) {
                    network = network << 8 | number;
                    dots++;
                    digits = 0;
                    number = 0;
                } else {
                    return false;
                }
                if (number > 255) {
                    return false;
                }
            }
            network = network << 8 | number;
            return dots == 3 && digits > 0;
        }

        private boolean readBits(Bytes text, int at, int stop) {
            if (stop <= at || stop - at > 2) {
                return false;
            }
            bits = 0;
            for (int k = at; k < stop; k++) {
                if (!Signs.isDigit(text.at(k))) {
                    return false;
                }
                bits = bits * 10 + text.at(k) - '0';
            }
            return bits <= ALL_BITS;
        }
    }

    /** What one check that stands open must keep while others run inside it. */
    private static final class Level {
        final Bytes name;
        final Term term;
        private int redirectFrom;
        private int redirectTo;

        Level() {
            name = new Bytes(TARGET_LIMIT);
            term = new Term();
            redirectFrom = 0;
            redirectTo = 0;
        }

        /** Reads all terms before any is tried, for one that is none breaks those before it too. */
        boolean readTerms(Bytes text) {
            redirectFrom = 0;
            redirectTo = 0;
            for (int at = FIRST_TERM; at < text.size(); at++) {
                if (!Term.startsAt(text, at)) {
                    continue;
                }
                if (!term.read(text, at)) {
                    return false;
                }
                if (term.kind() == REDIRECT) {
                    if (hasRedirect()) {
                        return false;
                    }
                    redirectFrom = term.from();
                    redirectTo = term.to();
                }
            }
            return true;
        }

        boolean hasRedirect() {
            return redirectTo > 0;
        }

        int redirectFrom() {
            return redirectFrom;
        }

        int redirectTo() {
            return redirectTo;
        }
    }

    /** Checks names, counting what is looked up. */
    private static final class Checker {
        private final Directory directory;
        private final Sender sender;
        private final Macros macros;
        private final Level[] levels;
        private final Bytes target;
        private int counted;
        private int voids;

        Checker(Directory directory, Sender sender, Macros macros) {
            this.directory = directory;
            this.sender = sender;
            this.macros = macros;
            levels = new Level[LEVELS];
            for (int k = 0; k < LEVELS; k++) {
                levels[k] = new Level();
            }
            target = new Bytes(TARGET_LIMIT);
            counted = 0;
            voids = 0;
        }

        int counted() {
            return counted;
        }

        int voids() {
            return voids;
        }

        void begin() {
            counted = 0;
            voids = 0;
            Bytes name = levels[0].name;
            name.cut(0);
            name.addPart(sender.domain(), 0, sender.domain().size());
        }

        /** The permission of the name that stands at a level. */
        int check(int depth) {
            if (depth < 0 || depth >= levels.length) {
                return BROKEN;
            }
            Level level = levels[depth];
            if (directory.has(TROUBLED, level.name)) {
                return TROUBLE;
            }
            int policies = directory.policies(level.name);
            Bytes text = directory.policy(level.name);
            if (policies == 0 || text == null) {
                return UNKNOWN;
            }
            if (policies > 1 || !level.readTerms(text)) {
                return BROKEN;
            }
            int found = firstMatch(text, depth);
            if (found != MISS) {
                return found;
            }
            if (!level.hasRedirect()) {
                return NEUTRAL;
            }
            return checkInside(text, level.redirectFrom(), level.redirectTo(), depth);
        }

        private int firstMatch(Bytes text, int depth) {
            Term term = levels[depth].term;
            for (int at = FIRST_TERM; at < text.size(); at++) {
                if (!Term.startsAt(text, at) || !term.read(text, at)) {
                    continue;
                }
                int found = match(text, depth);
                if (found != MISS) {
                    return found == HIT ? term.verdict() : found;
                }
            }
            return MISS;
        }

        private int match(Bytes text, int depth) {
            Term term = levels[depth].term;
            switch (term.kind()) {
                case ALL:
                    return HIT;
                case IP4:
                    return Directory.sameBits(term.network(), sender.address(), term.bits()) ? HIT : MISS;
                case INCLUDE:
                    return asIncluded(checkInside(text, term.from(), term.to(), depth));
                case A:
                case MX:
                case EXISTS:
                    return lookUp(text, term, levels[depth].name);
                default:
                    return MISS;
            }
        }

        private boolean countOne() {
            counted++;
            return counted <= COUNT_LIMIT;
        }

        private static int asIncluded(int found) {
            if (found == TROUBLE || found == BROKEN) {
                return found;
            }
            return found == PASS ? HIT : MISS;
        }

        /** The check of a D, which include and redirect both count and need to find a policy. */
        private int checkInside(Bytes text, int from, int to, int depth) {
            if (!countOne() || depth + 1 >= levels.length) {
                return BROKEN;
            }
            Bytes name = levels[depth + 1].name;
            name.cut(0);
            macros.write(text, from, to, levels[depth].name, name);
            int found = check(depth + 1);
            return found == UNKNOWN ? BROKEN : found;
        }

        private int lookUp(Bytes text, Term term, Bytes checked) {
            if (!countOne()) {
                return BROKEN;
            }
            target.cut(0);
            if (term.from() < term.to()) {
                macros.write(text, term.from(), term.to(), checked, target);
            } else {
                target.addPart(checked, 0, checked.size());
            }
            if (directory.has(TROUBLED, target)) {
                return TROUBLE;
            }
            if (!directory.has(term.kind() == MX ? EXCHANGE : ADDRESS, target)) {
                voids++;
                return voids > VOID_LIMIT ? BROKEN : MISS;
            }
            if (term.kind() == MX) {
                return tryExchanges(term.bits());
            }
            boolean hit = term.kind() == EXISTS || directory.reaches(target, sender.address(), term.bits());
            return hit ? HIT : MISS;
        }

        private int tryExchanges(int bits) {
            for (int k = 0; k < directory.size(); k++) {
                Bytes exchange = directory.exchangeAt(k, target);
                if (exchange == null) {
                    continue;
                }
                if (directory.has(TROUBLED, exchange)) {
                    return TROUBLE;
                }
                if (directory.reaches(exchange, sender.address(), bits)) {
                    return HIT;
                }
            }
            return MISS;
        }
    }
}
