import java.util.NoSuchElementException;

/** Merges records and a template into letters. */
public final class MailMerge {
    private static final int MOST_RECORDS = 20;
    private static final int FIELDS = 5;
    private static final int COUNTRY = 4;
    private static final int LONGEST_FIELD = 12;
    private static final int GROUPS = 10;
    private static final int GREATEST_COUNT = 99;
    private static final int LOWEST_SIGN = 32;
    private static final int HIGHEST_SIGN = 126;
    private static final int LONGEST_BUFFER = 120;
    private static final int MOST_OPEN = 4;
    private static final int KEY_SETS = 32;
    private static final int FIRST_LIMIT = 100;
    private static final int GREATEST_LIMIT = 200;
    private static final int MOST_UNDOABLE = 8;

    private static final int KEEP_FIRST = 0;
    private static final int KEEP_LAST = 1;
    private static final int KEEP_GREATEST = 2;

    private static final int GOT_LETTER = 0;
    private static final int GROUP_EXCLUDED = 1;
    private static final int OTHER_KEPT = 2;
    private static final int FIELD_MISSING = 3;
    private static final int TOO_LONG = 4;

    private static final int LITERAL = 0;
    private static final int COUNT = 1;
    private static final int ADDRESS = 2;
    private static final int BRACES = 3;
    private static final int WORDS = 4;
    private static final int BRACKETS = 5;

    private final StringBuilder buffer = new StringBuilder();
    private final Setup present = new Setup();
    private final Setup saved = new Setup();
    private final Setup[] past = new Setup[MOST_UNDOABLE];
    private final Outcome latest = new Outcome();
    private final Sheet draft = new Sheet();
    private final int[] order = new int[MOST_RECORDS];
    private int undoable = 0;
    private int wrongPlace = -1;
    private boolean hasSnapshot = false;

    public MailMerge() {
        for (int i = 0; i < past.length; i++) {
            past[i] = new Setup();
        }
    }

    // ---- records

    public int clear() {
        int before = present.size;
        present.reset();
        undoable = 0;
        return before;
    }

    public int append(int packed) throws IllegalArgumentException, IllegalStateException {
        int more = 0;
        for (int shift = 24; shift >= 0; shift -= 8) {
            int sign = byteAt(packed, shift);
            if (sign != 0 && (sign < LOWEST_SIGN || sign > HIGHEST_SIGN)) {
                throw new IllegalArgumentException("a byte is no character");
            }
            more += sign == 0 ? 0 : 1;
        }
        if (buffer.length() + more > LONGEST_BUFFER) {
            throw new IllegalStateException("the buffer is full");
        }
        for (int shift = 24; shift >= 0; shift -= 8) {
            int sign = byteAt(packed, shift);
            if (sign != 0) {
                buffer.append((char) sign);
            }
        }
        return buffer.length();
    }

    public int addRecord(int group, int count) throws IllegalArgumentException, IllegalStateException {
        if (!isGroup(group) || !isCountInRange(count)) {
            throw new IllegalArgumentException("the group or the count is out of range");
        }
        if (present.size >= MOST_RECORDS) {
            throw new IllegalStateException("there are 20 records");
        }
        remember();
        present.addLast(new Entry(group, count));
        return present.size - 1;
    }

    public int removeRecord(int record) throws IndexOutOfBoundsException {
        existing(record);
        remember();
        present.removeAt(record);
        return present.size;
    }

    public int moveRecord(int record, int to) throws IndexOutOfBoundsException {
        existing(record);
        existing(to);
        remember();
        present.moveTo(record, to);
        return record == to ? 0 : Math.abs(record - to) + 1;
    }

    public int sort(int field, boolean isDescending) throws IndexOutOfBoundsException {
        checkField(field);
        remember();
        return present.sortBy(field, isDescending, order);
    }

    public int setField(int record, int field) throws IndexOutOfBoundsException, IllegalArgumentException {
        Entry entry = existing(record);
        checkField(field);
        Text text = takeFieldText();
        remember();
        present.replace(record, entry.withText(field, text));
        return entry.textAt(field).length();
    }

    public int setNumber(int record, boolean isCount, int number)
            throws IndexOutOfBoundsException, IllegalArgumentException {
        Entry entry = existing(record);
        if (isCount ? !isCountInRange(number) : !isGroup(number)) {
            throw new IllegalArgumentException("the number is out of range");
        }
        remember();
        present.replace(record, isCount ? entry.withCount(number) : entry.withGroup(number));
        return isCount ? entry.count : entry.group;
    }

    public int field(int record, int field, int index) throws IndexOutOfBoundsException, NoSuchElementException {
        Entry entry = existing(record);
        checkField(field);
        Text text = entry.textAt(field);
        if (index < -1 || index >= text.length()) {
            throw new NoSuchElementException("no such character");
        }
        return index == -1 ? text.length() : text.signAt(index);
    }

    public int record(int record, int what) throws IndexOutOfBoundsException, IllegalArgumentException {
        Entry entry = existing(record);
        switch (what) {
            case 0: return entry.group;
            case 1: return entry.count;
            case 2: return entry.filledFields();
            case 3: return Integer.bitCount(present.addressFields(entry));
            default: throw new IllegalArgumentException("no such number of a record");
        }
    }

    // ---- template and settings

    public int setTemplate() throws IllegalArgumentException {
        TemplateReader reader = new TemplateReader(takeBuffer());
        if (!reader.readAll()) {
            wrongPlace = reader.at;
            throw new IllegalArgumentException("the template is malformed");
        }
        remember();
        present.layout = reader.layout;
        return reader.layout.size;
    }

    public int errorPosition() throws NoSuchElementException {
        if (wrongPlace < 0) {
            throw new NoSuchElementException("no text was malformed");
        }
        return wrongPlace;
    }

    public int template(int what) throws IllegalArgumentException {
        Layout layout = present.layout;
        switch (what) {
            case 0: return layout.size;
            case 1: return layout.length;
            case 2: return layout.deepest;
            case 3: return layout.fields;
            case 4: return layout.brackets;
            default: throw new IllegalArgumentException("no such number of the template");
        }
    }

    public int item(int item, int what) throws NoSuchElementException, IllegalArgumentException {
        Piece piece = existingPiece(item);
        switch (what) {
            case 0: return piece.kind;
            case 1: return piece.place;
            case 2: return piece.depth;
            case 3: return piece.outer;
            default: throw new IllegalArgumentException("no such number of an item");
        }
    }

    public boolean counts(int record, int item) throws IndexOutOfBoundsException, NoSuchElementException {
        Entry entry = existing(record);
        Piece piece = existingPiece(item);
        boolean isSo = true;
        for (int level = 0; level <= MOST_OPEN && piece != null; level++) {
            isSo = isSo && piece.isMetBy(entry);
            piece = present.layout.pieceAt(piece.outer);
        }
        return isSo;
    }

    public int setHome() throws IllegalArgumentException {
        Text text = takeFieldText();
        remember();
        int before = present.home.length();
        present.home = text;
        return before;
    }

    public int setKeys(int keys) throws IllegalArgumentException {
        if (keys < 0 || keys >= KEY_SETS) {
            throw new IllegalArgumentException("the keys are out of range");
        }
        remember();
        int before = present.keys;
        present.keys = keys;
        return before;
    }

    public int setPolicy(int policy) throws IllegalArgumentException {
        if (policy < KEEP_FIRST || policy > KEEP_GREATEST) {
            throw new IllegalArgumentException("no such policy");
        }
        remember();
        int before = present.policy;
        present.policy = policy;
        return before;
    }

    public boolean exclude(int group, boolean on) throws IndexOutOfBoundsException {
        if (!isGroup(group)) {
            throw new IndexOutOfBoundsException("no such group");
        }
        remember();
        int bit = 1 << group;
        boolean before = (present.excluded & bit) != 0;
        present.excluded = on ? present.excluded | bit : present.excluded & ~bit;
        return before;
    }

    public int setLimit(int limit) throws IllegalArgumentException {
        if (limit < 1 || limit > GREATEST_LIMIT) {
            throw new IllegalArgumentException("the limit is out of range");
        }
        remember();
        int before = present.limit;
        present.limit = limit;
        return before;
    }

    public int setting(int what) throws IllegalArgumentException {
        switch (what) {
            case 0: return present.size;
            case 1: return present.keys;
            case 2: return present.policy;
            case 3: return present.excluded;
            case 4: return present.limit;
            case 5: return buffer.length();
            case 6: return undoable;
            case 7: return present.home.length();
            default: throw new IllegalArgumentException("no such number of the settings");
        }
    }

    // ---- runs

    public int run() throws IllegalStateException {
        if (present.size == 0) {
            throw new IllegalStateException("there are no records");
        }
        latest.makeFrom(present);
        return latest.howMany(GOT_LETTER);
    }

    public int reason(int record) throws IllegalStateException, IndexOutOfBoundsException {
        return sheetOf(record).reason;
    }

    public int reasons(int reason) throws IllegalStateException, IllegalArgumentException {
        checkRun();
        if (reason < GOT_LETTER || reason > TOO_LONG) {
            throw new IllegalArgumentException("no such reason");
        }
        return latest.howMany(reason);
    }

    public int letter(int record, int index)
            throws IllegalStateException, IndexOutOfBoundsException, UnsupportedOperationException,
            NoSuchElementException {
        Sheet sheet = sheetOf(record);
        if (sheet.reason != GOT_LETTER) {
            throw new UnsupportedOperationException("it got no letter");
        }
        if (index < -1 || index >= sheet.length) {
            throw new NoSuchElementException("no such character");
        }
        return index == -1 ? sheet.length : sheet.signs[index];
    }

    public int chain(int record, int index)
            throws IllegalStateException, IndexOutOfBoundsException, UnsupportedOperationException,
            NoSuchElementException {
        Sheet sheet = sheetOf(record);
        if (sheet.reason != FIELD_MISSING && sheet.reason != TOO_LONG) {
            throw new UnsupportedOperationException("its letter did not fail");
        }
        if (index < 0 || index >= sheet.links) {
            throw new NoSuchElementException("no such place");
        }
        return sheet.chain[index];
    }

    public int kept(int record) throws IndexOutOfBoundsException, UnsupportedOperationException {
        Entry entry = existing(record);
        if (present.isExcluded(entry)) {
            throw new UnsupportedOperationException("its group is excluded");
        }
        return present.keptOf(record, present.policy, false);
    }

    public int preview(int record) throws IndexOutOfBoundsException {
        draft.write(present, existing(record));
        return draft.reason == GOT_LETTER ? draft.length : -draft.reason;
    }

    public double meanLength() throws IllegalStateException, ArithmeticException {
        checkRun();
        int letters = latest.howMany(GOT_LETTER);
        if (letters == 0) {
            throw new ArithmeticException("there are no letters");
        }
        return (double) latest.totalLength() / (double) letters;
    }

    public float share() throws IllegalStateException {
        checkRun();
        return (float) latest.howMany(GOT_LETTER) / (float) latest.size;
    }

    public boolean isOrderFree() {
        int mirrored = present.policy;
        if (present.policy == KEEP_FIRST) {
            mirrored = KEEP_LAST;
        } else if (present.policy == KEEP_LAST) {
            mirrored = KEEP_FIRST;
        }
        // Only reason 2 looks at other records: all that the order can change is who is kept.
        for (int i = 0; i < present.size; i++) {
            boolean isKept = present.keptOf(i, present.policy, false) == i;
            boolean isKeptBackwards = present.keptOf(i, mirrored, true) == i;
            if (isKept != isKeptBackwards) {
                return false;
            }
        }
        return true;
    }

    // ---- undo and snapshot

    public int undo() throws IllegalStateException {
        if (undoable <= 0 || undoable > past.length) {
            throw new IllegalStateException("no change can be undone");
        }
        undoable--;
        present.copyFrom(past[undoable]);
        return undoable;
    }

    public int snapshot() {
        saved.copyFrom(present);
        hasSnapshot = true;
        return saved.size;
    }

    public int restore() throws IllegalStateException {
        if (!hasSnapshot) {
            throw new IllegalStateException("there is no snapshot");
        }
        present.copyFrom(saved);
        undoable = 0;
        return present.size;
    }

    // ---- what the calls have in common

    private static int byteAt(int packed, int shift) {
        return packed >>> shift & 255;
    }

    private static boolean isGroup(int group) {
        return group >= 0 && group < GROUPS;
    }

    private static boolean isCountInRange(int count) {
        return count >= 0 && count <= GREATEST_COUNT;
    }

    private static void checkField(int field) {
        if (field < 0 || field >= FIELDS) {
            throw new IndexOutOfBoundsException("no such field");
        }
    }

    private Entry existing(int number) {
        Entry entry = present.entryAt(number);
        if (entry == null) {
            throw new IndexOutOfBoundsException("no such record");
        }
        return entry;
    }

    private Piece existingPiece(int number) {
        Piece piece = present.layout.pieceAt(number);
        if (piece == null) {
            throw new NoSuchElementException("no such item");
        }
        return piece;
    }

    private void checkRun() {
        if (latest.size == 0) {
            throw new IllegalStateException("there was no run");
        }
    }

    private Sheet sheetOf(int number) {
        checkRun();
        if (number < 0 || number >= latest.size) {
            throw new IndexOutOfBoundsException("there was no such record");
        }
        return latest.sheets[number];
    }

    private String takeBuffer() {
        String text = buffer.toString();
        buffer.setLength(0);
        return text;
    }

    private Text takeFieldText() {
        String text = takeBuffer();
        int wrong = wrongPlaceOfField(text);
        if (wrong >= 0) {
            wrongPlace = wrong;
            throw new IllegalArgumentException("the text is no field");
        }
        return new Text(text);
    }

    private static int wrongPlaceOfField(String text) {
        for (int i = 0; i < text.length(); i++) {
            if (i == LONGEST_FIELD || text.charAt(i) == '/') {
                return i;
            }
        }
        return -1;
    }

    private void remember() {
        if (undoable >= past.length) {
            forgetOldest();
        }
        past[undoable].copyFrom(present);
        undoable++;
    }

    private void forgetOldest() {
        Setup oldest = past[0];
        for (int i = 1; i < past.length; i++) {
            past[i - 1] = past[i];
        }
        past[past.length - 1] = oldest;
        undoable = past.length - 1;
    }

    /** The text of a field. */
    private static final class Text {
        final String signs;

        Text(String signs) {
            this.signs = signs;
        }

        int length() {
            return signs.length();
        }

        boolean isEmpty() {
            return signs.isEmpty();
        }

        char signAt(int index) {
            return index >= 0 && index < signs.length() ? signs.charAt(index) : (char) 0;
        }

        boolean isSameAs(Text other) {
            return length() == other.length() && compareWith(other) == 0;
        }

        int compareWith(Text other) {
            int common = Math.min(signs.length(), other.signs.length());
            for (int i = 0; i < common; i++) {
                int difference = capital(signs.charAt(i)) - capital(other.signs.charAt(i));
                if (difference != 0) {
                    return difference;
                }
            }
            return signs.length() - other.signs.length();
        }

        static char capital(char sign) {
            return sign >= 'a' && sign <= 'z' ? (char) (sign - 'a' + 'A') : sign;
        }
    }

    /** A record. It never changes, so that the past and the snapshot can share it. */
    private static final class Entry {
        final int group;
        final int count;
        private final Text[] texts;

        Entry(int group, int count) {
            this(group, count, new Text[FIELDS]);
            Text empty = new Text("");
            for (int i = 0; i < texts.length; i++) {
                texts[i] = empty;
            }
        }

        private Entry(int group, int count, Text[] texts) {
            this.group = group;
            this.count = count;
            this.texts = texts;
        }

        Entry withGroup(int other) {
            return new Entry(other, count, texts);
        }

        Entry withCount(int other) {
            return new Entry(group, other, texts);
        }

        Entry withText(int field, Text text) {
            Text[] others = new Text[FIELDS];
            for (int i = 0; i < others.length; i++) {
                others[i] = i == field ? text : texts[i];
            }
            return new Entry(group, count, others);
        }

        /** The text of a field from 0 to 4. */
        Text textAt(int field) {
            return texts[Math.max(0, Math.min(field, FIELDS - 1))];
        }

        int filledFields() {
            int mask = 0;
            for (int i = 0; i < texts.length; i++) {
                mask |= texts[i].isEmpty() ? 0 : 1 << i;
            }
            return mask;
        }
    }

    /** The records, the template and the settings: all that undo and the snapshot bring back. */
    private static final class Setup {
        private final Entry[] entries = new Entry[MOST_RECORDS];
        int size;
        Layout layout;
        Text home;
        int keys;
        int policy;
        int excluded;
        int limit;

        Setup() {
            reset();
        }

        void reset() {
            size = 0;
            layout = new Layout(0);
            home = new Text("");
            keys = 0;
            policy = KEEP_FIRST;
            excluded = 0;
            limit = FIRST_LIMIT;
        }

        void copyFrom(Setup other) {
            for (int i = 0; i < MOST_RECORDS; i++) {
                entries[i] = other.entries[i];
            }
            size = other.size;
            layout = other.layout;
            home = other.home;
            keys = other.keys;
            policy = other.policy;
            excluded = other.excluded;
            limit = other.limit;
        }

        /** The record with this number, or null if there is none. */
        Entry entryAt(int number) {
            return number >= 0 && number < size ? entries[number] : null;
        }

        void addLast(Entry entry) {
            if (size < entries.length) {
                entries[size] = entry;
                size++;
            }
        }

        void replace(int number, Entry entry) {
            if (number >= 0 && number < size) {
                entries[number] = entry;
            }
        }

        void removeAt(int number) {
            if (number >= 0 && number < size) {
                moveTo(number, size - 1);
                size--;
            }
        }

        void moveTo(int number, int to) {
            if (number < 0 || number >= size || to < 0 || to >= size) {
                return;
            }
            Entry moved = entries[number];
            for (int i = number; i < to; i++) {
                entries[i] = entries[i + 1];
            }
            for (int i = number; i > to; i--) {
                entries[i] = entries[i - 1];
            }
            entries[to] = moved;
        }

        /** Sorts, with room for an order of all records, and returns how many numbers change. */
        int sortBy(int field, boolean isDescending, int[] order) {
            int all = Math.min(size, order.length);
            for (int i = 0; i < all; i++) {
                Entry entry = entryAt(i);
                int to = i;
                for (int j = i - 1; j >= 0 && comesBefore(entry, entryAt(j), field, isDescending); j--) {
                    entries[j + 1] = entries[j];
                    order[j + 1] = order[j];
                    to = j;
                }
                entries[to] = entry;
                order[to] = i;
            }
            int changed = 0;
            for (int i = 0; i < all; i++) {
                changed += order[i] == i ? 0 : 1;
            }
            return changed;
        }

        private static boolean comesBefore(Entry one, Entry other, int field, boolean isDescending) {
            if (one == null || other == null) {
                return false;
            }
            Text mine = one.textAt(field);
            Text theirs = other.textAt(field);
            if (mine.isEmpty() || theirs.isEmpty()) {
                return !mine.isEmpty();
            }
            int difference = mine.compareWith(theirs);
            return isDescending ? difference > 0 : difference < 0;
        }

        /** The fields that the address block of an entry consists of, as a bit mask. */
        int addressFields(Entry entry) {
            boolean isAtHome = !home.isEmpty() && entry.textAt(COUNTRY).isSameAs(home);
            return isAtHome ? entry.filledFields() & ~(1 << COUNTRY) : entry.filledFields();
        }

        boolean isExcluded(Entry entry) {
            return (excluded >> entry.group & 1) != 0;
        }

        boolean areDuplicates(Entry one, Entry other) {
            for (int i = 0; i < FIELDS; i++) {
                if ((keys >> i & 1) != 0 && !one.textAt(i).isSameAs(other.textAt(i))) {
                    return false;
                }
            }
            return true;
        }

        /** Which record is kept of one and its duplicates; itself if it is excluded. */
        int keptOf(int number, int byPolicy, boolean isBackwards) {
            Entry entry = entryAt(number);
            if (keys == 0 || entry == null || isExcluded(entry)) {
                return number;
            }
            int kept = number;
            Entry best = null;
            for (int step = 0; step < size; step++) {
                int i = isBackwards ? size - 1 - step : step;
                Entry other = entryAt(i);
                if (other == null || isExcluded(other) || !areDuplicates(entry, other)) {
                    continue;
                }
                if (best == null || isBetter(other, best, byPolicy)) {
                    kept = i;
                    best = other;
                }
            }
            return kept;
        }

        /** Whether a record is kept rather than one that comes before it. */
        private static boolean isBetter(Entry later, Entry earlier, int byPolicy) {
            return byPolicy == KEEP_LAST || byPolicy == KEEP_GREATEST && later.count > earlier.count;
        }
    }

    /** A condition of an item with "[", and the next one of the same item or null. */
    private static final class Condition {
        static final int FILLED = 'f';
        static final int GROUP = 'g';
        static final int LESS = '<';
        static final int EQUAL = '=';
        static final int GREATER = '>';

        final boolean isNegated;
        final int relation;
        final int number;
        final Condition next;

        Condition(boolean isNegated, int relation, int number, Condition next) {
            this.isNegated = isNegated;
            this.relation = relation;
            this.number = number;
            this.next = next;
        }

        boolean isTrueFor(Entry entry) {
            return isNegated != holdsFor(entry);
        }

        private boolean holdsFor(Entry entry) {
            switch (relation) {
                case FILLED: return !entry.textAt(number).isEmpty();
                case GROUP: return entry.group == number;
                case LESS: return entry.count < number;
                case EQUAL: return entry.count == number;
                default: return entry.count > number;
            }
        }
    }

    /** An item of a template. */
    private static final class Piece {
        final int kind;
        final int place;
        final int depth;
        final int outer;
        char sign = ' ';
        int field = 0;
        char style = ' ';
        String single = "";
        String plural = "";
        Condition conditions = null;
        int following = 0;

        Piece(int kind, int place, int depth, int outer) {
            this.kind = kind;
            this.place = place;
            this.depth = depth;
            this.outer = outer;
        }

        /** Whether its own conditions, if it has any, are true. */
        boolean isMetBy(Entry entry) {
            for (Condition each = conditions; each != null; each = each.next) {
                if (!each.isTrueFor(entry)) {
                    return false;
                }
            }
            return true;
        }
    }

    /** A template. It does not change after it has been read, so that the past can share it. */
    private static final class Layout {
        final int length;
        private final Piece[] pieces;
        int size = 0;
        int deepest = 0;
        int fields = 0;
        int brackets = 0;

        /** A template of a text of this length, which is the most items that it can have. */
        Layout(int length) {
            this.length = length;
            pieces = new Piece[Math.max(0, length)];
        }

        void addLast(Piece piece) {
            if (size < pieces.length) {
                pieces[size] = piece;
                size++;
            }
        }

        /** The item with this number, or null if there is none. */
        Piece pieceAt(int number) {
            return number >= 0 && number < size ? pieces[number] : null;
        }
    }

    /** Reads the text of a template from left to right; where it stops, the text is malformed. */
    private static final class TemplateReader {
        final Layout layout;
        int at = 0;
        private final String text;
        private final int[] open = new int[MOST_OPEN];
        private int depth = 0;
        private boolean isWrong = false;

        TemplateReader(String text) {
            this.text = text;
            layout = new Layout(text.length());
        }

        boolean readAll() {
            for (int step = 0; step < text.length() && at < text.length() && !isWrong; step++) {
                int first = sign();
                switch (first) {
                    case '#': addPiece(COUNT); break;
                    case '@': addPiece(ADDRESS); break;
                    case '{': readBraces(); break;
                    case '<': readWords(); break;
                    case '[': openBrackets(); break;
                    case ']': closeBrackets(); break;
                    default: readLiteral(first); break;
                }
            }
            return !isWrong && depth == 0;
        }

        private void readLiteral(int first) {
            if (isLiteral(first)) {
                addPiece(LITERAL).sign = (char) first;
            } else {
                isWrong = true;
            }
        }

        private void readBraces() {
            Piece piece = addPiece(BRACES);
            piece.field = takeField();
            if (!isWrong && (sign() == '^' || sign() == '*')) {
                piece.style = (char) sign();
                at++;
            }
            take('}');
        }

        private void readWords() {
            Piece piece = addPiece(WORDS);
            piece.single = takeLiterals();
            take('|');
            piece.plural = takeLiterals();
            take('>');
        }

        private void openBrackets() {
            if (depth >= open.length) {
                isWrong = true;
                return;
            }
            Piece piece = addPiece(BRACKETS);
            piece.conditions = readCondition(null);
            for (int step = 0; step < text.length() && !isWrong && sign() == '&'; step++) {
                at++;
                piece.conditions = readCondition(piece.conditions);
            }
            take(':');
            open[depth] = layout.size - 1;
            depth++;
            layout.deepest = Math.max(layout.deepest, depth);
            layout.brackets++;
        }

        private void closeBrackets() {
            if (depth <= 0 || depth > open.length) {
                isWrong = true;
                return;
            }
            depth--;
            Piece piece = layout.pieceAt(open[depth]);
            if (piece != null) {
                piece.following = layout.size;
            }
            at++;
        }

        private Condition readCondition(Condition next) {
            boolean isNegated = sign() == '!';
            at += isNegated ? 1 : 0;
            int first = sign();
            if (first == 'g') {
                at++;
                return new Condition(isNegated, Condition.GROUP, takeDigit(GROUPS - 1), next);
            }
            if (first == 'n') {
                at++;
                int relation = takeRelation();
                return new Condition(isNegated, relation, takeNumber(), next);
            }
            return new Condition(isNegated, Condition.FILLED, takeField(), next);
        }

        private int takeRelation() {
            int relation = sign();
            if (relation == Condition.LESS || relation == Condition.EQUAL || relation == Condition.GREATER) {
                at++;
            } else {
                isWrong = true;
            }
            return relation;
        }

        private int takeNumber() {
            int number = takeDigit(9);
            boolean canGoOn = !isWrong && number != 0;
            if (canGoOn && sign() >= '0' && sign() <= '9') {
                number = number * 10 + takeDigit(9);
            }
            return number;
        }

        private int takeField() {
            int field = takeDigit(FIELDS - 1);
            layout.fields |= 1 << field;
            return field;
        }

        /** Every take does nothing where the text is already wrong: "at" stays at the error. */
        private int takeDigit(int greatest) {
            int digit = sign() - '0';
            if (isWrong || digit < 0 || digit > greatest) {
                isWrong = true;
                return 0;
            }
            at++;
            return digit;
        }

        private void take(char expected) {
            if (isWrong || sign() != expected) {
                isWrong = true;
            } else {
                at++;
            }
        }

        private String takeLiterals() {
            int from = at;
            for (int i = at; i < text.length() && !isWrong && isLiteral(text.charAt(i)); i++) {
                at = i + 1;
            }
            return from < at ? text.substring(from, at) : "";
        }

        /** The code of the next character, or one that no text has if there is none. */
        private int sign() {
            return at < text.length() ? text.charAt(at) : 0;
        }

        /** Adds an item of which one character is read. */
        private Piece addPiece(int kind) {
            int outer = depth > 0 && depth <= open.length ? open[depth - 1] : -1;
            Piece piece = new Piece(kind, at, depth, outer);
            layout.addLast(piece);
            at++;
            return piece;
        }

        private static boolean isLiteral(int sign) {
            return sign >= LOWEST_SIGN && sign <= HIGHEST_SIGN && "#@{}<>|[]/".indexOf((char) sign) < 0;
        }
    }

    /** The letter of a record, or why there is none. */
    private static final class Sheet {
        final char[] signs = new char[GREATEST_LIMIT];
        final int[] chain = new int[MOST_OPEN + 1];
        int length = 0;
        int links = 0;
        int reason = 0;
        private int limit = 0;
        private boolean isOverfull = false;

        void leaveBlank(int because) {
            length = 0;
            links = 0;
            reason = because;
            isOverfull = false;
        }

        void write(Setup setup, Entry entry) {
            leaveBlank(GOT_LETTER);
            limit = Math.min(setup.limit, signs.length);
            Layout layout = setup.layout;
            int following = 0;
            for (int i = 0; i < layout.size && reason == GOT_LETTER; i++) {
                Piece piece = layout.pieceAt(i);
                if (i < following || piece == null) {
                    continue;
                }
                if (!piece.isMetBy(entry)) {
                    following = piece.following;
                    continue;
                }
                writePiece(setup, entry, piece);
                if (isOverfull) {
                    reason = TOO_LONG;
                }
                if (reason != GOT_LETTER) {
                    explain(layout, piece);
                }
            }
        }

        private void writePiece(Setup setup, Entry entry, Piece piece) {
            switch (piece.kind) {
                case LITERAL: put(piece.sign); break;
                case COUNT: putNumber(entry.count); break;
                case ADDRESS: putAddress(entry, setup.addressFields(entry)); break;
                case BRACES: putField(entry.textAt(piece.field), piece.style); break;
                case WORDS: putAll(entry.count == 1 ? piece.single : piece.plural); break;
                default: break;
            }
        }

        private void put(char sign) {
            if (length < limit) {
                signs[length] = sign;
                length++;
            } else {
                isOverfull = true;
            }
        }

        private void putAll(String text) {
            for (int i = 0; i < text.length(); i++) {
                put(text.charAt(i));
            }
        }

        private void putNumber(int number) {
            if (number >= 10) {
                put((char) ('0' + number / 10));
            }
            put((char) ('0' + number % 10));
        }

        private void putField(Text text, char style) {
            if (text.isEmpty()) {
                reason = FIELD_MISSING;
            }
            for (int i = 0; i < text.length(); i++) {
                boolean isCapital = style == '*' || style == '^' && i == 0;
                char sign = text.signAt(i);
                put(isCapital ? Text.capital(sign) : sign);
            }
        }

        private void putAddress(Entry entry, int fields) {
            if (fields == 0) {
                reason = FIELD_MISSING;
            }
            boolean isFirst = true;
            for (int i = 0; i < FIELDS; i++) {
                if ((fields >> i & 1) == 0) {
                    continue;
                }
                if (!isFirst) {
                    put('/');
                }
                isFirst = false;
                putAll(entry.textAt(i).signs);
            }
        }

        /** Makes the chain of a failure at an item, from the item outwards. */
        private void explain(Layout layout, Piece failed) {
            Piece piece = failed;
            for (int i = Math.min(failed.depth, MOST_OPEN); i >= 0 && piece != null; i--) {
                chain[i] = piece.place;
                piece = layout.pieceAt(piece.outer);
                links++;
            }
        }
    }

    /** What a run found. Before the first run it has no records, which a run never has. */
    private static final class Outcome {
        final Sheet[] sheets = new Sheet[MOST_RECORDS];
        int size = 0;

        Outcome() {
            for (int i = 0; i < sheets.length; i++) {
                sheets[i] = new Sheet();
            }
        }

        void makeFrom(Setup setup) {
            size = Math.min(setup.size, sheets.length);
            for (int i = 0; i < size; i++) {
                Entry entry = setup.entryAt(i);
                if (entry == null || setup.isExcluded(entry)) {
                    sheets[i].leaveBlank(GROUP_EXCLUDED);
                } else if (setup.keptOf(i, setup.policy, false) != i) {
                    sheets[i].leaveBlank(OTHER_KEPT);
                } else {
                    sheets[i].write(setup, entry);
                }
            }
        }

        int howMany(int reason) {
            int number = 0;
            for (int i = 0; i < size; i++) {
                number += sheets[i].reason == reason ? 1 : 0;
            }
            return number;
        }

        int totalLength() {
            int total = 0;
            for (int i = 0; i < size; i++) {
                total += sheets[i].reason == GOT_LETTER ? sheets[i].length : 0;
            }
            return total;
        }
    }
}
