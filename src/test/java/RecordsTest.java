import java.util.NoSuchElementException;

/** Promises 1 to 11: the buffer and the records. */
public final class RecordsTest {
    private static final Class<IllegalArgumentException> ARGUMENT = IllegalArgumentException.class;
    private static final Class<IllegalStateException> STATE = IllegalStateException.class;
    private static final Class<IndexOutOfBoundsException> INDEX = IndexOutOfBoundsException.class;
    private static final Class<NoSuchElementException> NONE = NoSuchElementException.class;
    private static final int[] WRONG_INDEXES = {-1, Integer.MIN_VALUE, Integer.MAX_VALUE};

    private static final Checks CHECKS = new Checks("RecordsTest");

    public static void main(String[] args) {
        newObject();
        clear();
        clearKeeps();
        append();
        appendWrong();
        addRecord();
        removeRecord();
        moveRecord();
        sort();
        sortByCharacters();
        setField();
        setFieldWrong();
        setNumber();
        field();
        record();
        CHECKS.end();
    }

    private static void newObject() {
        MailMerge m = new MailMerge();
        int[] settings = {0, 0, 0, 0, 100, 0, 0, 0};
        for (int what = 0; what < settings.length; what++) {
            CHECKS.same("setting " + what + " of a new object", settings[what], m.setting(what));
        }
        for (int what = 0; what < 5; what++) {
            CHECKS.same("template " + what + " of a new object", 0, m.template(what));
        }
        CHECKS.fails("undo of a new object", STATE, m::undo);
        CHECKS.fails("restore of a new object", STATE, m::restore);
        CHECKS.fails("run of a new object", STATE, m::run);
        CHECKS.fails("reason of a new object", STATE, () -> m.reason(0));
        CHECKS.fails("reasons of a new object", STATE, () -> m.reasons(0));
        CHECKS.fails("errorPosition of a new object", NONE, m::errorPosition);
        CHECKS.fails("item of a new object", NONE, () -> m.item(0, 0));
        CHECKS.fails("record of a new object", INDEX, () -> m.record(0, 0));
        CHECKS.same("isOrderFree of a new object", true, m.isOrderFree());
        new MailMerge().addRecord(1, 1);
        CHECKS.same("objects are apart", 0, m.setting(0));
    }

    private static MailMerge changedInAllWays() {
        MailMerge m = new MailMerge();
        Desk.add(m, 3, 7, "ann", "", "", "", "Peru");
        Desk.add(m, 4, 8, "bob");
        Desk.template(m, "a[0:{0}]");
        Desk.home(m, "peru");
        m.setKeys(5);
        m.setPolicy(2);
        m.exclude(4, true);
        m.setLimit(50);
        return m;
    }

    private static void clear() {
        MailMerge m = changedInAllWays();
        CHECKS.same("clear", 2, m.clear());
        CHECKS.same("state after clear", Desk.state(new MailMerge()), Desk.state(m));
        CHECKS.same("nothing to undo after clear", 0, m.setting(6));
        CHECKS.fails("undo after clear", STATE, m::undo);
        CHECKS.fails("no records after clear", INDEX, () -> m.removeRecord(0));
        CHECKS.same("clear again", 0, m.clear());
        CHECKS.same("numbers start anew", 0, m.addRecord(0, 0));
        CHECKS.same("fields are empty again", 0, m.record(0, 2));
        CHECKS.same("only the changes since", 0, m.undo());
        CHECKS.fails("the changes before are gone", STATE, m::undo);
    }

    private static void clearKeeps() {
        MailMerge m = changedInAllWays();
        m.run();
        m.snapshot();
        CHECKS.fails("malformed", ARGUMENT, () -> Desk.template(m, "ab]"));
        Desk.type(m, "rest");
        m.clear();
        CHECKS.same("the buffer stays", 4, m.setting(5));
        CHECKS.same("the error position stays", 2, m.errorPosition());
        CHECKS.same("the latest run stays", "01", Desk.reasons(m, 2));
        CHECKS.same("its letters stay", "aann", Desk.letterText(m, 0));
        CHECKS.same("the snapshot stays", 2, m.restore());
        CHECKS.same("its state", Desk.state(changedInAllWays()), Desk.state(m));
    }

    private static void append() {
        MailMerge m = new MailMerge();
        m.addRecord(0, 0);
        CHECKS.same("nothing appended", 0, m.append(0));
        CHECKS.same("four", 4, m.append(0x61626364));
        CHECKS.same("zeros are skipped", 6, m.append(0x65000066));
        CHECKS.same("the middle ones", 8, m.append(0x00676800));
        CHECKS.same("nothing more", 8, m.append(0));
        CHECKS.same("the lowest and the highest", 10, m.append(0x207e));
        m.setField(0, 1);
        CHECKS.same("from the most significant byte on", "abcdefgh ~", Desk.fieldText(m, 0, 1));
        Desk.type(m, "x".repeat(119));
        CHECKS.fails("121 characters", STATE, () -> m.append(0x6161));
        CHECKS.same("none of them appended", 119, m.setting(5));
        CHECKS.same("120 characters", 120, m.append(0x61000000));
        CHECKS.same("nothing when full", 120, m.append(0));
        CHECKS.fails("one more when full", STATE, () -> m.append(0x61));
        CHECKS.fails("the argument is checked first", ARGUMENT, () -> m.append(0x1f));
        CHECKS.same("still full", 120, m.setting(5));
    }

    private static void appendWrong() {
        MailMerge m = new MailMerge();
        int[] wrong = {1, 31, 127, 128, 0xff, 0x1f000000, 0x7f000000, 0x80000000, 0xff000000, 0x61616110,
            0x6161807e, 0x617f6161, -1, Integer.MIN_VALUE, Integer.MAX_VALUE, 10};
        for (int each : wrong) {
            CHECKS.fails("append " + each, ARGUMENT, () -> m.append(each));
        }
        CHECKS.same("nothing appended", 0, m.setting(5));
        CHECKS.same("appending is no change", 0, m.setting(6));
    }

    private static void addRecord() {
        MailMerge m = new MailMerge();
        for (int i = 0; i < 20; i++) {
            CHECKS.same("number", i, m.addRecord(i % 10, 99 - i));
        }
        CHECKS.same("all there", 20, m.setting(0));
        CHECKS.same("group", 9, m.record(19, 0));
        CHECKS.same("count", 80, m.record(19, 1));
        CHECKS.same("fields are empty", 0, m.record(19, 2));
        CHECKS.same("its name is empty", 0, m.field(19, 0, -1));
        CHECKS.fails("a 21st", STATE, () -> m.addRecord(0, 0));
        CHECKS.fails("the group is checked first", ARGUMENT, () -> m.addRecord(10, 0));
        CHECKS.fails("the count is checked first", ARGUMENT, () -> m.addRecord(0, 100));
        m.clear();
        for (int wrong : new int[] {-1, 10, Integer.MIN_VALUE, Integer.MAX_VALUE}) {
            CHECKS.fails("group " + wrong, ARGUMENT, () -> m.addRecord(wrong, 0));
        }
        for (int wrong : new int[] {-1, 100, Integer.MIN_VALUE, Integer.MAX_VALUE}) {
            CHECKS.fails("count " + wrong, ARGUMENT, () -> m.addRecord(0, wrong));
        }
        CHECKS.same("none added", 0, m.setting(0));
        CHECKS.same("no change", 0, m.setting(6));
        CHECKS.same("the least", 0, m.addRecord(0, 0));
        CHECKS.same("the greatest", 1, m.addRecord(9, 99));
    }

    private static MailMerge named(String... names) {
        MailMerge m = new MailMerge();
        for (String each : names) {
            Desk.add(m, 0, 0, each);
        }
        return m;
    }

    private static void removeRecord() {
        MailMerge m = named("a", "b", "c", "d");
        CHECKS.same("remain", 3, m.removeRecord(1));
        CHECKS.same("later ones move up", "a c d", Desk.names(m));
        CHECKS.fails("the last number is gone", INDEX, () -> m.removeRecord(3));
        CHECKS.same("the last", 2, m.removeRecord(2));
        CHECKS.same("the first", 1, m.removeRecord(0));
        CHECKS.same("left", "c", Desk.names(m));
        for (int wrong : WRONG_INDEXES) {
            CHECKS.fails("remove " + wrong, INDEX, () -> m.removeRecord(wrong));
        }
        CHECKS.same("none", 0, m.removeRecord(0));
        CHECKS.fails("none left", INDEX, () -> m.removeRecord(0));
        MailMerge full = new MailMerge();
        for (int i = 0; i < 20; i++) {
            full.addRecord(0, i);
        }
        CHECKS.same("19 remain", 19, full.removeRecord(0));
        CHECKS.same("room again", 19, full.addRecord(0, 77));
        CHECKS.same("moved by one", 1, full.record(0, 1));
    }

    private static void moveRecord() {
        MailMerge m = named("a", "b", "c", "d", "e");
        CHECKS.same("forward", 3, m.moveRecord(1, 3));
        CHECKS.same("order after forward", "a c d b e", Desk.names(m));
        CHECKS.same("back", 5, m.moveRecord(4, 0));
        CHECKS.same("order after back", "e a c d b", Desk.names(m));
        CHECKS.same("neighbours", 2, m.moveRecord(2, 1));
        CHECKS.same("order of neighbours", "e c a d b", Desk.names(m));
        int changes = m.setting(6);
        CHECKS.same("to itself", 0, m.moveRecord(2, 2));
        CHECKS.same("the same order", "e c a d b", Desk.names(m));
        CHECKS.same("still a change", Math.min(8, changes + 1), m.setting(6));
        for (int wrong : new int[] {-1, 5, Integer.MIN_VALUE, Integer.MAX_VALUE}) {
            CHECKS.fails("move " + wrong, INDEX, () -> m.moveRecord(wrong, 0));
            CHECKS.fails("move to " + wrong, INDEX, () -> m.moveRecord(0, wrong));
        }
        CHECKS.same("unchanged by failures", "e c a d b", Desk.names(m));
    }

    private static void sort() {
        MailMerge m = named("bob", "", "Ann", "bo", "ann", "", "BOB", "cy");
        for (int i = 0; i < 8; i++) {
            m.setNumber(i, true, i);
        }
        CHECKS.same("changed", 8, m.sort(0, false));
        CHECKS.same("ascending", "Ann ann bo bob BOB cy  ", Desk.names(m));
        CHECKS.same("the empty ones in their order", "1 5", m.record(6, 1) + " " + m.record(7, 1));
        CHECKS.same("sorted already", 0, m.sort(0, false));
        CHECKS.same("descending", 6, m.sort(0, true));
        CHECKS.same("same texts stay in order, empty ones last", "cy bob BOB bo Ann ann  ", Desk.names(m));
        CHECKS.same("the empty ones stay", "1 5", m.record(6, 1) + " " + m.record(7, 1));
        int changes = m.setting(6);
        CHECKS.same("by a field that all have empty", 0, m.sort(4, true));
        CHECKS.same("a change all the same", Math.min(8, changes + 1), m.setting(6));
        for (int wrong : new int[] {-1, 5, Integer.MIN_VALUE, Integer.MAX_VALUE}) {
            CHECKS.fails("sort by " + wrong, INDEX, () -> m.sort(wrong, false));
        }
        MailMerge none = new MailMerge();
        CHECKS.same("no records", 0, none.sort(0, false));
        CHECKS.same("counts as a change", 1, none.setting(6));
        MailMerge two = new MailMerge();
        Desk.add(two, 0, 1, "x", "b");
        Desk.add(two, 0, 2, "y", "a");
        Desk.add(two, 0, 3, "z", "c");
        CHECKS.same("by the company", 2, two.sort(1, false));
        CHECKS.same("whole records move", "y x z", Desk.names(two));
        CHECKS.same("with their counts", 2, two.record(0, 1));
    }

    private static void sortByCharacters() {
        MailMerge m = named("a_", "a{", "aB", "a@", "a`", "az", "a[");
        m.sort(0, false);
        CHECKS.same("small letters compare as capitals", "a@ aB az a[ a_ a` a{", Desk.names(m));
        m.sort(0, true);
        CHECKS.same("and descending", "a{ a` a_ a[ az aB a@", Desk.names(m));
    }

    private static void setField() {
        MailMerge m = new MailMerge();
        m.addRecord(1, 1);
        m.addRecord(2, 2);
        CHECKS.same("had none", 0, Desk.field(m, 0, 0, "Ann"));
        CHECKS.same("the buffer is empty", 0, m.setting(5));
        CHECKS.same("had three", 3, Desk.field(m, 0, 0, "abcdefghijkl"));
        CHECKS.same("twelve", "abcdefghijkl", Desk.fieldText(m, 0, 0));
        CHECKS.same("had twelve", 12, Desk.field(m, 0, 0, ""));
        CHECKS.same("empty again", 0, m.field(0, 0, -1));
        Desk.field(m, 1, 4, " ~!#@{}<>|[]");
        CHECKS.same("any character", " ~!#@{}<>|[]", Desk.fieldText(m, 1, 4));
        CHECKS.same("the others stay empty", 16, m.record(1, 2));
        CHECKS.same("the other record too", 0, m.record(0, 2));
        CHECKS.same("group stays", 2, m.record(1, 0));
        CHECKS.same("count stays", 2, m.record(1, 1));
    }

    private static void setFieldWrong() {
        MailMerge m = new MailMerge();
        Desk.add(m, 0, 0, "Ann");
        int changes = m.setting(6);
        Desk.type(m, "a/b");
        for (int wrong : new int[] {-1, 1, Integer.MIN_VALUE, Integer.MAX_VALUE}) {
            CHECKS.fails("record " + wrong, INDEX, () -> m.setField(wrong, 0));
        }
        for (int wrong : new int[] {-1, 5, Integer.MIN_VALUE, Integer.MAX_VALUE}) {
            CHECKS.fails("field " + wrong, INDEX, () -> m.setField(0, wrong));
        }
        CHECKS.same("the buffer stays then", 3, m.setting(5));
        CHECKS.fails("no error position then", NONE, m::errorPosition);
        CHECKS.fails("a slash", ARGUMENT, () -> m.setField(0, 0));
        CHECKS.same("the buffer is empty then", 0, m.setting(5));
        CHECKS.same("its place", 1, m.errorPosition());
        CHECKS.fails("13 characters", ARGUMENT, () -> Desk.field(m, 0, 0, "abcdefghijklm"));
        CHECKS.same("the 13th", 12, m.errorPosition());
        CHECKS.fails("a slash before it", ARGUMENT, () -> Desk.field(m, 0, 0, "abcdefghijk/m"));
        CHECKS.same("the slash", 11, m.errorPosition());
        CHECKS.fails("a slash behind it", ARGUMENT, () -> Desk.field(m, 0, 0, "abcdefghijklmn/"));
        CHECKS.same("the 13th again", 12, m.errorPosition());
        CHECKS.fails("120 characters", ARGUMENT, () -> Desk.field(m, 0, 0, "a".repeat(120)));
        CHECKS.fails("a slash at first", ARGUMENT, () -> Desk.field(m, 0, 0, "/"));
        CHECKS.same("the first", 0, m.errorPosition());
        CHECKS.same("the field stays", "Ann", Desk.fieldText(m, 0, 0));
        CHECKS.same("no change", changes, m.setting(6));
    }

    private static void setNumber() {
        MailMerge m = new MailMerge();
        Desk.add(m, 3, 7, "Ann");
        CHECKS.same("the previous group", 3, m.setNumber(0, false, 9));
        CHECKS.same("the previous count", 7, m.setNumber(0, true, 99));
        CHECKS.same("group", 9, m.record(0, 0));
        CHECKS.same("count", 99, m.record(0, 1));
        CHECKS.same("the least group", 9, m.setNumber(0, false, 0));
        CHECKS.same("the least count", 99, m.setNumber(0, true, 0));
        CHECKS.same("the field stays", "Ann", Desk.fieldText(m, 0, 0));
        for (int wrong : new int[] {-1, 10, Integer.MIN_VALUE, Integer.MAX_VALUE}) {
            CHECKS.fails("group " + wrong, ARGUMENT, () -> m.setNumber(0, false, wrong));
        }
        for (int wrong : new int[] {-1, 100, Integer.MIN_VALUE, Integer.MAX_VALUE}) {
            CHECKS.fails("count " + wrong, ARGUMENT, () -> m.setNumber(0, true, wrong));
        }
        for (int wrong : new int[] {-1, 1, Integer.MIN_VALUE, Integer.MAX_VALUE}) {
            CHECKS.fails("the record is checked first", INDEX, () -> m.setNumber(wrong, true, 100));
        }
        CHECKS.same("unchanged", "0 0", m.record(0, 0) + " " + m.record(0, 1));
        int changes = m.setting(6);
        m.setNumber(0, true, 0);
        CHECKS.same("the same number is a change", changes + 1, m.setting(6));
    }

    private static void field() {
        MailMerge m = new MailMerge();
        Desk.add(m, 0, 0, "Ann", "", "", "Rome");
        CHECKS.same("length", 3, m.field(0, 0, -1));
        CHECKS.same("first", (int) 'A', m.field(0, 0, 0));
        CHECKS.same("last", (int) 'n', m.field(0, 0, 2));
        CHECKS.same("town", (int) 'R', m.field(0, 3, 0));
        CHECKS.same("an empty one", 0, m.field(0, 4, -1));
        for (int wrong : new int[] {-2, 3, Integer.MIN_VALUE, Integer.MAX_VALUE}) {
            CHECKS.fails("index " + wrong, NONE, () -> m.field(0, 0, wrong));
        }
        CHECKS.fails("none in an empty one", NONE, () -> m.field(0, 1, 0));
        for (int wrong : new int[] {-1, 1, Integer.MIN_VALUE, Integer.MAX_VALUE}) {
            CHECKS.fails("record " + wrong, INDEX, () -> m.field(wrong, 0, 9));
        }
        for (int wrong : new int[] {-1, 5, Integer.MIN_VALUE, Integer.MAX_VALUE}) {
            CHECKS.fails("field " + wrong, INDEX, () -> m.field(0, wrong, 9));
        }
    }

    private static void record() {
        MailMerge m = new MailMerge();
        Desk.add(m, 6, 42, "Ann", "", "Way 1", "", "Peru");
        int[] numbers = {6, 42, 21, 3};
        for (int what = 0; what < numbers.length; what++) {
            CHECKS.same("what " + what, numbers[what], m.record(0, what));
        }
        Desk.home(m, "pERU");
        CHECKS.same("without the home country", 2, m.record(0, 3));
        CHECKS.same("its field is not empty", 21, m.record(0, 2));
        Desk.home(m, "Per");
        CHECKS.same("a beginning is no home country", 3, m.record(0, 3));
        Desk.home(m, "Perux");
        CHECKS.same("nor is a longer one", 3, m.record(0, 3));
        Desk.home(m, "Ann");
        CHECKS.same("only the country is left out", 3, m.record(0, 3));
        m.addRecord(0, 0);
        Desk.home(m, "");
        CHECKS.same("no lines", 0, m.record(1, 3));
        for (int wrong : new int[] {-1, 4, Integer.MIN_VALUE, Integer.MAX_VALUE}) {
            CHECKS.fails("what " + wrong, ARGUMENT, () -> m.record(0, wrong));
        }
        for (int wrong : new int[] {-1, 2, Integer.MIN_VALUE, Integer.MAX_VALUE}) {
            CHECKS.fails("record " + wrong, INDEX, () -> m.record(wrong, 9));
        }
    }
}
