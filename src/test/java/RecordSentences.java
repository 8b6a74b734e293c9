import java.util.ArrayList;
import java.util.List;
import java.util.Locale;
import java.util.Set;
import java.util.function.IntConsumer;

/** The sentences of the promises 1 to 11: a new object, clear, the buffer, the records. */
final class RecordSentences {
    private RecordSentences() {
    }

    static void addTo(Sentences s) {
        newObject(s);
        clear(s);
        append(s);
        appendWrong(s);
        addRecord(s);
        removeRecord(s);
        moveRecord(s);
        sort(s);
        sortedNumbers(s);
        setField(s);
        setFieldWrong(s);
        setNumber(s);
        field(s);
        record(s);
    }

    private static void newObject(Sentences s) {
        s.test("Promise 1", "Creates a merger without records.", t -> {
            MailMerge m = new MailMerge();
            t.due("records", 0, m.setting(0));
            t.fails("record 0", Worlds.INDEX, () -> m.record(0, 0));
            t.fails("a run", Worlds.STATE, m::run);
            t.due("its first record", 0, m.addRecord(1, 1));
            t.due("another merger has none", 0, new MailMerge().setting(0));
            t.leavesAll("another merger is changed", MailMerge::new, same -> new MailMerge().addRecord(1, 1));
        });
    }

    private static void clear(Sentences s) {
        Set<String> stay = Set.of("buffer", "error", "latest run", "snapshot");
        s.test("Promise 2", "Makes everything as in a new object,", t -> {
            MailMerge m = Worlds.busy();
            m.clear();
            t.due("what differs from a new object", stay, Sight.names(Sight.of(new MailMerge()), Sight.of(m)));
            MailMerge once = new MailMerge();
            once.clear();
            t.due("clear of a new object", "", Sight.difference(Sight.of(new MailMerge()), Sight.of(once)));
            m = Worlds.busyWith("");
            m.clear();
            t.due("the first number is 0 again", 0, m.addRecord(2, 3));
            t.due("its letter is empty", 0, m.preview(0));
        });
        s.test("Promise 2", "except the input buffer, the error position, what the latest run found, and the snapshot.", t -> {
            MailMerge m = Worlds.busy();
            m.clear();
            Set<String> differ = Sight.names(Sight.of(Worlds.busy()), Sight.of(m));
            for (String each : stay) {
                t.due(each + " is different", false, differ.contains(each));
            }
            m = Worlds.busy();
            m.clear();
            m.addRecord(0, 0);
            m.setField(0, 0);
            t.due("the text in the buffer", "rest", Desk.fieldText(m, 0, 0));
        });
        s.test("Promise 2", "Returns the number of records that there were.", t -> {
            for (int records : new int[] {0, 1, 19, 20}) {
                MailMerge m = Worlds.crowd(records);
                t.due("of " + records, records, m.clear());
                t.due("of none", 0, m.clear());
            }
        });
    }

    private static void append(Sentences s) {
        s.test("Promise 3", "Appends up to four characters to the input buffer: the bytes of an int from the most "
                + "significant one to the least significant one, where bytes that are 0 are skipped.", t -> {
            for (int mask = 0; mask < 16; mask++) {
                MailMerge m = Worlds.one(0, 0);
                Desk.type(m, "<");
                int packed = 0;
                String due = "<";
                for (int i = 0; i < 4; i++) {
                    boolean isThere = (mask & 8 >> i) != 0;
                    packed = packed << 8 | (isThere ? 'a' + i : 0);
                    due += isThere ? (char) ('a' + i) : "";
                }
                t.due("length with " + packed, due.length(), m.append(packed));
                m.setField(0, 0);
                t.due("text with " + packed, due, Desk.fieldText(m, 0, 0));
            }
        });
        s.test("Promise 3", "Returns the number of characters in the buffer.", t -> {
            MailMerge m = new MailMerge();
            t.due("none", 0, m.append(0));
            for (int i = 1; i <= 30; i++) {
                t.due("after " + i, 4 * i, m.append(0x20207e7e));
                t.due("with none more", 4 * i, m.append(0));
            }
        });
    }

    private static void appendWrong(Sentences s) {
        s.test("Promise 3", "Throws `IllegalArgumentException` if a byte that is not 0 is not from 32 to 126", t -> {
            for (int shift = 0; shift < 32; shift += 8) {
                for (int sign : new int[] {32, 126}) {
                    t.due("code " + sign + " at " + shift, 1, new MailMerge().append(sign << shift));
                }
                for (int sign : new int[] {1, 31, 127, 128, 255}) {
                    int others = 0x61616161 & ~(255 << shift);
                    int at = shift;
                    t.refused("code " + sign + " at " + shift, Worlds.ARGUMENT, Worlds::busy,
                            m -> m.append(sign << at));
                    t.refused("code " + sign + " at " + shift + " with others", Worlds.ARGUMENT, Worlds::busy,
                            m -> m.append(others | sign << at));
                }
            }
            t.refusedFor("append", Worlds.ARGUMENT, Worlds::busy, MailMerge::append, -1, Integer.MIN_VALUE,
                    Integer.MAX_VALUE);
        });
        s.test("Promise 3", "Throws `IllegalStateException` if there would be more than 120 characters", t -> {
            int[] packed = {0, 0x61000000, 0x610061, 0x61006161, 0x61616161};
            for (int there = 116; there <= 120; there++) {
                for (int more = 0; more <= 4; more++) {
                    int before = there;
                    int one = packed[more];
                    if (there + more <= 120) {
                        t.due(there + " and " + more, there + more, Worlds.typed(there).append(one));
                    } else {
                        t.refused(there + " and " + more, Worlds.STATE, () -> Worlds.typed(before), m -> m.append(one));
                    }
                }
            }
        });
    }

    private static void addRecord(Sentences s) {
        s.test("Promise 4", "Adds a record with empty fields.", t -> {
            MailMerge m = Worlds.one(9, 99, "ann", "b", "c", "d", "e");
            m.addRecord(0, 5);
            t.due("fields that are not empty", 0, m.record(1, 2));
            t.due("group", 0, m.record(1, 0));
            t.due("count", 5, m.record(1, 1));
            t.due("the one before it", "31 9 99", m.record(0, 2) + " " + m.record(0, 0) + " " + m.record(0, 1));
            m.clear();
            m.addRecord(1, 1);
            t.due("where another one was, too", 0, m.record(0, 2));
        });
        s.test("Promise 4", "Returns the number of the record.", t -> {
            MailMerge m = new MailMerge();
            for (int i = 0; i < 20; i++) {
                t.due("number", i, m.addRecord(0, 0));
            }
            m.removeRecord(0);
            t.due("after a removal", 19, m.addRecord(0, 0));
            m.undo();
            t.due("after undo", 19, m.addRecord(0, 0));
        });
        s.test("Promise 4", "Throws `IllegalArgumentException` if the group or the count is out of range", t -> {
            t.due("the least", 0, new MailMerge().addRecord(0, 0));
            t.due("the greatest", 0, new MailMerge().addRecord(9, 99));
            t.refusedFor("group", Worlds.ARGUMENT, Worlds::busy, (m, each) -> m.addRecord(each, 0), Worlds.beside(0, 9));
            t.refusedFor("count", Worlds.ARGUMENT, Worlds::busy, (m, each) -> m.addRecord(0, each), Worlds.beside(0, 99));
            t.refused("both", Worlds.ARGUMENT, Worlds::busy, m -> m.addRecord(10, 100));
        });
        s.test("Promise 4", "Throws `IllegalStateException` if there are 20 records", t -> {
            t.due("the 20th", 19, Worlds.crowd(19).addRecord(0, 0));
            t.refused("the 21st", Worlds.STATE, () -> Worlds.crowd(20), m -> m.addRecord(9, 99));
            MailMerge m = Worlds.crowd(20);
            m.removeRecord(19);
            t.due("there is room again", 19, m.addRecord(0, 0));
            m.clear();
            t.due("and after clear", 0, m.addRecord(0, 0));
        });
    }

    private static void removeRecord(Sentences s) {
        s.test("Promise 5", "Removes a record.", t -> {
            for (int size = 1; size <= 5; size++) {
                for (int record = 0; record < size; record++) {
                    MailMerge m = Worlds.crowd(size);
                    List<Integer> due = numbers(size);
                    m.removeRecord(record);
                    due.remove(record);
                    t.due("without " + record + " of " + size, joined(due), Worlds.counts(m));
                }
            }
        });
        s.test("Promise 5", "Returns the number of records that remain.", t -> {
            MailMerge m = Worlds.crowd(20);
            for (int left = 19; left >= 0; left--) {
                t.due("remain", left, m.removeRecord(left / 2));
                t.due("records", left, m.setting(0));
            }
        });
        s.test("Promise 5", "Throws `IndexOutOfBoundsException` if there is no such record", t -> {
            t.due("the first", 19, Worlds.crowd(20).removeRecord(0));
            t.due("the last", 19, Worlds.crowd(20).removeRecord(19));
            noSuchRecord(t, MailMerge::removeRecord);
        });
    }

    /** A call with the number of a record is refused for numbers next to those that there are, and by an empty merger. */
    static void noSuchRecord(Trial t, Trial.CallWith call) {
        t.refusedFor("of three, record", Worlds.INDEX, Worlds::busy, call, Worlds.beside(0, 2));
        t.refusedFor("of 20, record", Worlds.INDEX, () -> Worlds.crowd(20), call, Worlds.beside(0, 19));
        t.refusedFor("of none, record", Worlds.INDEX, MailMerge::new, call, 0, -1);
    }

    private static void moveRecord(Sentences s) {
        s.test("Promise 6", "Moves a record to another place; the records between its old and its new place move by one.",
                t -> eachMove((from, to, m, due) -> {
                    m.moveRecord(from, to);
                    t.due("from " + from + " to " + to, joined(due), Worlds.counts(m));
                }));
        s.test("Promise 6", "- `to`: the number that it gets", t -> eachMove((from, to, m, due) -> {
            m.moveRecord(from, to);
            t.due("from " + from + " to " + to, from, m.record(to, 1));
        }));
        s.test("Promise 6", "Returns the number of records whose numbers change.", t -> {
            eachMove((from, to, m, due) -> {
                int changed = 0;
                for (int i = 0; i < due.size(); i++) {
                    changed += due.get(i) == i ? 0 : 1;
                }
                t.due("from " + from + " to " + to, changed, m.moveRecord(from, to));
            });
            t.due("all", 20, Worlds.crowd(20).moveRecord(0, 19));
            t.due("all the other way round", 20, Worlds.crowd(20).moveRecord(19, 0));
            t.due("none", 0, Worlds.crowd(20).moveRecord(19, 19));
            t.due("none of one", 0, Worlds.crowd(1).moveRecord(0, 0));
        });
        s.test("Promise 6", "Throws `IndexOutOfBoundsException` if there is no such record, or no record with the number that "
                + "it would get", t -> {
            noSuchRecord(t, (m, each) -> m.moveRecord(each, 0));
            noSuchRecord(t, (m, each) -> m.moveRecord(0, each));
            noSuchRecord(t, (m, each) -> m.moveRecord(each, each));
        });
    }

    /** A move, the merger before it, and the counts that are due after it. */
    private interface Move {
        void look(int from, int to, MailMerge merger, List<Integer> due);
    }

    private static void eachMove(Move move) {
        for (int size = 1; size <= 5; size++) {
            for (int from = 0; from < size; from++) {
                for (int to = 0; to < size; to++) {
                    List<Integer> due = numbers(size);
                    due.add(to, due.remove(from));
                    move.look(from, to, Worlds.crowd(size), due);
                }
            }
        }
    }

    private static List<Integer> numbers(int below) {
        List<Integer> numbers = new ArrayList<>();
        for (int i = 0; i < below; i++) {
            numbers.add(i);
        }
        return numbers;
    }

    private static String joined(List<Integer> numbers) {
        return numbers.toString().replaceAll("[\\[\\],]", "");
    }

    private static MailMerge named(String... names) {
        MailMerge m = new MailMerge();
        for (int i = 0; i < names.length; i++) {
            Desk.add(m, 0, i, names[i]);
        }
        return m;
    }

    private static void sort(Sentences s) {
        s.test("Promise 7", "Orders the records by a field, where small letters and their capitals count as the same: a text "
                + "is less than another one if it is a proper beginning of it, or if at the first index at which they "
                + "differ its character, as a capital if it is a small letter, has the lower code.", t -> {
            String[][] ordered = {{"a", "ab"}, {"A", "ab"}, {"a", "AB"}, {" ", "  "}, {"abcdefghijk", "abcdefghijkl"},
                {"abcdefghijkl", "abcdefghijkm"}, {"ABCDEFGHIJKL", "abcdefghijkm"}, {"azz", "b"}, {"aZ", "b"},
                {"Z", "["}, {"z", "["}, {"z", "_"}, {"z", "`"}, {"@", "a"}, {"a", "{"}, {"`", "{"}, {" ", "!"}, {"}", "~"},
                {"0", "a"}, {"a@", "aa"}, {"ab", "b"}, {"9", "A"}};
            for (String[] each : ordered) {
                for (boolean isSorted : new boolean[] {true, false}) {
                    MailMerge m = isSorted ? named(each[0], each[1]) : named(each[1], each[0]);
                    m.sort(0, false);
                    t.due("ascending", each[0] + "," + each[1], Desk.fieldText(m, 0, 0) + "," + Desk.fieldText(m, 1, 0));
                    m.sort(0, true);
                    t.due("descending", each[1] + "," + each[0], Desk.fieldText(m, 0, 0) + "," + Desk.fieldText(m, 1, 0));
                }
            }
            eachPairOfSigns(t);
            for (int field = 0; field < 5; field++) {
                MailMerge m = Worlds.crowd(2);
                Desk.field(m, 0, field, "b");
                Desk.field(m, 1, field, "a");
                t.due("by field " + field, 2, m.sort(field, false));
                t.due("whole records move", "1 0", Worlds.counts(m));
                t.due("by another field", 0, m.sort((field + 1) % 5, false));
            }
        });
        s.test("Promise 7", "- `isDescending`: whether greater texts come first", t -> {
            MailMerge m = named("b", "c", "a");
            m.sort(0, true);
            t.due("descending", "1 0 2", Worlds.counts(m));
            m.sort(0, false);
            t.due("ascending", "2 0 1", Worlds.counts(m));
        });
        s.test("Promise 7", "Records with the same text stay in their order, and those with an empty field come last in both "
                + "directions.", t -> {
            for (boolean isDescending : new boolean[] {false, true}) {
                MailMerge m = named("", "ann", "", "Ann", "ANN", "", "aNN");
                m.sort(0, isDescending);
                t.due("of the same text", "1 3 4 6 0 2 5", Worlds.counts(m));
                m.sort(0, isDescending);
                t.due("once more", "1 3 4 6 0 2 5", Worlds.counts(m));
                m = named("", " ", "~", "", " ");
                m.sort(0, isDescending);
                t.due("with others", isDescending ? "2 1 4 0 3" : "1 4 2 0 3", Worlds.counts(m));
                m = Worlds.crowd(20);
                m.sort(3, isDescending);
                t.due("all are empty", "0 1 2 3 4 5 6 7 8 9 10 11 12 13 14 15 16 17 18 19", Worlds.counts(m));
            }
        });
    }

    /** Each two different signs, as the names of two records, in the order of their codes as capitals. */
    private static void eachPairOfSigns(Trial t) {
        for (char one = 32; one <= 126; one++) {
            for (char other = (char) (one + 1); other <= 126; other++) {
                if (one != '/' && other != '/') {
                    MailMerge m = named("" + one, "" + other);
                    m.sort(0, false);
                    int difference = ("" + one).toUpperCase(Locale.ROOT).compareTo(("" + other).toUpperCase(Locale.ROOT));
                    t.due(one + " and " + other, difference <= 0 ? "0 1" : "1 0", Worlds.counts(m));
                }
            }
        }
    }

    private static void sortedNumbers(Sentences s) {
        s.test("Promise 7", "Returns the number of records whose numbers change.", t -> {
            t.due("no records", 0, new MailMerge().sort(0, false));
            t.due("one", 0, named("a").sort(0, true));
            t.due("sorted", 0, named("a", "b", "c").sort(0, false));
            t.due("two of three", 2, named("a", "c", "b").sort(0, false));
            t.due("the middle one stays", 2, named("c", "b", "a").sort(0, false));
            t.due("all of three", 3, named("b", "c", "a").sort(0, false));
            t.due("same texts", 0, named("a", "A", "a").sort(0, true));
            t.due("an empty one moves behind", 2, named("", "a").sort(0, false));
            MailMerge m = Worlds.crowd(20);
            for (int i = 0; i < 20; i++) {
                Desk.field(m, i, 0, "" + (char) ('t' - i));
            }
            t.due("all of 20", 20, m.sort(0, false));
            t.due("their order", "19 18 17 16 15 14 13 12 11 10 9 8 7 6 5 4 3 2 1 0", Worlds.counts(m));
            t.due("none of 20", 0, m.sort(0, false));
        });
        s.test("Promise 7", "Throws `IndexOutOfBoundsException` if there is no such field", t -> {
            t.due("the first", 0, new MailMerge().sort(0, false));
            t.due("the last", 0, new MailMerge().sort(4, false));
            t.refusedFor("of some records, field", Worlds.INDEX, Worlds::busy, (m, each) -> m.sort(each, false),
                    Worlds.beside(0, 4));
            t.refusedFor("of none, field", Worlds.INDEX, MailMerge::new, (m, each) -> m.sort(each, true),
                    Worlds.beside(0, 4));
        });
    }

    private static void setField(Sentences s) {
        s.test("Promise 8", "Makes the text in the input buffer a field of a record.", t -> {
            for (int record = 0; record < 3; record++) {
                for (int field = 0; field < 5; field++) {
                    MailMerge m = Worlds.crowd(3);
                    Desk.field(m, record, field, "Text " + field);
                    t.due("its text", "Text " + field, Desk.fieldText(m, record, field));
                    for (int i = 0; i < 3; i++) {
                        t.due("fields of " + i + " that are not empty", i == record ? 1 << field : 0, m.record(i, 2));
                    }
                }
            }
            MailMerge m = Worlds.one(0, 0, "before");
            m.setField(0, 0);
            t.due("an empty text", 0, m.field(0, 0, -1));
            Desk.field(m, 0, 0, "abcdefghijkl");
            t.due("12 characters", "abcdefghijkl", Desk.fieldText(m, 0, 0));
        });
        s.test("Promise 8", "The buffer is empty afterwards, except if there is no such record or field.", t -> {
            MailMerge m = Worlds.one(0, 0);
            Desk.field(m, 0, 0, "ann");
            t.due("after it succeeded", 0, m.setting(5));
            t.due("the next text is empty", 3, m.setField(0, 0));
            Desk.type(m, "ab/");
            t.fails("a slash", Worlds.ARGUMENT, () -> m.setField(0, 0));
            t.due("after a slash", 0, m.setting(5));
            Desk.type(m, "abcdefghijklm");
            t.fails("13 characters", Worlds.ARGUMENT, () -> m.setField(0, 0));
            t.due("after 13 characters", 0, m.setting(5));
            Desk.type(m, "rest");
            t.fails("no such record", Worlds.INDEX, () -> m.setField(1, 0));
            t.due("after no such record", 4, m.setting(5));
            t.fails("no such field", Worlds.INDEX, () -> m.setField(0, 5));
            t.due("after no such field", 4, m.setting(5));
            m.setField(0, 0);
            t.due("its text is still there", "rest", Desk.fieldText(m, 0, 0));
        });
        s.test("Promise 8", "Returns the number of characters that the field had.", t -> {
            MailMerge m = Worlds.one(0, 0);
            int before = 0;
            for (int length : new int[] {0, 1, 12, 0, 12, 12, 5}) {
                t.due("before " + length, before, Desk.field(m, 0, 4, "abcdefghijkl".substring(0, length)));
                before = length;
            }
        });
    }

    private static void setFieldWrong(Sentences s) {
        s.test("Promise 8", "Throws `IndexOutOfBoundsException` if there is no such record or field", t -> {
            t.due("the last ones", 0, Worlds.crowd(20).setField(19, 4));
            t.due("the first ones", 0, Worlds.crowd(20).setField(0, 0));
            noSuchRecord(t, (m, each) -> m.setField(each, 0));
            t.refusedFor("field", Worlds.INDEX, Worlds::busy, (m, each) -> m.setField(0, each), Worlds.beside(0, 4));
            t.refusedFor("with a text that is none, field", Worlds.INDEX, () -> Worlds.busyWith("/"),
                    (m, each) -> m.setField(0, each), Worlds.beside(0, 4));
        });
        s.test("Promise 8", "Throws `IllegalArgumentException` if the text has a \"/\" or more than 12 characters; the error "
                + "position is then kept for errorPosition", t -> {
            t.due("12 characters", 3, Worlds.busyWith("abcdefghijkl").setField(0, 0));
            Object[][] cases = {{"/", 0}, {"a/", 1}, {"a/b/c", 1}, {"abcdefghijk/", 11}, {"abcdefghijklm", 12},
                {"abcdefghijkl/", 12}, {"x".repeat(120), 12}};
            for (Object[] each : cases) {
                String text = (String) each[0];
                t.refusedBut(text, Worlds.ARGUMENT, () -> Worlds.busyWith(text), m -> m.setField(0, 0),
                        "buffer " + text.length() + " -> 0, error 3 -> " + each[1]);
            }
        });
    }

    private static void setNumber(Sentences s) {
        s.test("Promise 9", "Sets the group or the count of a record.", t -> {
            MailMerge m = Worlds.crowd(3);
            m.setNumber(1, false, 9);
            m.setNumber(1, true, 99);
            t.due("group", 9, m.record(1, 0));
            t.due("count", 99, m.record(1, 1));
            m.setNumber(1, false, 0);
            t.due("the least group", "0 99", m.record(1, 0) + " " + m.record(1, 1));
            m.setNumber(1, true, 0);
            t.due("the least count", "0 0", m.record(1, 0) + " " + m.record(1, 1));
            t.due("the others", "0 2", m.record(0, 1) + " " + m.record(2, 1));
        });
        s.test("Promise 9", "- `isCount`: whether the count is set, otherwise the group", t -> {
            MailMerge m = Worlds.one(1, 2);
            m.setNumber(0, true, 5);
            t.due("the count", "1 5", m.record(0, 0) + " " + m.record(0, 1));
            m.setNumber(0, false, 6);
            t.due("the group", "6 5", m.record(0, 0) + " " + m.record(0, 1));
        });
        s.test("Promise 9", "Returns the previous number.", t -> {
            MailMerge m = Worlds.one(3, 42);
            t.due("group", 3, m.setNumber(0, false, 9));
            t.due("count", 42, m.setNumber(0, true, 99));
            t.due("the greatest group", 9, m.setNumber(0, false, 0));
            t.due("the greatest count", 99, m.setNumber(0, true, 0));
            t.due("the least group", 0, m.setNumber(0, false, 0));
            t.due("the least count", 0, m.setNumber(0, true, 0));
        });
        s.test("Promise 9", "Throws `IndexOutOfBoundsException` if there is no such record", t -> {
            t.due("the last", 19, Worlds.crowd(20).setNumber(19, true, 0));
            noSuchRecord(t, (m, each) -> m.setNumber(each, true, 0));
            noSuchRecord(t, (m, each) -> m.setNumber(each, false, 10));
        });
        s.test("Promise 9", "Throws `IllegalArgumentException` if the number is out of range", t -> {
            t.due("a count beyond the groups", 7, Worlds.busy().setNumber(0, true, 10));
            t.refusedFor("group", Worlds.ARGUMENT, Worlds::busy, (m, each) -> m.setNumber(0, false, each),
                    Worlds.beside(0, 9));
            t.refusedFor("count", Worlds.ARGUMENT, Worlds::busy, (m, each) -> m.setNumber(0, true, each),
                    Worlds.beside(0, 99));
            t.refused("a group that would be a count", Worlds.ARGUMENT, Worlds::busy, m -> m.setNumber(0, false, 99));
        });
    }

    private static void field(Sentences s) {
        MailMerge m = Worlds.one(0, 0, "Ann", " ", "", "abcdefghijkl", "~");
        s.test("Promise 10", "Returns a character of a field, or its length.", t -> {
            t.leavesAll("a character", Worlds::busy, x -> x.field(0, 0, 0));
            t.leavesAll("a length", Worlds::busy, x -> x.field(0, 0, -1));
            t.due("a character", (int) 'A', m.field(0, 0, 0));
            t.due("its length", 3, m.field(0, 0, -1));
        });
        s.test("Promise 10", "- `index`: the index of the character, from 0, or -1 for the length", t -> {
            for (int i = 0; i < 12; i++) {
                t.due("index " + i, 'a' + i, m.field(0, 3, i));
            }
            t.due("index -1", 12, m.field(0, 3, -1));
        });
        s.test("Promise 10", "Returns the code of the character or the length.", t -> {
            t.due("the lowest code", 32, m.field(0, 1, 0));
            t.due("the highest code", 126, m.field(0, 4, 0));
            t.due("no characters", 0, m.field(0, 2, -1));
            t.due("12 characters", 12, m.field(0, 3, -1));
        });
        s.test("Promise 10", "Throws `IndexOutOfBoundsException` if there is no such record or field", t -> {
            noSuchRecord(t, (x, each) -> x.field(each, 0, -1));
            t.refusedFor("field", Worlds.INDEX, Worlds::busy, (x, each) -> x.field(0, each, -1), Worlds.beside(0, 4));
            t.refusedFor("field with an index that is none", Worlds.INDEX, Worlds::busy, (x, each) -> x.field(0, each, 50),
                    Worlds.beside(0, 4));
        });
        s.test("Promise 10", "Throws `NoSuchElementException` if index is neither -1 nor an index of the field", t -> {
            t.due("the last index", (int) 'n', Worlds.busy().field(0, 0, 2));
            t.refusedFor("index", Worlds.NONE, Worlds::busy, (x, each) -> x.field(0, 0, each), Worlds.beside(-1, 2));
            t.refusedFor("of an empty field, index", Worlds.NONE, Worlds::busy, (x, each) -> x.field(0, 1, each),
                    Worlds.beside(-1, -1));
            t.fails("13th of 12", Worlds.NONE, () -> m.field(0, 3, 12));
        });
    }

    private static void record(Sentences s) {
        s.test("Promise 11", "Returns a number of a record.", t -> {
            for (int what = 0; what < 4; what++) {
                int one = what;
                t.leavesAll("what " + what, Worlds::busy, m -> m.record(0, one));
            }
            MailMerge m = Worlds.one(3, 7, "Ann", "b");
            m.addRecord(4, 8);
            t.due("of one", "3 7 3 2", m.record(0, 0) + " " + m.record(0, 1) + " " + m.record(0, 2) + " " + m.record(0, 3));
            t.due("of another", "4 8 0 0", m.record(1, 0) + " " + m.record(1, 1) + " " + m.record(1, 2) + " "
                    + m.record(1, 3));
        });
        s.test("Promise 11", "- `what`: 0 for its group, 1 for its count, 2 for the fields that are not empty, as a bit mask, "
                + "3 for the lines of its address block", t -> {
            for (int mask = 0; mask < 32; mask++) {
                MailMerge m = Worlds.one(mask % 10, mask);
                for (int field = 0; field < 5; field++) {
                    Desk.field(m, 0, field, (mask & 1 << field) != 0 ? "Peru" : "");
                }
                int[] numbers = {mask % 10, mask, mask, Integer.bitCount(mask)};
                for (int what = 0; what < 4; what++) {
                    t.due("what " + what + " of " + mask, numbers[what], m.record(0, what));
                }
                Desk.home(m, "PERU");
                t.due("lines at home of " + mask, Integer.bitCount(mask & 15), m.record(0, 3));
                t.due("fields at home of " + mask, mask, m.record(0, 2));
            }
        });
        s.test("Promise 11", "Returns the number.", t -> {
            t.due("the least group", 0, Worlds.one(0, 5).record(0, 0));
            t.due("the greatest group", 9, Worlds.one(9, 5).record(0, 0));
            t.due("the least count", 0, Worlds.one(5, 0).record(0, 1));
            t.due("the greatest count", 99, Worlds.one(5, 99).record(0, 1));
        });
        s.test("Promise 11", "Throws `IndexOutOfBoundsException` if there is no such record", t -> {
            t.due("the last", 19, Worlds.crowd(20).record(19, 1));
            noSuchRecord(t, (m, each) -> m.record(each, 0));
            noSuchRecord(t, (m, each) -> m.record(each, 4));
        });
        s.test("Promise 11", "Throws `IllegalArgumentException` if what is out of range", t -> {
            IntConsumer look = what -> t.due("what " + what, false, Worlds.busy().record(0, what) < 0);
            look.accept(0);
            look.accept(3);
            t.refusedFor("what", Worlds.ARGUMENT, Worlds::busy, (m, each) -> m.record(0, each), Worlds.beside(0, 3));
        });
    }
}
