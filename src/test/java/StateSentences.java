import java.util.ArrayList;
import java.util.HashMap;
import java.util.List;
import java.util.Map;
import java.util.function.Consumer;

/** The sentences of the second half of "Description": failures, duplicates, runs, text, changes, exceptions. */
final class StateSentences {
    private StateSentences() {
    }

    static void addTo(Sentences s) {
        missingFields(s);
        limits(s);
        chains(s);
        duplicates(s);
        runs(s);
        buffer(s);
        errorPositions(s);
        changes(s);
        exceptions(s);
        orderOfExceptions(s);
        newObject(s);
    }

    private static void missingFields(Sentences s) {
        s.test("Failures", "A letter fails at an item in braces if the field is empty,", t -> {
            for (int field = 0; field < 5; field++) {
                for (String style : new String[] {"", "^", "*"}) {
                    MailMerge m = Worlds.one(0, 0);
                    String braces = "{" + field + style + "}";
                    t.due("an empty field in " + braces, "missing at 1", Worlds.letter(m, "a" + braces));
                    Desk.field(m, 0, field, " ");
                    t.due("one character in " + braces, "a ", Worlds.letter(m, "a" + braces));
                }
            }
            t.due("none fails where it does not count", "a", Worlds.letter(Worlds.one(0, 0), "a[0:{0}]"));
        });
        s.test("Failures", "and at \"@\" if the address block has no lines: a field is missing then.", t -> {
            MailMerge m = Worlds.one(0, 0);
            t.due("all fields are empty", "missing at 1", Worlds.letter(m, "a@"));
            for (int field = 0; field < 5; field++) {
                m = Worlds.one(0, 0);
                Desk.field(m, 0, field, "x");
                t.due("one line", "ax", Worlds.letter(m, "a@"));
                Desk.home(m, "X");
                t.due("the home country alone is no line", field == 4 ? "missing at 1" : "ax", Worlds.letter(m, "a@"));
                t.due("and its preview", field == 4 ? -3 : 2, m.preview(0));
            }
            t.due("none fails where it does not count", "a", Worlds.letter(Worlds.one(0, 0), "a[0:@]"));
        });
    }

    private static void limits(Sentences s) {
        s.test("Failures", "It fails at an item that is no \"[\" if with what this item gives the letter becomes longer than "
                + "the limit, which is from 1 to 200, at first 100: the letter is too long then.", t -> {
            String[] items = {"x", "#", "@", "{0}", "{0^}", "{0*}", "<a|bcd>"};
            int[] lengths = {1, 2, 4, 4, 4, 4, 3};
            for (int i = 0; i < items.length; i++) {
                MailMerge m = Worlds.one(0, 42, "anna");
                m.setLimit(2 + lengths[i]);
                t.due("as long as the limit, " + items[i], 2 + lengths[i], Worlds.letter(m, "ab" + items[i]).length());
                m.setLimit(1 + lengths[i]);
                t.due("longer by one, " + items[i], "too long at 2", Worlds.letter(m, "ab" + items[i]));
                m.setLimit(2);
                t.due("longer at each character, " + items[i], "too long at 2", Worlds.letter(m, "ab" + items[i]));
            }
            MailMerge m = Worlds.one(0, 42, "abcdefghij");
            t.due("100 characters at first", 100, Worlds.letter(m, "{0}".repeat(10)).length());
            t.due("101 at first", "too long at 30", Worlds.letter(m, "{0}".repeat(10) + "x"));
            m.setLimit(200);
            t.due("200 characters", 200, Worlds.letter(m, "{0}".repeat(20)).length());
            t.due("201", "too long at 60", Worlds.letter(m, "{0}".repeat(20) + "x"));
            t.due("199 and 12 more", "too long at 66", Worlds.letter(m, "{0}".repeat(19) + "xxxxxxxxx@"));
            m.setLimit(1);
            t.due("one character", "x", Worlds.letter(m, "x"));
            t.due("two", "too long at 1", Worlds.letter(m, "xx"));
            t.due("none more", "x", Worlds.letter(m, "x<y|>[0:][1:y]"));
            t.due("what is in a [ fails, not the [", "too long at 1 4", Worlds.letter(m, "x[0:y]"));
            t.refusedFor("limit", Worlds.ARGUMENT, Worlds::busy, MailMerge::setLimit, Worlds.beside(1, 200));
        });
        s.test("Failures", "The first item at which it fails counts.", t -> {
            MailMerge m = Worlds.one(0, 0, "Ann");
            m.setLimit(3);
            String[][] cases = {{"{1}abcd", "missing at 0"}, {"abcd{1}", "too long at 3"}, {"abc{1}d", "missing at 3"},
                {"{0}{1}", "missing at 3"}, {"a{0}{1}", "too long at 1"}, {"{1}{2}", "missing at 0"},
                {"a{0}{0}", "too long at 1"}, {"[1:{1}]a{0}", "too long at 8"}, {"[0:abc]{1}d", "missing at 7"},
                {"[0:abcd]{1}", "too long at 0 6"}};
            for (String[] each : cases) {
                t.due("of " + each[0], each[1], Worlds.letter(m, each[0]));
            }
        });
    }

    private static void chains(Sentences s) {
        s.test("Failures", "The chain of a failure has the places of the items with \"[\" in which this item is, from the "
                + "outermost one on, and at last the place of this item;", t -> {
            MailMerge m = Worlds.one(0, 0, "Ann");
            String[][] cases = {{"{1}", "0"}, {"[0:{1}]", "0 3"}, {"[0:[0:{1}]]", "0 3 6"}, {"[0:[0:[0:{1}]]]", "0 3 6 9"},
                {"[0:[0:[0:[0:{1}]]]]", "0 3 6 9 12"}, {"[0:]{1}", "4"}, {"[0:[0:]{1}]", "0 7"},
                {"[1:[0:a]]{1}", "9"}, {"[0:[0:[0:[0:a]b]c]d]{1}", "20"}, {"[0:[0:[0:[0:a]b]c]{1}]", "0 18"},
                {"x[!1&0:y@[n=0:z{1}]]", "1 9 15"}};
            for (String[] each : cases) {
                t.due("missing in " + each[0], "missing at " + each[1], Worlds.letter(m, each[0]));
            }
            m.setLimit(2);
            t.due("too long in four", "too long at 0 3 6 9 12", Worlds.letter(m, "[0:[0:[0:[0:@]]]]"));
            t.due("too long in none", "too long at 5", Worlds.letter(m, "[0:a]@"));
        });
        s.test("Failures", "the place of an item is the index of its first character in the text of the template.", t -> {
            t.due("the first place", "missing at 0", Worlds.letter(limited(), "@"));
            t.due("the last place", "missing at 119", Worlds.letter(limited(), "a".repeat(119) + "@"));
            t.due("braces at the end", "missing at 117", Worlds.letter(limited(), "a".repeat(117) + "{0}"));
            MailMerge m = new MailMerge();
            Desk.template(m, "a#@{0^}<b|c>[!n>10:d]");
            int[] places = {0, 1, 2, 3, 7, 12, 19};
            for (int i = 0; i < places.length; i++) {
                t.due("place of item " + i, places[i], m.item(i, 1));
            }
        });
    }

    /** One record without fields, and the greatest limit. */
    private static MailMerge limited() {
        MailMerge m = Worlds.one(0, 0);
        m.setLimit(200);
        return m;
    }

    private static void duplicates(Sentences s) {
        s.test("Duplicates", "The keys are a set of fields, at first none.", t -> {
            MailMerge m = Worlds.one(0, 0, "a", "b");
            Desk.add(m, 0, 0, "a", "b");
            t.due("the keys at first", 0, m.setting(1));
            t.due("none is a duplicate at first", "0 1", Worlds.kept(m));
            t.due("both get letters", 2, m.run());
            for (int keys = 1; keys < 32; keys++) {
                m.setKeys(keys);
                t.due("with keys " + keys, "0 0", Worlds.kept(m));
            }
            m.setKeys(0);
            t.due("none is a duplicate any more", "0 1", Worlds.kept(m));
        });
        s.test("Duplicates", "If there is a key, two records are duplicates of each other if each key is the same in both; "
                + "empty fields are the same, too.", t -> {
            for (int keys = 1; keys < 32; keys++) {
                for (int different = 0; different < 5; different++) {
                    MailMerge m = Worlds.one(0, 0, "a", "b", "c", "d", "e");
                    Desk.add(m, 0, 9, "A", "B", "C", "D", "E");
                    Desk.field(m, 1, different, "x");
                    m.setKeys(keys);
                    boolean isKey = (keys & 1 << different) != 0;
                    t.due("keys " + keys + ", different " + different, isKey ? "0 1" : "0 0", Worlds.kept(m));
                    Desk.field(m, 1, different, "");
                    t.due("keys " + keys + ", empty in one " + different, isKey ? "0 1" : "0 0", Worlds.kept(m));
                    Desk.field(m, 0, different, "");
                    t.due("keys " + keys + ", empty in both " + different, "0 0", Worlds.kept(m));
                }
            }
            MailMerge empty = Worlds.crowd(20);
            empty.setKeys(31);
            t.due("20 records without fields", 1, empty.run());
        });
        s.test("Duplicates", "Of all records that are not excluded and are duplicates of one another, one is kept: by the "
                + "policy 0 the first one, by 1 the last one, by 2 the one with the greatest count, of several the first "
                + "one.", t -> {
            int[] counts = {5, 9, 0, 9, 5};
            int[] groups = {1, 2, 0, 3, 4};
            String[][] cases = {{"", "0 0 0 0 0", "4 4 4 4 4", "1 1 1 1 1"}, {"2", "0 - 0 0 0", "4 - 4 4 4", "3 - 3 3 3"},
                {"23", "0 - 0 - 0", "4 - 4 - 4", "0 - 0 - 0"}, {"14", "- 1 1 1 -", "- 3 3 3 -", "- 1 1 1 -"},
                {"1234", "- - 2 - -", "- - 2 - -", "- - 2 - -"}, {"01234", "- - - - -", "- - - - -", "- - - - -"}};
            for (String[] each : cases) {
                for (int policy = 0; policy < 3; policy++) {
                    MailMerge m = new MailMerge();
                    for (int i = 0; i < counts.length; i++) {
                        m.addRecord(groups[i], counts[i]);
                    }
                    m.setKeys(8);
                    m.setPolicy(policy);
                    for (char group : each[0].toCharArray()) {
                        m.exclude(group - '0', true);
                    }
                    t.due("policy " + policy + " without groups " + each[0], each[1 + policy], Worlds.kept(m));
                }
            }
            MailMerge crowd = Worlds.crowd(20);
            crowd.setKeys(1);
            crowd.setPolicy(1);
            t.due("the last of 20", 19, crowd.kept(0));
            crowd.setPolicy(2);
            t.due("the greatest of 20", 19, crowd.kept(0));
            crowd.moveRecord(19, 0);
            t.due("where it is the first", 0, crowd.kept(19));
        });
    }

    private static void runs(Sentences s) {
        s.test("Runs", "A run finds a reason for each record, the first one that applies: 1 its group is excluded, 2 another "
                + "duplicate is kept, 3 a field is missing, 4 the letter is too long, 0 none of these, and then its letter "
                + "is made.", t -> {
            // Each case: whether excluded, a duplicate of a kept one, without a company, with a long name.
            for (int bits = 0; bits < 16; bits++) {
                boolean isExcluded = (bits & 1) != 0;
                boolean isDuplicate = (bits & 2) != 0;
                boolean isMissing = (bits & 4) != 0;
                boolean isLong = (bits & 8) != 0;
                String name = isLong ? "theodora" : "ann";
                MailMerge m = Worlds.one(1, 0, isDuplicate ? name : "bob", "x");
                Desk.add(m, isExcluded ? 2 : 1, 0, name, isMissing ? "" : "y");
                Desk.template(m, "{1}{0}");
                m.setLimit(5);
                m.setKeys(1);
                m.exclude(2, true);
                m.run();
                int due = isExcluded ? 1 : isDuplicate ? 2 : isMissing ? 3 : isLong ? 4 : 0;
                t.due("reason for " + bits, due, m.reason(1));
                t.due("letter for " + bits, due == 0 ? "4" : "UnsupportedOperationException",
                        Sight.answer(() -> m.letter(1, -1)));
            }
            MailMerge ran = Worlds.ran();
            t.due("all reasons", "03412", Desk.reasons(ran, 5));
        });
        s.test("Runs", "What the latest run found is kept, also when records, template or settings change; it belongs neither "
                + "to the changes nor to a snapshot.", t -> {
            List<Consumer<MailMerge>> changes = new ArrayList<>(eachChange());
            changes.add(MailMerge::clear);
            changes.add(MailMerge::undo);
            changes.add(MailMerge::snapshot);
            changes.add(m -> {
                m.snapshot();
                m.clear();
                m.addRecord(0, 0);
                m.restore();
            });
            String due = Sight.of(Worlds.ran()).get("latest run");
            for (int i = 0; i < changes.size(); i++) {
                MailMerge m = Worlds.ran();
                changes.get(i).accept(m);
                t.due("latest run after change " + i, due, Sight.of(m).get("latest run"));
            }
            MailMerge m = Worlds.ran();
            m.snapshot();
            Desk.template(m, "x");
            m.setKeys(0);
            m.run();
            m.undo();
            m.restore();
            t.due("a later run is not undone, nor is it in the snapshot", "00010", Desk.reasons(m, 5));
            t.due("nor are its letters", "x", Desk.letterText(m, 1));
            t.leavesAll("a run that is refused", () -> {
                MailMerge cleared = Worlds.ran();
                cleared.clear();
                return cleared;
            }, cleared -> t.fails("without records", Worlds.STATE, cleared::run));
        });
    }

    private static void buffer(Sentences s) {
        s.test("Text", "The input buffer holds up to 120 characters with codes from 32 to 126.", t -> {
            t.due("120 characters", 120, Worlds.typed(120).setting(5));
            t.refused("a 121st", Worlds.STATE, () -> Worlds.typed(120), m -> m.append('x'));
            MailMerge m = new MailMerge();
            for (int code = 32; code <= 126; code++) {
                t.due("code " + code, code - 31, m.append(code));
            }
            t.refusedFor("code", Worlds.ARGUMENT, Worlds::busy, MailMerge::append, 31, 127, 1, 255);
        });
    }

    private static void errorPositions(Sentences s) {
        s.test("Text", "The error position of a text that is malformed is the lowest index of a character with which, after "
                + "the characters before it, no text as it is expected can go on, or the length of the text if there is no "
                + "such index;", t -> {
            Beginnings beginnings = new Beginnings();
            for (String each : Beginnings.textsUpTo(3)) {
                beginnings.look(t, each);
                beginnings.look(t, "[0:[0:[0:[0:" + each);
                beginnings.look(t, "[n" + each);
            }
            // Whether the rest could still come within the 120 characters of the buffer is not asked.
            MailMerge m = new MailMerge();
            t.due("the length of a full buffer", 120, Worlds.malformed(m, "x".repeat(119) + "{"));
            t.due("the last index of a full buffer", 119, Worlds.malformed(m, "x".repeat(119) + "}"));
            t.due("an open [ in a full buffer", 120, Worlds.malformed(m, "[0:" + "x".repeat(117)));
            t.due("no room for what is due", 120, Worlds.malformed(m, "x".repeat(117) + "[0&"));
            t.due("a wrong character near the end", 118, Worlds.malformed(m, "x".repeat(117) + "[:]"));
            t.due("the first of two", 1, Worlds.malformed(m, "a]b]"));
            t.due("the first index", 0, Worlds.malformed(m, "]"));
        });
        s.test("Text", "but that a field would be too long is an error at its 13th character.", t -> {
            Object[][] cases = {{"abcdefghijkl", -1}, {"abcdefghijklm", 12}, {"a".repeat(14), 12}, {"a".repeat(120), 12},
                {"abcdefghijk/", 11}, {"abcdefghijkl/", 12}, {"abcdefghijklm/", 12}, {"/", 0}, {"/" + "a".repeat(20), 0},
                {"a/b/", 1}, {"abcdefghijk/m", 11}};
            for (Object[] each : cases) {
                MailMerge m = Worlds.one(0, 0);
                Desk.type(m, (String) each[0]);
                t.due("as a field: " + each[0], each[1], errorOf(m, () -> m.setField(0, 4)));
                MailMerge n = new MailMerge();
                Desk.type(n, (String) each[0]);
                t.due("as a home country: " + each[0], each[1], errorOf(n, n::setHome));
            }
        });
    }

    private static int errorOf(MailMerge m, Runnable call) {
        try {
            call.run();
        } catch (IllegalArgumentException e) {
            return m.errorPosition();
        }
        return -1;
    }

    /** Which texts are the beginning of a template, found by trying to complete them. */
    private static final class Beginnings {
        private static final String SIGNS = "a0/#{}<>|[]&:!gn=^";
        private static final String[] INNER = {"", "0", "<0", "=0", ">", "|>", "}", "0}"};
        private final Map<String, Boolean> known = new HashMap<>();
        private MailMerge merger = new MailMerge();
        private int calls = 0;

        static List<String> textsUpTo(int length) {
            List<String> texts = new ArrayList<>();
            texts.add("");
            for (int from = 0, i = 0; i < length; i++) {
                int end = texts.size();
                for (; from < end; from++) {
                    for (char sign : SIGNS.toCharArray()) {
                        texts.add(texts.get(from) + sign);
                    }
                }
            }
            return texts;
        }

        void look(Trial t, String text) {
            int due = -1;
            if (!isGood(text)) {
                due = 0;
                while (due < text.length() && canGoOn(text.substring(0, due + 1))) {
                    due++;
                }
            }
            MailMerge m = next(text);
            t.due("error of " + text, due, Worlds.malformed(m, text));
        }

        private boolean canGoOn(String text) {
            return known.computeIfAbsent(text, this::canBeCompleted);
        }

        private boolean canBeCompleted(String text) {
            for (String inner : INNER) {
                for (String colon : new String[] {"", ":"}) {
                    for (int open = 0; open <= 5; open++) {
                        if (isGood(text + inner + colon + "]".repeat(open))) {
                            return true;
                        }
                    }
                }
            }
            return false;
        }

        private boolean isGood(String text) {
            return Worlds.malformed(next(text), text) < 0;
        }

        /** A merger that can still be asked about a text: no object is called more than 512 times. */
        private MailMerge next(String text) {
            calls += text.length() / 4 + 3;
            if (calls > 512) {
                merger = new MailMerge();
                calls = text.length() / 4 + 3;
            }
            return merger;
        }
    }

    /** A call of each method that changes something, by which something changes in Worlds.ran and Worlds.busy. */
    static List<Consumer<MailMerge>> eachChange() {
        return List.of(m -> m.addRecord(1, 1), m -> m.removeRecord(0), m -> m.setField(0, 0),
                m -> m.setNumber(0, true, 77), m -> m.setNumber(0, false, 8), m -> m.moveRecord(0, 2),
                m -> m.sort(0, true), MailMerge::setTemplate, MailMerge::setHome, m -> m.setKeys(31),
                m -> m.setPolicy(2), m -> m.exclude(9, true), m -> m.setLimit(123));
    }

    private static void changes(Sentences s) {
        s.test("Changes", "The changes are the successful calls, also those by which nothing changes, of addRecord, "
                + "removeRecord, setField, setNumber, moveRecord, sort, setTemplate, setHome, setKeys, setPolicy, exclude "
                + "and setLimit since the last call of clear, or since the object was created.", t -> {
            List<Consumer<MailMerge>> changes = eachChange();
            for (int i = 0; i < changes.size(); i++) {
                MailMerge m = Worlds.crowd(3);
                Desk.type(m, "x");
                changes.get(i).accept(m);
                t.due("changes after " + i, 4, m.setting(6));
            }
            List<Consumer<MailMerge>> withoutEffect = List.of(m -> m.setField(0, 0), m -> m.setNumber(0, true, 0),
                    m -> m.setNumber(0, false, 0), m -> m.moveRecord(2, 2), m -> m.sort(0, true), MailMerge::setTemplate,
                    MailMerge::setHome, m -> m.setKeys(0), m -> m.setPolicy(0), m -> m.exclude(0, false),
                    m -> m.setLimit(100));
            for (int i = 0; i < withoutEffect.size(); i++) {
                MailMerge m = Worlds.crowd(3);
                withoutEffect.get(i).accept(m);
                t.due("changes after one without effect " + i, 4, m.setting(6));
                t.due("it can be undone, and nothing else is", 3, m.undo());
                t.due("the records stay", 3, m.setting(0));
            }
            MailMerge m = Worlds.crowd(3);
            m.clear();
            t.due("none after clear", 0, m.setting(6));
            m.setLimit(100);
            t.due("those since clear", 1, m.setting(6));
            t.due("none of a new object", 0, new MailMerge().setting(6));
            noChanges(t);
        });
        s.test("Changes", "Whenever a change is made, it can be undone, and of those that could be undone before it, only the "
                + "latest 7 still can.", t -> {
            for (int changes = 0; changes <= 30; changes++) {
                MailMerge m = new MailMerge();
                for (int i = 1; i <= changes; i++) {
                    m.setLimit(i);
                }
                int can = Math.min(8, changes);
                t.due("of " + changes, can, m.setting(6));
                for (int i = 1; i <= can; i++) {
                    t.due("left", can - i, m.undo());
                    t.due("limit", changes == i ? 100 : changes - i, m.setting(4));
                }
                t.fails("no more", Worlds.STATE, m::undo);
            }
            for (int undone = 0; undone <= 8; undone++) {
                for (int more = 0; more <= 10; more++) {
                    MailMerge m = new MailMerge();
                    List<Integer> due = new ArrayList<>();
                    for (int i = 1; i <= 20; i++) {
                        due.add(m.setLimit(i));
                    }
                    due.subList(0, 12).clear();
                    for (int i = 0; i < undone; i++) {
                        m.undo();
                        due.remove(due.size() - 1);
                    }
                    for (int i = 0; i < more; i++) {
                        due.add(m.setLimit(101 + i));
                    }
                    due.subList(0, Math.max(0, due.size() - 8)).clear();
                    t.due("after " + undone + " undone and " + more + " more", due.size(), m.setting(6));
                    for (int i = due.size() - 1; i >= 0; i--) {
                        m.undo();
                        t.due("limit before it", due.get(i), m.setting(4));
                    }
                    t.fails("no more", Worlds.STATE, m::undo);
                }
            }
        });
    }

    private static void noChanges(Trial t) {
        List<Consumer<MailMerge>> others = List.of(m -> m.append('a'), m -> m.field(0, 0, -1), m -> m.record(0, 0),
                m -> m.template(0), m -> m.item(0, 0), m -> m.counts(0, 0), m -> m.setting(6), MailMerge::run,
                m -> m.reason(0), m -> m.reasons(0), m -> m.letter(0, 0), m -> m.chain(1, 0), m -> m.kept(0),
                m -> m.preview(0), MailMerge::meanLength, MailMerge::share, MailMerge::isOrderFree, MailMerge::snapshot);
        for (int i = 0; i < others.size(); i++) {
            MailMerge m = Worlds.ran();
            m.undo();
            others.get(i).accept(m);
            t.due("no change by the other call " + i, 7, m.setting(6));
        }
    }

    /** Calls that are refused, each with the exception that is due, for Worlds.busy. */
    private static final Object[][] REFUSED = {
        {"append", Worlds.ARGUMENT, call(m -> m.append(31))},
        {"append", Worlds.ARGUMENT, call(m -> m.append(0x6161617f))},
        {"addRecord", Worlds.ARGUMENT, call(m -> m.addRecord(10, 0))},
        {"addRecord", Worlds.ARGUMENT, call(m -> m.addRecord(0, 100))},
        {"removeRecord", Worlds.INDEX, call(m -> m.removeRecord(3))},
        {"moveRecord", Worlds.INDEX, call(m -> m.moveRecord(3, 0))},
        {"moveRecord", Worlds.INDEX, call(m -> m.moveRecord(0, 3))},
        {"sort", Worlds.INDEX, call(m -> m.sort(5, true))},
        {"setField", Worlds.INDEX, call(m -> m.setField(3, 0))},
        {"setField", Worlds.INDEX, call(m -> m.setField(0, 5))},
        {"setNumber", Worlds.INDEX, call(m -> m.setNumber(3, true, 0))},
        {"setNumber", Worlds.ARGUMENT, call(m -> m.setNumber(0, true, 100))},
        {"setNumber", Worlds.ARGUMENT, call(m -> m.setNumber(0, false, 10))},
        {"field", Worlds.INDEX, call(m -> m.field(3, 0, -1))},
        {"field", Worlds.INDEX, call(m -> m.field(0, 5, -1))},
        {"field", Worlds.NONE, call(m -> m.field(0, 0, 3))},
        {"record", Worlds.INDEX, call(m -> m.record(3, 0))},
        {"record", Worlds.ARGUMENT, call(m -> m.record(0, 4))},
        {"template", Worlds.ARGUMENT, call(m -> m.template(5))},
        {"item", Worlds.NONE, call(m -> m.item(6, 0))},
        {"item", Worlds.ARGUMENT, call(m -> m.item(0, 4))},
        {"counts", Worlds.INDEX, call(m -> m.counts(3, 0))},
        {"counts", Worlds.NONE, call(m -> m.counts(0, 6))},
        {"setKeys", Worlds.ARGUMENT, call(m -> m.setKeys(32))},
        {"setPolicy", Worlds.ARGUMENT, call(m -> m.setPolicy(3))},
        {"exclude", Worlds.INDEX, call(m -> m.exclude(10, true))},
        {"setLimit", Worlds.ARGUMENT, call(m -> m.setLimit(201))},
        {"setting", Worlds.ARGUMENT, call(m -> m.setting(8))},
        {"reason", Worlds.INDEX, call(m -> m.reason(3))},
        {"reasons", Worlds.ARGUMENT, call(m -> m.reasons(5))},
        {"letter", Worlds.INDEX, call(m -> m.letter(3, -1))},
        {"letter", Worlds.UNSUPPORTED, call(m -> m.letter(0, -1))},
        {"letter", Worlds.NONE, call(m -> m.letter(1, 3))},
        {"chain", Worlds.INDEX, call(m -> m.chain(3, 0))},
        {"chain", Worlds.UNSUPPORTED, call(m -> m.chain(0, 0))},
        {"kept", Worlds.INDEX, call(m -> m.kept(3))},
        {"kept", Worlds.UNSUPPORTED, call(m -> m.kept(2))},
        {"preview", Worlds.INDEX, call(m -> m.preview(3))},
    };

    private static Consumer<MailMerge> call(Consumer<MailMerge> call) {
        return call;
    }

    @SuppressWarnings("unchecked")
    private static void exceptions(Sentences s) {
        s.test("Exceptions", "A call that throws an exception leaves the state unchanged, unless its description says "
                + "otherwise.", t -> {
            for (Object[] each : REFUSED) {
                t.refused((String) each[0], (Class<? extends RuntimeException>) each[1], Worlds::busy,
                        (Consumer<MailMerge>) each[2]);
            }
            t.refused("append to a full buffer", Worlds.STATE, () -> Worlds.busyWith("x".repeat(118)),
                    m -> m.append(0x616161));
            t.refused("addRecord of a 21st", Worlds.STATE, () -> Worlds.crowd(20), m -> m.addRecord(0, 0));
            t.refused("chain", Worlds.NONE, Worlds::ran, m -> m.chain(1, 2));
            t.refused("meanLength", Worlds.ARITHMETIC, Worlds::ranInVain, MailMerge::meanLength);
            t.refused("errorPosition", Worlds.NONE, Worlds::ran, MailMerge::errorPosition);
            t.refused("run", Worlds.STATE, MailMerge::new, MailMerge::run);
            t.refused("undo", Worlds.STATE, MailMerge::new, MailMerge::undo);
            t.refused("restore", Worlds.STATE, Worlds::ran, MailMerge::restore);
            List<Consumer<MailMerge>> afterRun = List.of(m -> m.reason(0), m -> m.reasons(0), m -> m.letter(0, -1),
                    m -> m.chain(0, 0), MailMerge::meanLength, MailMerge::share);
            for (Consumer<MailMerge> each : afterRun) {
                t.refused("before a run", Worlds.STATE, () -> Worlds.crowd(2), each);
            }
            t.refusedBut("setField says otherwise", Worlds.ARGUMENT, () -> Worlds.busyWith("a/"), m -> m.setField(0, 0),
                    "buffer 2 -> 0, error 3 -> 1");
            t.refusedBut("setTemplate says otherwise", Worlds.ARGUMENT, () -> Worlds.busyWith("{"),
                    MailMerge::setTemplate, "buffer 1 -> 0, error 3 -> 1");
            t.refusedBut("setHome says otherwise", Worlds.ARGUMENT, () -> Worlds.busyWith("/"), MailMerge::setHome,
                    "buffer 1 -> 0, error 3 -> 0");
        });
    }

    private static void orderOfExceptions(Sentences s) {
        s.test("Exceptions", "If a method can throw several exceptions, they are checked in the order in which they are "
                + "listed.", t -> {
            t.refused("append, wrong and too many", Worlds.ARGUMENT, () -> Worlds.typed(120), m -> m.append(0x61611f61));
            t.refused("append, too many and wrong", Worlds.ARGUMENT, () -> Worlds.typed(119), m -> m.append(0x6161617f));
            t.refused("addRecord, group and full", Worlds.ARGUMENT, () -> Worlds.crowd(20), m -> m.addRecord(10, 0));
            t.refused("addRecord, count and full", Worlds.ARGUMENT, () -> Worlds.crowd(20), m -> m.addRecord(0, 100));
            t.refused("setField, record and text", Worlds.INDEX, () -> Worlds.busyWith("/"), m -> m.setField(3, 0));
            t.refused("setField, field and text", Worlds.INDEX, () -> Worlds.busyWith("/"), m -> m.setField(0, 5));
            t.refused("setNumber, record and number", Worlds.INDEX, Worlds::busy, m -> m.setNumber(3, false, 10));
            t.refused("field, record and index", Worlds.INDEX, Worlds::busy, m -> m.field(3, 0, 99));
            t.refused("field, field and index", Worlds.INDEX, Worlds::busy, m -> m.field(0, 5, 99));
            t.refused("record, record and what", Worlds.INDEX, Worlds::busy, m -> m.record(3, 4));
            t.refused("item, item and what", Worlds.NONE, Worlds::busy, m -> m.item(6, 4));
            t.refused("counts, record and item", Worlds.INDEX, Worlds::busy, m -> m.counts(3, 6));
            t.refused("reason, run and record", Worlds.STATE, MailMerge::new, m -> m.reason(-1));
            t.refused("reasons, run and reason", Worlds.STATE, MailMerge::new, m -> m.reasons(5));
            t.refused("letter, run and record", Worlds.STATE, MailMerge::new, m -> m.letter(-1, -2));
            t.refused("letter, record and index", Worlds.INDEX, Worlds::ran, m -> m.letter(5, -2));
            t.refused("letter, reason and index", Worlds.UNSUPPORTED, Worlds::ran, m -> m.letter(1, -2));
            t.refused("chain, run and record", Worlds.STATE, MailMerge::new, m -> m.chain(-1, -1));
            t.refused("chain, record and index", Worlds.INDEX, Worlds::ran, m -> m.chain(5, -1));
            t.refused("chain, reason and index", Worlds.UNSUPPORTED, Worlds::ran, m -> m.chain(0, -1));
            t.refused("meanLength, run and letters", Worlds.STATE, MailMerge::new, MailMerge::meanLength);
            t.refused("kept, record and group", Worlds.INDEX, () -> {
                MailMerge m = Worlds.crowd(1);
                m.exclude(0, true);
                return m;
            }, m -> m.kept(1));
        });
    }

    private static void newObject(Sentences s) {
        s.test("A new object", "A new object has no records, no excluded groups, no home country (so that no country is it), "
                + "and the policy 0.", t -> {
            MailMerge m = new MailMerge();
            int[] settings = {0, 0, 0, 0, 100, 0, 0, 0};
            for (int what = 0; what < settings.length; what++) {
                t.due("setting " + what, settings[what], m.setting(what));
            }
            for (int group = 0; group <= 9; group++) {
                t.due("group " + group + " was excluded", false, new MailMerge().exclude(group, true));
            }
            t.due("an empty country is no line", "Ann", Worlds.letter(Worlds.one(0, 0, "Ann"), "@"));
            t.due("no country is left out", "Ann/x", Worlds.letter(Worlds.one(0, 0, "Ann", "", "", "", "x"), "@"));
            t.due("the policy before", 0, m.setPolicy(1));
            t.due("the length of the home country before", 0, m.setHome());
        });
    }
}
