/** The sentences of the promises 12 to 16: the template. */
final class TemplateSentences {
    private static final String ALL_KINDS = "a#@{0^}<xy|z>[0&!n>10:b[1:{2}]c]d";

    private TemplateSentences() {
    }

    static void addTo(Sentences s) {
        setTemplate(s);
        setTemplateWrong(s);
        errorPosition(s);
        template(s);
        numbersOfTemplates(s);
        item(s);
        itemWrong(s);
        counts(s);
        countsWrong(s);
    }

    private static void setTemplate(Sentences s) {
        s.test("Promise 12", "Makes the text in the input buffer the template.", t -> {
            MailMerge m = Worlds.one(0, 3, "Ann");
            t.due("the letter", "a3Ann", Worlds.letter(m, "a#{0}"));
            t.due("by another template", "b", Worlds.letter(m, "b"));
            t.due("length of the longest", 120, lengthOf("[0:]".repeat(30)));
            t.due("length of the shortest but one", 1, lengthOf("x"));
        });
        s.test("Promise 12", "The buffer is empty afterwards in any case.", t -> {
            MailMerge m = new MailMerge();
            Desk.template(m, "abc");
            t.due("after it succeeded", 0, m.setting(5));
            t.due("the next text is empty", 0, m.setTemplate());
            for (String each : new String[] {"/", "abc{", "x".repeat(119) + "]"}) {
                t.fails(each, Worlds.ARGUMENT, () -> Desk.template(m, each));
                t.due("after " + each, 0, m.setting(5));
            }
        });
        s.test("Promise 12", "An empty text is a template without items.", t -> {
            MailMerge m = Worlds.one(0, 0);
            Desk.template(m, "{0}[1:x]");
            t.due("items of an empty text", 0, m.setTemplate());
            for (int what = 0; what < 5; what++) {
                t.due("number " + what, 0, m.template(what));
            }
            t.fails("item 0", Worlds.NONE, () -> m.item(0, 0));
            t.due("length of its letter", 0, m.preview(0));
            t.due("it is a change", 2, m.undo());
            t.due("the items before", 3, m.template(0));
        });
        s.test("Promise 12", "Returns the number of items, those in others included.", t -> {
            Object[][] cases = {{"", 0}, {"a", 1}, {"<abc|def>", 1}, {"[0:]", 1}, {"[0&1&!2:]", 1}, {"[0:a]", 2},
                {"[0:[1:[2:[3:a]]]]", 5}, {"[0:[1:a]b]c", 5}, {ALL_KINDS, 11}, {"x".repeat(120), 120},
                {"[0:]".repeat(30), 30}, {"{4}".repeat(40), 40}};
            for (Object[] each : cases) {
                t.due("items of " + each[0], each[1], Desk.template(new MailMerge(), (String) each[0]));
            }
        });
    }

    private static int lengthOf(String template) {
        MailMerge m = new MailMerge();
        Desk.template(m, template);
        return m.template(1);
    }

    private static void setTemplateWrong(Sentences s) {
        s.test("Promise 12", "Throws `IllegalArgumentException` if the text is malformed; the error position is then kept for "
                + "errorPosition", t -> {
            Object[][] cases = {{"]", 0}, {"{", 1}, {"a/", 1}, {"[0:[1:{2}<a|b>]", 15}, {"[0:[1:[2:[3:[", 12},
                {"[n=100:]", 5}, {"[0:", 3}, {"x".repeat(119) + "]", 119}, {"x".repeat(119) + "<", 120}};
            for (Object[] each : cases) {
                String text = (String) each[0];
                int position = (Integer) each[1];
                t.refusedBut(text, Worlds.ARGUMENT, () -> Worlds.busyWith(text), MailMerge::setTemplate,
                        "buffer " + text.length() + " -> 0" + (position == 3 ? "" : ", error 3 -> " + position));
            }
        });
    }

    private static void errorPosition(Sentences s) {
        s.test("Promise 13", "Returns the error position of the last text that was malformed, of a field, a template or a "
                + "home country, whatever was read after it.", t -> {
            MailMerge m = Worlds.one(0, 0, "Ann");
            t.due("of a template", 4, Worlds.malformed(m, "abc{"));
            Desk.template(m, "abc");
            Desk.field(m, 0, 0, "abc");
            Desk.home(m, "abc");
            t.due("after others that are not malformed", 4, m.errorPosition());
            Desk.type(m, "ab/");
            t.fails("a field", Worlds.ARGUMENT, () -> m.setField(0, 0));
            t.due("of a field", 2, m.errorPosition());
            Desk.type(m, "abcdefg/");
            t.fails("a home country", Worlds.ARGUMENT, m::setHome);
            t.due("of a home country", 7, m.errorPosition());
            Desk.type(m, "/");
            t.fails("no such record", Worlds.INDEX, () -> m.setField(1, 0));
            t.due("a text that was not read does not count", 7, m.errorPosition());
            t.fails("a wrong character for the buffer", Worlds.ARGUMENT, () -> m.append(1));
            t.due("nor does one that was not appended", 7, m.errorPosition());
            m.undo();
            m.snapshot();
            m.restore();
            m.clear();
            t.due("after undo, restore and clear", 7, m.errorPosition());
            t.leavesAll("asking", Worlds::busy, MailMerge::errorPosition);
        });
        s.test("Promise 13", "Returns the error position.", t -> {
            MailMerge m = new MailMerge();
            t.due("the least", 0, Worlds.malformed(m, "}"));
            t.due("the greatest", 120, Worlds.malformed(m, "[0:" + "x".repeat(117)));
            t.due("again", 120, m.errorPosition());
        });
        s.test("Promise 13", "Throws `NoSuchElementException` if there was none", t -> {
            t.refused("of a new object", Worlds.NONE, MailMerge::new, MailMerge::errorPosition);
            t.refused("where all were well formed", Worlds.NONE, Worlds::ran, MailMerge::errorPosition);
            MailMerge m = Worlds.one(0, 0);
            t.fails("a wrong character", Worlds.ARGUMENT, () -> m.append(1));
            Desk.type(m, "/");
            t.fails("no such field", Worlds.INDEX, () -> m.setField(0, 5));
            t.fails("none after these either", Worlds.NONE, m::errorPosition);
        });
    }

    private static void template(Sentences s) {
        s.test("Promise 14", "Returns a number of the template.", t -> {
            for (int what = 0; what < 5; what++) {
                int one = what;
                t.leavesAll("what " + what, Worlds::busy, m -> m.template(one));
            }
            MailMerge m = new MailMerge();
            Desk.template(m, "[0:#]{3}");
            t.due("items", 3, m.template(0));
            t.due("a malformed one", 3, Worlds.malformed(m, "[0:"));
            t.due("items as before", 3, m.template(0));
            m.undo();
            t.due("items before it", 0, m.template(0));
        });
        s.test("Promise 14", "- `what`: 0 for its items, those in others included, 1 for its length as a text, 2 for the "
                + "greatest number of items with \"[\" that are open at the same time, 3 for the fields that stand in braces "
                + "or in conditions, as a bit mask, 4 for the items with \"[\"", t -> {
            checkNumbers(t, "", 0, 0, 0, 0, 0);
            checkNumbers(t, "a#@<b|c>", 4, 8, 0, 0, 0);
            checkNumbers(t, "[g0:]", 1, 5, 1, 0, 1);
            checkNumbers(t, "[0:][1:][2:]", 3, 12, 1, 7, 3);
            checkNumbers(t, "[0:[1:]][2:]", 3, 12, 2, 7, 3);
            checkNumbers(t, "[0:[0:[0:[0:]]]]", 4, 16, 4, 1, 4);
            checkNumbers(t, "[0:[0:[0:]]][0:[0:[0:[0:]]]][0:]", 8, 32, 4, 1, 8);
            checkNumbers(t, "[0:]".repeat(30), 30, 120, 1, 1, 30);
            checkNumbers(t, "{4}".repeat(40), 40, 120, 0, 16, 0);
            checkNumbers(t, "x".repeat(120), 120, 120, 0, 0, 0);
            checkNumbers(t, ALL_KINDS, 11, 33, 2, 7, 2);
            for (int field = 0; field < 5; field++) {
                checkNumbers(t, "{" + field + "}", 1, 3, 0, 1 << field, 0);
                checkNumbers(t, "{" + field + "*}", 1, 4, 0, 1 << field, 0);
                checkNumbers(t, "[" + field + ":]", 1, 4, 1, 1 << field, 1);
                checkNumbers(t, "[!" + field + ":]", 1, 5, 1, 1 << field, 1);
                checkNumbers(t, "[g9&" + field + ":]", 1, 7, 1, 1 << field, 1);
                checkNumbers(t, "[n=" + field + "&g" + field + ":" + field + "]", 2, 10, 1, 0, 1);
            }
        });
    }

    private static void checkNumbers(Trial t, String text, int... numbers) {
        MailMerge m = new MailMerge();
        Desk.template(m, text);
        for (int what = 0; what < numbers.length; what++) {
            t.due("number " + what + " of " + text, numbers[what], m.template(what));
        }
    }

    private static void numbersOfTemplates(Sentences s) {
        s.test("Promise 14", "Returns the number.", t -> {
            checkNumbers(t, "[!0&1&2&3&4:]", 1, 13, 1, 31, 1);
            checkNumbers(t, "{0}{1}{2}{3}{4}", 5, 15, 0, 31, 0);
            checkNumbers(t, "#".repeat(119), 119, 119, 0, 0, 0);
        });
        s.test("Promise 14", "Throws `IllegalArgumentException` if what is out of range", t -> {
            t.due("the first", 6, Worlds.busy().template(0));
            t.due("the last", 2, Worlds.busy().template(4));
            t.refusedFor("what", Worlds.ARGUMENT, Worlds::busy, MailMerge::template, Worlds.beside(0, 4));
            t.refusedFor("of a new object, what", Worlds.ARGUMENT, MailMerge::new, MailMerge::template,
                    Worlds.beside(0, 4));
        });
    }

    private static void item(Sentences s) {
        int[][] due = {{0, 0, 0, -1}, {1, 1, 0, -1}, {2, 2, 0, -1}, {3, 3, 0, -1}, {4, 7, 0, -1}, {5, 13, 0, -1},
            {0, 22, 1, 5}, {5, 23, 1, 5}, {3, 26, 2, 7}, {0, 30, 1, 5}, {0, 32, 0, -1}};
        s.test("Promise 15", "Returns a number of an item of the template.", t -> {
            for (int what = 0; what < 4; what++) {
                int one = what;
                t.leavesAll("what " + what, Worlds::busy, m -> m.item(3, one));
            }
            t.due("a kind", 5, Worlds.busy().item(3, 0));
        });
        s.test("Promise 15", "All items, those in others included, are numbered from 0 in the order of their places.", t -> {
            MailMerge m = new MailMerge();
            Desk.template(m, ALL_KINDS);
            for (int item = 0; item < due.length; item++) {
                t.due("place of item " + item, due[item][1], m.item(item, 1));
            }
            Desk.template(m, "x".repeat(120));
            for (int item = 0; item < 120; item++) {
                t.due("place of item " + item + " of 120", item, m.item(item, 1));
            }
        });
        s.test("Promise 15", "- `what`: 0 for its kind: 0 a literal, 1 \"#\", 2 \"@\", 3 braces, 4 \"<\", 5 \"[\"; 1 for its "
                + "place; 2 for the number of items with \"[\" in which it is; 3 for the number of the innermost of these, "
                + "-1 without one", t -> {
            checkItems(t, ALL_KINDS, due);
            checkItems(t, "[0:[1:[2:[3:a]]]]", new int[][] {{5, 0, 0, -1}, {5, 3, 1, 0}, {5, 6, 2, 1}, {5, 9, 3, 2},
                {0, 12, 4, 3}});
            checkItems(t, "[0:[1:]a[2:]b]c", new int[][] {{5, 0, 0, -1}, {5, 3, 1, 0}, {0, 7, 1, 0}, {5, 8, 1, 0},
                {0, 12, 1, 0}, {0, 14, 0, -1}});
            checkItems(t, "[0:][1:a][2:]", new int[][] {{5, 0, 0, -1}, {5, 4, 0, -1}, {0, 7, 1, 1}, {5, 9, 0, -1}});
            checkItems(t, "[0:[0:[0:[0:]]]a]", new int[][] {{5, 0, 0, -1}, {5, 3, 1, 0}, {5, 6, 2, 1}, {5, 9, 3, 2},
                {0, 15, 1, 0}});
        });
        s.test("Promise 15", "Returns the number.", t -> {
            checkItems(t, "a".repeat(119), new int[][] {{0, 0, 0, -1}, {0, 1, 0, -1}});
            checkItems(t, "{0*}<|>", new int[][] {{3, 0, 0, -1}, {4, 4, 0, -1}});
        });
    }

    private static void checkItems(Trial t, String text, int[][] due) {
        MailMerge m = new MailMerge();
        Desk.template(m, text);
        for (int item = 0; item < due.length; item++) {
            for (int what = 0; what < 4; what++) {
                t.due("item " + item + " of " + text + ", " + what, due[item][what], m.item(item, what));
            }
        }
    }

    private static void itemWrong(Sentences s) {
        s.test("Promise 15", "Throws `NoSuchElementException` if there is no such item", t -> {
            t.due("the first", 0, Worlds.busy().item(0, 1));
            t.due("the last", 15, Worlds.busy().item(5, 1));
            t.refusedFor("item", Worlds.NONE, Worlds::busy, (m, each) -> m.item(each, 0), Worlds.beside(0, 5));
            t.refusedFor("of a new object, item", Worlds.NONE, MailMerge::new, (m, each) -> m.item(each, 0), 0, -1);
            MailMerge m = new MailMerge();
            Desk.template(m, "x".repeat(120));
            t.fails("the 121st", Worlds.NONE, () -> m.item(120, 0));
            Desk.template(m, "xx");
            t.fails("one of the template before", Worlds.NONE, () -> m.item(2, 0));
        });
        s.test("Promise 15", "Throws `IllegalArgumentException` if what is out of range", t -> {
            t.due("the first", 1, Worlds.busy().item(5, 0));
            t.due("the last", 1, Worlds.busy().item(3, 3));
            t.refusedFor("what", Worlds.ARGUMENT, Worlds::busy, (m, each) -> m.item(0, each), Worlds.beside(0, 3));
        });
    }

    private static void counts(Sentences s) {
        s.test("Promise 16", "Returns whether an item counts for a record: whether the conditions of all items with \"[\" in "
                + "which it is are true for the record, and, if it is such an item itself, also its own.", t -> {
            checkCounts(t, "a[0:b]c", "tfft", "tttt");
            checkCounts(t, "[!0:[0:a]b]", "tfft", "ffff");
            checkCounts(t, "[0:[!0:a]b]", "ffff", "tfft");
            checkCounts(t, "[0&1:a]", "ff", "ff");
            checkCounts(t, "[0:[0:[0:[0:a]]]]", "fffff", "ttttt");
            checkCounts(t, "[!1:[!1:[!1:[0:a]]]]", "tttff", "ttttt");
            checkCounts(t, "[0:[!1:[!1:[!1:a]]]]", "fffff", "ttttt");
            checkCounts(t, "[!1:[0:[!1:[!1:a]]]]", "tffff", "ttttt");
            checkCounts(t, "[!1:[!1:[0:[!1:a]]]]", "ttfff", "ttttt");
            checkCounts(t, "[0:][!0:]a", "ftt", "tft");
            checkCounts(t, "[1:[0:a]]b", "ffft", "ffft");
            checkCounts(t, "", "", "");
        });
        s.test("Promise 16", "Failures do not matter.", t -> {
            MailMerge m = Worlds.one(0, 0);
            m.setLimit(1);
            Desk.template(m, "{0}xxx@[!0:{1}y]");
            for (int item = 0; item < 8; item++) {
                t.due("item " + item, true, m.counts(0, item));
            }
            t.due("the letter fails", -3, m.preview(0));
            m.exclude(0, true);
            t.due("nor does an excluded group", true, m.counts(0, 0));
        });
        s.test("Promise 16", "Returns whether it counts.", t -> {
            t.due("it counts", true, Worlds.busy().counts(0, 1));
            t.due("it does not", false, Worlds.busy().counts(2, 1));
            t.leavesAll("asking", Worlds::busy, m -> m.counts(2, 1));
        });
    }

    /** Whether the items count for a record without fields, and for one with a name. */
    private static void checkCounts(Trial t, String text, String without, String with) {
        MailMerge m = Worlds.one(0, 0);
        Desk.add(m, 0, 0, "x");
        Desk.template(m, text);
        for (int item = 0; item < m.template(0); item++) {
            t.due("item " + item + " of " + text + " without", without.charAt(item) == 't', m.counts(0, item));
            t.due("item " + item + " of " + text + " with", with.charAt(item) == 't', m.counts(1, item));
        }
        t.due("items of " + text, without.length(), m.template(0));
    }

    private static void countsWrong(Sentences s) {
        s.test("Promise 16", "Throws `IndexOutOfBoundsException` if there is no such record", t -> {
            t.due("the last", true, Worlds.busy().counts(2, 0));
            RecordSentences.noSuchRecord(t, (m, each) -> m.counts(each, 0));
            RecordSentences.noSuchRecord(t, (m, each) -> m.counts(each, 120));
        });
        s.test("Promise 16", "Throws `NoSuchElementException` if there is no such item", t -> {
            t.due("the last", true, Worlds.busy().counts(0, 5));
            t.refusedFor("item", Worlds.NONE, Worlds::busy, (m, each) -> m.counts(0, each), Worlds.beside(0, 5));
            t.refusedFor("without items, item", Worlds.NONE, () -> Worlds.crowd(1), (m, each) -> m.counts(0, each), 0, -1);
        });
    }
}
