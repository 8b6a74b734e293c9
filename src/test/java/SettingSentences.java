/** The sentences of the promises 17 to 22: the settings. */
final class SettingSentences {
    private SettingSentences() {
    }

    static void addTo(Sentences s) {
        setHome(s);
        setHomeWrong(s);
        setKeys(s);
        setPolicy(s);
        exclude(s);
        setLimit(s);
        setting(s);
        settingOfFull(s);
    }

    private static void setHome(Sentences s) {
        s.test("Promise 17", "Makes the text in the input buffer the home country; if it is empty, there is none.", t -> {
            MailMerge m = Worlds.one(0, 0, "x", "", "", "", "abcdefghijkl");
            Desk.home(m, "ABCDEFGHIJKL");
            t.due("12 characters", 1, m.record(0, 3));
            Desk.home(m, "a");
            t.due("one character", 2, m.record(0, 3));
            Desk.field(m, 0, 4, "A");
            t.due("one character of the country", 1, m.record(0, 3));
            m.setHome();
            t.due("none", 2, m.record(0, 3));
            t.due("its length", 0, m.setting(7));
            Desk.field(m, 0, 4, "");
            t.due("an empty country is no line without a home country", 1, m.record(0, 3));
            t.due("a letter without a country", "x", Worlds.letter(m, "@"));
            Desk.home(m, " ");
            t.due("a blank is a home country", 1, m.setting(7));
        });
        s.test("Promise 17", "The buffer is empty afterwards in any case.", t -> {
            MailMerge m = new MailMerge();
            Desk.home(m, "Peru");
            t.due("after it succeeded", 0, m.setting(5));
            for (String each : new String[] {"/", "Pe/ru", "abcdefghijklm", "x".repeat(120)}) {
                t.fails(each, Worlds.ARGUMENT, () -> Desk.home(m, each));
                t.due("after " + each, 0, m.setting(5));
            }
        });
        s.test("Promise 17", "Returns the number of characters that the home country had.", t -> {
            MailMerge m = new MailMerge();
            int before = 0;
            for (int length : new int[] {0, 1, 12, 0, 12, 12, 5}) {
                t.due("before " + length, before, Desk.home(m, "abcdefghijkl".substring(0, length)));
                before = length;
            }
        });
    }

    private static void setHomeWrong(Sentences s) {
        s.test("Promise 17", "Throws `IllegalArgumentException` if the text has a \"/\" or more than 12 characters; the error "
                + "position is then kept for errorPosition", t -> {
            t.due("12 characters", 4, Worlds.busyWith("abcdefghijkl").setHome());
            Object[][] cases = {{"/", 0}, {"a/", 1}, {"a/b/c", 1}, {"abcdefghijk/", 11}, {"abcdefghijklm", 12},
                {"abcdefghijkl/", 12}, {"x".repeat(120), 12}};
            for (Object[] each : cases) {
                String text = (String) each[0];
                t.refusedBut(text, Worlds.ARGUMENT, () -> Worlds.busyWith(text), MailMerge::setHome,
                        "buffer " + text.length() + " -> 0, error 3 -> " + each[1]);
            }
        });
    }

    private static void setKeys(Sentences s) {
        s.test("Promise 18", "Sets the keys.", t -> {
            for (int keys = 0; keys < 32; keys++) {
                MailMerge m = new MailMerge();
                m.setKeys(31 - keys);
                m.setKeys(keys);
                t.due("keys", keys, m.setting(1));
            }
        });
        s.test("Promise 18", "- `keys`: the fields, as a bit mask, 0 to 31", t -> {
            for (int field = 0; field < 5; field++) {
                MailMerge m = Worlds.one(0, 0, "a", "a", "a", "a", "a");
                Desk.add(m, 0, 0, "b", "b", "b", "b", "b");
                Desk.field(m, 1, field, "a");
                m.setKeys(1 << field);
                t.due("the key alone that is the same", "0 0", Worlds.kept(m));
                m.setKeys(31 - (1 << field));
                t.due("all others", "0 1", Worlds.kept(m));
                m.setKeys(31);
                t.due("all", "0 1", Worlds.kept(m));
            }
        });
        s.test("Promise 18", "Returns the previous ones.", t -> {
            MailMerge m = new MailMerge();
            t.due("none", 0, m.setKeys(31));
            t.due("all", 31, m.setKeys(0));
            t.due("none again", 0, m.setKeys(0));
        });
        s.test("Promise 18", "Throws `IllegalArgumentException` if keys is out of range", t -> {
            t.due("the least", 17, Worlds.busy().setKeys(0));
            t.due("the greatest", 17, Worlds.busy().setKeys(31));
            t.refusedFor("keys", Worlds.ARGUMENT, Worlds::busy, MailMerge::setKeys, Worlds.beside(0, 31));
        });
    }

    private static void setPolicy(Sentences s) {
        s.test("Promise 19", "Sets the policy.", t -> {
            MailMerge m = Worlds.crowd(3);
            m.setNumber(1, true, 50);
            m.setKeys(1);
            int[] kept = {0, 2, 1};
            for (int policy = 2; policy >= 0; policy--) {
                m.setPolicy(policy);
                t.due("policy", policy, m.setting(2));
                t.due("kept by " + policy, kept[policy], m.kept(0));
            }
        });
        s.test("Promise 19", "- `policy`: the policy, 0 to 2", t -> {
            for (int policy = 0; policy <= 2; policy++) {
                MailMerge m = new MailMerge();
                t.due("before " + policy, 0, m.setPolicy(policy));
                t.due("policy", policy, m.setting(2));
            }
            t.refusedFor("policy", Worlds.ARGUMENT, MailMerge::new, MailMerge::setPolicy, -1, 3);
        });
        s.test("Promise 19", "Returns the previous one.", t -> {
            MailMerge m = new MailMerge();
            t.due("at first", 0, m.setPolicy(2));
            t.due("the greatest", 2, m.setPolicy(2));
            t.due("the same", 2, m.setPolicy(1));
            t.due("the middle one", 1, m.setPolicy(0));
        });
        s.test("Promise 19", "Throws `IllegalArgumentException` if there is no such policy", t ->
            t.refusedFor("policy", Worlds.ARGUMENT, Worlds::busy, MailMerge::setPolicy, Worlds.beside(0, 2)));
    }

    private static void exclude(Sentences s) {
        s.test("Promise 20", "Excludes a group, or does not exclude it any more.", t -> {
            for (int group = 0; group <= 9; group++) {
                MailMerge m = Worlds.crowd(10);
                m.exclude(group, true);
                t.due("excluded", 1 << group, m.setting(3));
                t.due("letters", 9, m.run());
                t.due("reason", 1, m.reason(group));
                m.exclude((group + 1) % 10, true);
                m.exclude(group, false);
                t.due("the other one", 1 << (group + 1) % 10, m.setting(3));
            }
        });
        s.test("Promise 20", "- `on`: whether it is excluded from now on", t -> {
            MailMerge m = Worlds.crowd(1);
            boolean[] settings = {false, true, true, false, false, true};
            for (boolean on : settings) {
                m.exclude(0, on);
                t.due("excluded", on ? 1 : 0, m.setting(3));
                t.due("letters", on ? 0 : 1, m.run());
            }
        });
        s.test("Promise 20", "Returns whether it was excluded before.", t -> {
            MailMerge m = new MailMerge();
            t.due("at first", false, m.exclude(9, false));
            t.due("not excluded", false, m.exclude(9, true));
            t.due("excluded", true, m.exclude(9, true));
            t.due("another one", false, m.exclude(0, true));
            t.due("still", true, m.exclude(9, false));
            t.due("no more", false, m.exclude(9, false));
            t.due("the other one still", true, m.exclude(0, true));
        });
        s.test("Promise 20", "Throws `IndexOutOfBoundsException` if there is no such group", t -> {
            t.due("the first", false, Worlds.busy().exclude(0, true));
            t.due("the last", false, Worlds.busy().exclude(9, true));
            t.refusedFor("group", Worlds.INDEX, Worlds::busy, (m, each) -> m.exclude(each, true), Worlds.beside(0, 9));
            t.refusedFor("group", Worlds.INDEX, Worlds::busy, (m, each) -> m.exclude(each, false), Worlds.beside(0, 9));
            t.refusedFor("a group that is one where bits wrap around", Worlds.INDEX, Worlds::busy,
                    (m, each) -> m.exclude(each, true), 32, -32, 35);
        });
    }

    private static void setLimit(Sentences s) {
        s.test("Promise 21", "Sets the limit.", t -> {
            MailMerge m = Worlds.one(0, 0);
            for (int limit = 1; limit <= 120; limit++) {
                m.setLimit(limit);
                t.due("limit", limit, m.setting(4));
            }
            m = Worlds.one(0, 0, "abcdefghij");
            for (int limit : new int[] {1, 2, 10, 99, 100, 101, 199, 200}) {
                m.setLimit(limit);
                String template = "{0}".repeat(limit / 10) + "x".repeat(limit % 10);
                Desk.template(m, template);
                t.due("as long as " + limit, limit, m.preview(0));
                Desk.template(m, template + "x");
                t.due("longer than " + limit, -4, m.preview(0));
            }
        });
        s.test("Promise 21", "Returns the previous one.", t -> {
            MailMerge m = new MailMerge();
            t.due("at first", 100, m.setLimit(1));
            t.due("the least", 1, m.setLimit(200));
            t.due("the greatest", 200, m.setLimit(200));
            t.due("the same", 200, m.setLimit(1));
        });
        s.test("Promise 21", "Throws `IllegalArgumentException` if the limit is not from 1 to 200", t -> {
            t.due("the least", 50, Worlds.busy().setLimit(1));
            t.due("the greatest", 50, Worlds.busy().setLimit(200));
            t.refusedFor("limit", Worlds.ARGUMENT, Worlds::busy, MailMerge::setLimit, Worlds.beside(1, 200));
            t.refusedFor("limit", Worlds.ARGUMENT, Worlds::busy, MailMerge::setLimit, -1);
        });
    }

    private static void setting(Sentences s) {
        s.test("Promise 22", "Returns a number of the settings.", t -> {
            for (int what = 0; what < 8; what++) {
                int one = what;
                t.leavesAll("what " + what, Worlds::busy, m -> m.setting(one));
            }
        });
        s.test("Promise 22", "- `what`: 0 for the records, 1 for the keys, 2 for the policy, 3 for the excluded groups, as a "
                + "bit mask, 4 for the limit, 5 for the characters in the buffer, 6 for the changes that can be undone, 7 "
                + "for the characters of the home country", t -> {
            MailMerge m = Worlds.crowd(2);
            int[] settings = {2, 0, 0, 0, 100, 0, 2, 0};
            checkSettings(t, m, settings);
            m.setKeys(9);
            settings[1] = 9;
            m.setPolicy(1);
            settings[2] = 1;
            m.exclude(2, true);
            m.exclude(9, true);
            settings[3] = 516;
            settings[6] = 6;
            checkSettings(t, m, settings);
            m.setLimit(9);
            settings[4] = 9;
            Desk.home(m, "Chile");
            settings[7] = 5;
            settings[6] = 8;
            Desk.type(m, "abc/");
            settings[5] = 4;
            checkSettings(t, m, settings);
            m.removeRecord(0);
            settings[0] = 1;
            checkSettings(t, m, settings);
            m.undo();
            settings[0] = 2;
            settings[6] = 7;
            checkSettings(t, m, settings);
        });
    }

    private static void checkSettings(Trial t, MailMerge m, int[] due) {
        for (int what = 0; what < due.length; what++) {
            t.due("setting " + what, due[what], m.setting(what));
        }
    }

    private static void settingOfFull(Sentences s) {
        s.test("Promise 22", "Returns the number.", t -> {
            MailMerge m = Worlds.crowd(20);
            m.setKeys(31);
            m.setPolicy(2);
            for (int group = 0; group <= 9; group++) {
                m.exclude(group, true);
            }
            m.setLimit(200);
            Desk.home(m, "abcdefghijkl");
            Desk.type(m, "x".repeat(120));
            checkSettings(t, m, new int[] {20, 31, 2, 1023, 200, 120, 8, 12});
            m.clear();
            checkSettings(t, m, new int[] {0, 0, 0, 0, 100, 120, 0, 0});
            m.setLimit(1);
            t.due("the least limit", 1, m.setting(4));
        });
        s.test("Promise 22", "Throws `IllegalArgumentException` if what is out of range", t -> {
            t.due("the first", 3, Worlds.busy().setting(0));
            t.due("the last", 4, Worlds.busy().setting(7));
            t.refusedFor("what", Worlds.ARGUMENT, Worlds::busy, MailMerge::setting, Worlds.beside(0, 7));
        });
    }
}
