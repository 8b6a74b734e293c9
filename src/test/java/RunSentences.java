import java.util.function.Supplier;

/** The sentences of the promises 23 to 32: runs, letters, failures, duplicates, means. */
final class RunSentences {
    private RunSentences() {
    }

    static void addTo(Sentences s) {
        run(s);
        reason(s);
        reasons(s);
        letter(s);
        letterWrong(s);
        chain(s);
        chainWrong(s);
        kept(s);
        keptWrong(s);
        preview(s);
        meanLength(s);
        share(s);
        isOrderFree(s);
        orders(s);
    }

    private static MailMerge ranWith(int records) {
        MailMerge m = Worlds.crowd(records);
        Desk.template(m, "#");
        m.run();
        return m;
    }

    /** A run that is kept, and no records any more. */
    private static MailMerge ranAndCleared() {
        MailMerge m = Worlds.ran();
        m.clear();
        return m;
    }

    private static void run(Sentences s) {
        s.test("Promise 23", "Makes a run.", t -> {
            MailMerge m = Worlds.ran();
            t.due("its reasons", "03412", Desk.reasons(m, 5));
            m.setLimit(20);
            t.due("the latest run stays", "03412", Desk.reasons(m, 5));
            m.run();
            t.due("another run", "03012", Desk.reasons(m, 5));
            t.due("its letter", "Hi Theodora", Desk.letterText(m, 2));
            m.clear();
            m.addRecord(0, 0);
            m.run();
            t.due("of one record", "0", Desk.reasons(m, 1));
            t.fails("it is all that there is", Worlds.INDEX, () -> m.reason(1));
            MailMerge again = Worlds.busy();
            again.run();
            t.due("a run is no change", 8, again.setting(6));
        });
        s.test("Promise 23", "Returns the number of letters.", t -> {
            t.due("one of five", 1, Worlds.ran().run());
            t.due("none", 0, Worlds.ranInVain().run());
            t.due("one of one", 1, Worlds.crowd(1).run());
            t.due("20 of 20", 20, Worlds.crowd(20).run());
            MailMerge m = Worlds.crowd(20);
            for (int group = 0; group < 10; group++) {
                m.exclude(group, true);
                t.due("without some groups", 18 - 2 * group, m.run());
            }
        });
        s.test("Promise 23", "Throws `IllegalStateException` if there are no records", t -> {
            t.refused("of a new object", Worlds.STATE, MailMerge::new, MailMerge::run);
            t.refused("after clear", Worlds.STATE, RunSentences::ranAndCleared, MailMerge::run);
            MailMerge m = Worlds.crowd(1);
            m.removeRecord(0);
            t.fails("after the last one is removed", Worlds.STATE, m::run);
            m.undo();
            t.due("after undo", 1, m.run());
        });
    }

    private static void reason(Sentences s) {
        s.test("Promise 24", "Returns the reason that the latest run found for a record.", t -> {
            for (int record = 0; record < 5; record++) {
                int one = record;
                t.due("of record " + record, "03412".charAt(record) - '0', Worlds.ran().reason(record));
                t.leavesAll("asking for " + record, Worlds::ran, m -> m.reason(one));
            }
        });
        s.test("Promise 24", "- `record`: the number that the record had then", t -> {
            MailMerge m = Worlds.ran();
            m.moveRecord(0, 4);
            t.due("after a move", "03412", Desk.reasons(m, 5));
            m.removeRecord(0);
            t.due("after a removal", "03412", Desk.reasons(m, 5));
            m.clear();
            t.due("after clear", "03412", Desk.reasons(m, 5));
        });
        s.test("Promise 24", "Returns the reason.", t -> {
            t.due("the least", 0, ranWith(20).reason(19));
            t.due("the greatest", 4, Worlds.ran().reason(2));
        });
        noRun(s, "Promise 24", (m, each) -> m.reason(each));
        noSuchRecordThen(s, "Promise 24", (m, each) -> m.reason(each));
    }

    /** The sentence on the call before any run, whatever its argument. */
    private static void noRun(Sentences s, String part, Trial.CallWith call) {
        s.test(part, "Throws `IllegalStateException` if there was no run", t -> {
            t.refusedFor("of a new object", Worlds.STATE, MailMerge::new, call, 0, -1, Integer.MIN_VALUE);
            t.refusedFor("with records", Worlds.STATE, () -> Worlds.crowd(20), call, 0, 19, 20);
            Supplier<MailMerge> previewed = () -> {
                MailMerge m = Worlds.crowd(2);
                m.preview(0);
                m.isOrderFree();
                m.kept(0);
                m.snapshot();
                m.restore();
                return m;
            };
            t.refusedFor("after calls that are no run", Worlds.STATE, previewed, call, 0);
            t.refusedFor("after a run that was refused", Worlds.STATE, () -> {
                MailMerge m = new MailMerge();
                t.fails("a run", Worlds.STATE, m::run);
                return m;
            }, call, 0);
        });
    }

    private static void noSuchRecordThen(Sentences s, String part, Trial.CallWith call) {
        s.test(part, "Throws `IndexOutOfBoundsException` if there was no such record", t -> {
            t.refusedFor("of five, record", Worlds.INDEX, Worlds::ran, call, Worlds.beside(0, 4));
            t.refusedFor("of 20, record", Worlds.INDEX, () -> ranWith(20), call, Worlds.beside(0, 19));
            t.refusedFor("of one, record", Worlds.INDEX, Worlds::ranInVain, call, Worlds.beside(0, 0));
            t.refusedFor("of five, though there are six now", Worlds.INDEX, () -> {
                MailMerge m = Worlds.ran();
                m.addRecord(0, 0);
                return m;
            }, call, 5);
            t.refusedFor("of one, after a run with 20", Worlds.INDEX, () -> {
                MailMerge m = ranWith(20);
                m.clear();
                m.addRecord(0, 0);
                m.run();
                return m;
            }, call, 1, 19);
        });
    }

    private static void reasons(Sentences s) {
        s.test("Promise 25", "Returns how many records had a reason in the latest run.", t -> {
            for (int reason = 0; reason <= 4; reason++) {
                int one = reason;
                t.due("reason " + reason, 1, Worlds.ran().reasons(reason));
                t.due("reason " + reason + " of 20", reason == 0 ? 20 : 0, ranWith(20).reasons(reason));
                t.leavesAll("asking for " + reason, Worlds::ran, m -> m.reasons(one));
            }
            MailMerge m = Worlds.ran();
            m.clear();
            t.due("records that are there no more", 1, m.reasons(3));
        });
        s.test("Promise 25", "- `reason`: the reason, 0 to 4", t -> {
            MailMerge m = Worlds.crowd(20);
            for (int i = 0; i < 20; i++) {
                Desk.field(m, i, 0, i < 5 ? "same" : "" + (char) ('a' + i));
            }
            Desk.template(m, "{0}[n>16:x][n=7:{1}][n=8:{2}]");
            m.setKeys(1);
            m.setLimit(1);
            m.exclude(9, true);
            m.run();
            t.due("all reasons", "42222003310000000441", Desk.reasons(m, 20));
            int[] due = {9, 2, 4, 2, 3};
            for (int reason = 0; reason <= 4; reason++) {
                t.due("reason " + reason, due[reason], m.reasons(reason));
            }
        });
        s.test("Promise 25", "Returns the number.", t -> {
            t.due("the least", 0, ranWith(20).reasons(4));
            t.due("the greatest", 20, ranWith(20).reasons(0));
        });
        noRun(s, "Promise 25", (m, each) -> m.reasons(each));
        s.test("Promise 25", "Throws `IllegalArgumentException` if there is no such reason", t -> {
            t.due("the first", 1, Worlds.ran().reasons(0));
            t.due("the last", 1, Worlds.ran().reasons(4));
            t.refusedFor("reason", Worlds.ARGUMENT, Worlds::ran, MailMerge::reasons, Worlds.beside(0, 4));
        });
    }

    private static void letter(Sentences s) {
        s.test("Promise 26", "Returns a character of a letter of the latest run, or its length.", t -> {
            MailMerge m = Worlds.ran();
            t.due("the letter", "Hi Ann", Desk.letterText(m, 0));
            t.leavesAll("a character", Worlds::ran, x -> x.letter(0, 0));
            t.leavesAll("a length", Worlds::ran, x -> x.letter(0, -1));
            Desk.template(m, "other");
            m.preview(0);
            m.preview(2);
            t.due("after a preview of another one", "Hi Ann", Desk.letterText(m, 0));
        });
        s.test("Promise 26", "- `record`: the number that the record had then", t -> {
            MailMerge m = ranWith(20);
            m.moveRecord(0, 19);
            m.removeRecord(5);
            for (int i = 0; i < 20; i++) {
                t.due("record " + i, "" + i, Desk.letterText(m, i));
            }
        });
        s.test("Promise 26", "- `index`: the index of the character, from 0, or -1 for the length", t -> {
            MailMerge m = Worlds.ran();
            for (int i = 0; i < 6; i++) {
                t.due("index " + i, (int) "Hi Ann".charAt(i), m.letter(0, i));
            }
            t.due("index -1", 6, m.letter(0, -1));
        });
        s.test("Promise 26", "Returns the code of the character or the length.", t -> {
            MailMerge m = Worlds.one(0, 0, " ~", "abcdefghij");
            m.setLimit(200);
            t.due("the lowest and the highest code", " ~", Worlds.letter(m, "{0}"));
            t.due("as codes", "32 126", m.letter(0, 0) + " " + m.letter(0, 1));
            Worlds.letter(m, "");
            t.due("an empty letter", 0, m.letter(0, -1));
            Desk.template(m, "{1}".repeat(20));
            m.run();
            t.due("a longest letter", 200, m.letter(0, -1));
            t.due("its last character", (int) 'j', m.letter(0, 199));
            t.fails("none behind it", Worlds.NONE, () -> m.letter(0, 200));
        });
        noRun(s, "Promise 26", (m, each) -> m.letter(each, -1));
        noSuchRecordThen(s, "Promise 26", (m, each) -> m.letter(each, -1));
    }

    private static void letterWrong(Sentences s) {
        s.test("Promise 26", "Throws `UnsupportedOperationException` if it got no letter", t -> {
            t.due("the one with a letter", 6, Worlds.ran().letter(0, -1));
            t.refusedFor("length of record", Worlds.UNSUPPORTED, Worlds::ran, (m, each) -> m.letter(each, -1), 1, 2, 3, 4);
            t.refusedFor("a character of record", Worlds.UNSUPPORTED, Worlds::ran, (m, each) -> m.letter(each, 0),
                    1, 2, 3, 4);
        });
        s.test("Promise 26", "Throws `NoSuchElementException` if index is neither -1 nor an index of the letter", t -> {
            t.due("the last index", (int) 'n', Worlds.ran().letter(0, 5));
            t.refusedFor("index", Worlds.NONE, Worlds::ran, (m, each) -> m.letter(0, each), Worlds.beside(-1, 5));
            t.refusedFor("of an empty letter, index", Worlds.NONE, () -> {
                MailMerge m = Worlds.crowd(1);
                m.run();
                return m;
            }, (m, each) -> m.letter(0, each), Worlds.beside(-1, -1));
            t.refusedFor("of a letter that is shorter than the one before, index", Worlds.NONE, () -> {
                MailMerge m = Worlds.ran();
                Desk.template(m, "xy");
                m.run();
                return m;
            }, (m, each) -> m.letter(0, each), 2, 5);
        });
    }

    private static void chain(Sentences s) {
        s.test("Promise 27", "Returns a place of the chain of a failure in the latest run.", t -> {
            MailMerge m = Worlds.ran();
            t.due("a missing field", "3 7", Desk.chain(m, 1));
            t.due("too long", "3 7", Desk.chain(m, 2));
            t.leavesAll("asking", Worlds::ran, x -> x.chain(1, 0));
            Desk.template(m, "{1}");
            m.preview(1);
            t.due("after a preview of another one", "3 7", Desk.chain(m, 1));
        });
        s.test("Promise 27", "- `record`: the number that the record had then", t -> {
            MailMerge m = Worlds.ran();
            m.moveRecord(1, 0);
            m.removeRecord(4);
            t.due("a missing field", "3 7", Desk.chain(m, 1));
            m.clear();
            t.due("after clear", "3 7", Desk.chain(m, 2));
        });
        s.test("Promise 27", "- `index`: the index in the chain, from 0", t -> {
            MailMerge m = Worlds.one(0, 0);
            Worlds.letter(m, "[!0:[!1:[!2:[!3:{0}]]]]");
            for (int i = 0; i < 5; i++) {
                t.due("index " + i, new int[] {0, 4, 8, 12, 16}[i], m.chain(0, i));
            }
        });
        s.test("Promise 27", "Returns the place.", t -> {
            MailMerge m = Worlds.ranInVain();
            t.due("the least", 0, m.chain(0, 0));
            m.setLimit(200);
            t.due("the greatest", "missing at 119", Worlds.letter(m, "x".repeat(119) + "@"));
            t.due("as a place", 119, m.chain(0, 0));
        });
        noRun(s, "Promise 27", (m, each) -> m.chain(each, 0));
        noSuchRecordThen(s, "Promise 27", (m, each) -> m.chain(each, 0));
    }

    private static void chainWrong(Sentences s) {
        s.test("Promise 27", "Throws `UnsupportedOperationException` if its reason is neither 3 nor 4", t -> {
            t.due("reason 3", 3, Worlds.ran().chain(1, 0));
            t.due("reason 4", 3, Worlds.ran().chain(2, 0));
            t.refusedFor("reasons 0, 1 and 2, record", Worlds.UNSUPPORTED, Worlds::ran, (m, each) -> m.chain(each, 0),
                    0, 3, 4);
        });
        s.test("Promise 27", "Throws `NoSuchElementException` if the chain has no such place", t -> {
            t.due("the last place", 7, Worlds.ran().chain(1, 1));
            t.refusedFor("index", Worlds.NONE, Worlds::ran, (m, each) -> m.chain(1, each), Worlds.beside(0, 1));
            t.refusedFor("of one place, index", Worlds.NONE, Worlds::ranInVain, (m, each) -> m.chain(0, each),
                    Worlds.beside(0, 0));
            Supplier<MailMerge> deep = () -> {
                MailMerge m = Worlds.one(0, 0);
                Worlds.letter(m, "[!0:[!1:[!2:[!3:{0}]]]]");
                return m;
            };
            t.refusedFor("of five places, index", Worlds.NONE, deep, (m, each) -> m.chain(0, each), Worlds.beside(0, 4));
            t.refusedFor("of a chain that is shorter than the one before, index", Worlds.NONE, () -> {
                MailMerge m = deep.get();
                Worlds.letter(m, "[!0:{1}]");
                return m;
            }, (m, each) -> m.chain(0, each), 2, 4);
        });
    }

    private static void kept(Sentences s) {
        s.test("Promise 28", "Returns the record that is kept of a record and its duplicates, by the present records and "
                + "settings.", t -> {
            MailMerge m = Worlds.ran();
            t.due("as in the run", "0 1 2 - 0", Worlds.kept(m));
            m.setPolicy(1);
            t.due("by another policy", "4 1 2 - 4", Worlds.kept(m));
            m.moveRecord(4, 1);
            t.due("in another order", "1 1 2 3 -", Worlds.kept(m));
            m.exclude(1, false);
            t.due("without excluded groups", "1 1 2 3 4", Worlds.kept(m));
            m.setNumber(1, false, 9);
            m.exclude(9, true);
            t.due("where the other one is excluded", "0 - 2 3 4", Worlds.kept(m));
            m.setKeys(2);
            t.due("by another key", "4 - 4 4 4", Worlds.kept(m));
            t.due("the run before stays", "03412", Desk.reasons(m, 5));
            t.leavesAll("asking", Worlds::busy, x -> x.kept(0));
        });
        s.test("Promise 28", "Returns the record that is kept, possibly itself; itself, too, if there are no keys.", t -> {
            for (int policy = 0; policy <= 2; policy++) {
                MailMerge m = Worlds.crowd(20);
                m.setPolicy(policy);
                for (int i = 0; i < 20; i++) {
                    t.due("without keys", i, m.kept(i));
                }
                m.setKeys(1);
                for (int i = 0; i < 20; i++) {
                    t.due("of 20 duplicates by policy " + policy, policy == 0 ? 0 : 19, m.kept(i));
                }
            }
            t.due("of one record", 0, Worlds.crowd(1).kept(0));
        });
    }

    private static void keptWrong(Sentences s) {
        s.test("Promise 28", "Throws `IndexOutOfBoundsException` if there is no such record", t -> {
            t.due("the last", 19, Worlds.crowd(20).kept(19));
            RecordSentences.noSuchRecord(t, MailMerge::kept);
            t.refusedFor("that there was in the latest run", Worlds.INDEX, RunSentences::ranAndCleared, MailMerge::kept, 0);
        });
        s.test("Promise 28", "Throws `UnsupportedOperationException` if its group is excluded", t -> {
            t.due("another group is excluded", 1, Worlds.busy().kept(1));
            t.refused("with keys", Worlds.UNSUPPORTED, Worlds::busy, m -> m.kept(2));
            for (int group = 0; group <= 9; group++) {
                int one = group;
                Supplier<MailMerge> world = () -> {
                    MailMerge m = Worlds.crowd(10);
                    m.exclude(one, true);
                    return m;
                };
                t.refused("group " + group + " without keys", Worlds.UNSUPPORTED, world, m -> m.kept(one));
                t.due("the group beside it", (group + 1) % 10, world.get().kept((group + 1) % 10));
                MailMerge m = world.get();
                m.exclude(one, false);
                t.due("not excluded any more", group, m.kept(group));
            }
        });
    }

    private static void preview(Sentences s) {
        s.test("Promise 29", "Returns the length that the letter of a record would have now, whether it is excluded, and "
                + "whichever duplicate is kept.", t -> {
            MailMerge m = Worlds.ran();
            m.setLimit(20);
            int[] due = {6, -3, 11, 6, 6};
            for (int i = 0; i < 5; i++) {
                t.due("now, record " + i, due[i], m.preview(i));
            }
            m.run();
            t.due("reasons for these", "03012", Desk.reasons(m, 5));
            Desk.template(m, "");
            for (int i = 0; i < 5; i++) {
                t.due("of no items, record " + i, 0, m.preview(i));
            }
            for (int i = 0; i < 5; i++) {
                int record = i;
                t.leavesAll("asking for " + i, Worlds::ran, x -> x.preview(record));
            }
            t.leavesAll("before a run", () -> Worlds.crowd(2), x -> x.preview(1));
        });
        s.test("Promise 29", "Returns the length, or -3 if a field is missing, or -4 if it would be too long.", t -> {
            MailMerge m = Worlds.one(0, 42, "abcdefghij");
            m.setLimit(200);
            Object[][] cases = {{"", 0}, {"x", 1}, {"{0}".repeat(20), 200}, {"{0}".repeat(20) + "x", -4}, {"{1}", -3},
                {"{0}".repeat(20) + "{1}", -3}, {"{0}".repeat(20) + "x{1}", -4}, {"{0}".repeat(19) + "#", 192},
                {"@".repeat(20), 200}, {"@".repeat(21), -4}};
            for (Object[] each : cases) {
                Desk.template(m, (String) each[0]);
                t.due("of " + each[0], each[1], m.preview(0));
            }
            m.setLimit(1);
            Desk.template(m, "<|x>");
            t.due("as long as the least limit", 1, m.preview(0));
            Desk.template(m, "#");
            t.due("longer than it", -4, m.preview(0));
        });
        s.test("Promise 29", "Throws `IndexOutOfBoundsException` if there is no such record", t -> {
            t.due("the last", 0, Worlds.crowd(20).preview(19));
            RecordSentences.noSuchRecord(t, MailMerge::preview);
            t.refusedFor("that there was in the latest run", Worlds.INDEX, RunSentences::ranAndCleared,
                    MailMerge::preview, 0);
        });
    }

    private static void meanLength(Sentences s) {
        s.test("Promise 30", "Returns the mean length of the letters of the latest run: the sum of their lengths divided by "
                + "their number, both converted to double.", t -> {
            for (int letters = 1; letters <= 20; letters++) {
                MailMerge m = ranWith(letters);
                int sum = letters <= 10 ? letters : 2 * letters - 10;
                t.due("of " + letters, (double) sum / (double) letters, m.meanLength());
            }
            t.due("of the letters alone", 6.0, Worlds.ran().meanLength());
            MailMerge m = ranWith(3);
            Desk.template(m, "long");
            m.removeRecord(0);
            t.due("of the latest run, not of the present records", 1.0, m.meanLength());
            t.leavesAll("asking", Worlds::ran, MailMerge::meanLength);
        });
        s.test("Promise 30", "Returns the mean.", t -> {
            MailMerge m = Worlds.crowd(20);
            m.run();
            t.due("of empty letters", 0.0, m.meanLength());
            m = Worlds.one(0, 0, "abcdefghij");
            m.setLimit(200);
            Worlds.letter(m, "{0}".repeat(20));
            t.due("the greatest", 200.0, m.meanLength());
        });
        s.test("Promise 30", "Throws `IllegalStateException` if there was no run", t -> {
            t.refused("of a new object", Worlds.STATE, MailMerge::new, MailMerge::meanLength);
            t.refused("with records", Worlds.STATE, () -> Worlds.crowd(3), MailMerge::meanLength);
        });
        s.test("Promise 30", "Throws `ArithmeticException` if it made no letters", t -> {
            t.refused("one without a field", Worlds.ARITHMETIC, Worlds::ranInVain, MailMerge::meanLength);
            t.refused("all are excluded", Worlds.ARITHMETIC, () -> {
                MailMerge m = ranWith(1);
                m.exclude(0, true);
                m.run();
                return m;
            }, MailMerge::meanLength);
            t.due("one empty letter", 0.0, justRan(1).meanLength());
        });
    }

    private static MailMerge justRan(int records) {
        MailMerge m = Worlds.crowd(records);
        m.run();
        return m;
    }

    private static void share(Sentences s) {
        s.test("Promise 31", "Returns the share of the records that got letters in the latest run: their number divided by "
                + "the number of records then, both converted to float.", t -> {
            for (int records = 1; records <= 20; records++) {
                for (int letters = 0; letters <= records; letters++) {
                    MailMerge m = new MailMerge();
                    for (int i = 0; i < records; i++) {
                        m.addRecord(i < letters ? 0 : 1, 0);
                    }
                    m.exclude(1, true);
                    m.run();
                    t.due(letters + " of " + records, (float) letters / (float) records, m.share());
                }
            }
            MailMerge m = Worlds.ran();
            m.removeRecord(1);
            t.due("of the records then", 0.2f, m.share());
            t.due("after clear", 0.2f, ranAndCleared().share());
            t.leavesAll("asking", Worlds::ran, MailMerge::share);
        });
        s.test("Promise 31", "Returns the share.", t -> {
            t.due("none", 0f, Worlds.ranInVain().share());
            t.due("all", 1f, justRan(20).share());
        });
        s.test("Promise 31", "Throws `IllegalStateException` if there was no run", t -> {
            t.refused("of a new object", Worlds.STATE, MailMerge::new, MailMerge::share);
            t.refused("with records", Worlds.STATE, () -> Worlds.crowd(3), MailMerge::share);
        });
    }

    /** Records of these groups and counts, of which those with the same name are duplicates; by a policy. */
    private static MailMerge duplicates(int policy, String names, int... counts) {
        MailMerge m = new MailMerge();
        for (int i = 0; i < counts.length; i++) {
            Desk.add(m, i, counts[i], "" + names.charAt(i));
        }
        Desk.template(m, "{0}");
        m.setKeys(1);
        m.setPolicy(policy);
        return m;
    }

    private static void isOrderFree(Sentences s) {
        s.test("Promise 32", "Runs the present records once more in the opposite order, with the policy 1 in place of 0 and 0 "
                + "in place of 1, and compares: each record must have the same reason as in a run in the present order, and "
                + "the same length of its letter, if it has one;", t -> {
            for (int policy = 0; policy <= 1; policy++) {
                t.due("three duplicates", true, duplicates(policy, "aaa", 5, 5, 5).isOrderFree());
                t.due("with others", true, duplicates(policy, "abaAB", 1, 2, 3, 4, 5).isOrderFree());
                t.due("with falling counts", true, duplicates(policy, "abaAB", 9, 8, 7, 6, 5).isOrderFree());
                MailMerge m = duplicates(policy, "aaaa", 1, 1, 1, 1);
                Desk.template(m, "[g0:x][g3:xx]{1}");
                t.due("where letters fail", true, m.isOrderFree());
                m.exclude(0, true);
                m.exclude(3, true);
                t.due("where some are excluded", true, m.isOrderFree());
                MailMerge crowd = Worlds.crowd(20);
                crowd.setKeys(31);
                crowd.setPolicy(policy);
                t.due("20 duplicates", true, crowd.isOrderFree());
            }
        });
        s.test("Promise 32", "with the policy 2, this can be different where several duplicates have the greatest count.",
                t -> {
            t.due("one greatest", true, duplicates(2, "aaa", 1, 9, 2).isOrderFree());
            t.due("two greatest", false, duplicates(2, "aaa", 9, 9, 2).isOrderFree());
            t.due("the first and the last", false, duplicates(2, "aba", 9, 1, 9).isOrderFree());
            t.due("two of the least", true, duplicates(2, "aaa", 0, 0, 1).isOrderFree());
            t.due("two that are no duplicates", true, duplicates(2, "abc", 9, 9, 9).isOrderFree());
            t.due("counts of 0", false, duplicates(2, "aa", 0, 0).isOrderFree());
            t.due("counts of 99", false, duplicates(2, "aa", 99, 99).isOrderFree());
            t.due("the second pair", false, duplicates(2, "abcbd", 9, 8, 7, 8, 6).isOrderFree());
            MailMerge m = duplicates(2, "aaa", 9, 9, 2);
            m.exclude(0, true);
            t.due("one of the two is excluded", true, m.isOrderFree());
            m.exclude(0, false);
            Desk.template(m, "{4}");
            t.due("both fail", false, m.isOrderFree());
            m.setKeys(0);
            t.due("without keys", true, m.isOrderFree());
        });
    }

    private static void orders(Sentences s) {
        s.test("Promise 32", "The state stays as it is.", t -> {
            t.leavesAll("of a busy one", Worlds::busy, MailMerge::isOrderFree);
            t.leavesAll("after a run", Worlds::ran, MailMerge::isOrderFree);
            t.leavesAll("of one that is not free", () -> duplicates(2, "aa", 9, 9), MailMerge::isOrderFree);
            t.leavesAll("of a new object", MailMerge::new, MailMerge::isOrderFree);
        });
        s.test("Promise 32", "Returns whether all records have the same reasons and lengths, also if there are no records.",
                t -> {
            t.due("no records", true, new MailMerge().isOrderFree());
            t.due("no records any more", true, ranAndCleared().isOrderFree());
            MailMerge m = new MailMerge();
            m.setPolicy(2);
            m.setKeys(1);
            t.due("no records with policy 2", true, m.isOrderFree());
            m.addRecord(0, 0);
            t.due("one record", true, m.isOrderFree());
            m.addRecord(0, 0);
            t.due("two with the same count", false, m.isOrderFree());
        });
    }
}
