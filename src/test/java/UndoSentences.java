import java.util.ArrayList;
import java.util.List;
import java.util.Map;
import java.util.Set;
import java.util.function.Consumer;

/** The sentences of the promises 33 to 35: undo and the snapshot. */
final class UndoSentences {
    private UndoSentences() {
    }

    static void addTo(Sentences s) {
        undo(s);
        undoLeft(s);
        snapshot(s);
        restore(s);
        restored(s);
    }

    /** What an undo can never bring back, and what tells how many changes can be undone. */
    private static final Set<String> NOT_UNDONE = Set.of("buffer", "undoable", "undo 8", "left");

    private static void undo(Sentences s) {
        s.test("Promise 33", "Undoes the last change that can be undone: the records, the template and the settings are as "
                + "before it.", t -> {
            List<Consumer<MailMerge>> changes = StateSentences.eachChange();
            for (int i = 0; i < changes.size(); i++) {
                MailMerge m = Worlds.busyWith("x");
                changes.get(i).accept(m);
                m.undo();
                Set<String> differ = Sight.names(Sight.of(Worlds.busyWith("x")), Sight.of(m));
                differ.removeAll(NOT_UNDONE);
                t.due("what differs after undo of change " + i, Set.of(), differ);
            }
            MailMerge m = Worlds.busyWith("x");
            m.setField(0, 0);
            m.undo();
            t.due("the field", "ann", Desk.fieldText(m, 0, 0));
            t.due("the buffer is none of these: it stays empty", 0, m.setting(5));
            Desk.type(m, "abc");
            m.undo();
            t.due("or as full as it was", 3, m.setting(5));
            t.due("the error position is none of these", 3, m.errorPosition());
            t.due("nor is the latest run", Sight.of(Worlds.busy()).get("latest run"), Sight.of(m).get("latest run"));
        });
        s.test("Promise 33", "Undoes the last change that can be undone:", t -> {
            MailMerge m = new MailMerge();
            List<Map<String, String>> before = new ArrayList<>();
            for (int i = 0; i < 8; i++) {
                before.add(Sight.of(grown(i)));
            }
            for (int i = 7; i >= 0; i--) {
                m = grown(8);
                for (int j = 8; j > i; j--) {
                    m.undo();
                }
                t.due("as after " + i + " changes", "", Sight.difference(before.get(i), Sight.of(m)));
            }
        });
    }

    /** After so many changes of different kinds, up to 8. */
    private static MailMerge grown(int changes) {
        MailMerge m = new MailMerge();
        List<Consumer<MailMerge>> steps = List.of(x -> x.addRecord(1, 2), x -> Desk.field(x, 0, 0, "Ann"),
                x -> Desk.template(x, "[0:{0}]#"), x -> x.addRecord(3, 4), x -> x.moveRecord(1, 0),
                x -> x.setNumber(0, true, 9), x -> Desk.home(x, "Peru"), x -> x.removeRecord(0));
        for (int i = 0; i < changes; i++) {
            steps.get(i).accept(m);
        }
        return m;
    }

    private static void undoLeft(Sentences s) {
        s.test("Promise 33", "Returns the number of changes that can still be undone.", t -> {
            for (int changes = 1; changes <= 20; changes++) {
                MailMerge m = new MailMerge();
                for (int i = 1; i <= changes; i++) {
                    m.setLimit(i);
                }
                for (int left = Math.min(8, changes) - 1; left >= 0; left--) {
                    t.due("left of " + changes, left, m.undo());
                    t.due("can be undone", left, m.setting(6));
                }
            }
        });
        s.test("Promise 33", "Throws `IllegalStateException` if there is none", t -> {
            t.refused("of a new object", Worlds.STATE, MailMerge::new, MailMerge::undo);
            t.refused("after clear", Worlds.STATE, () -> {
                MailMerge m = Worlds.busy();
                m.clear();
                return m;
            }, MailMerge::undo);
            t.refused("after restore", Worlds.STATE, () -> {
                MailMerge m = Worlds.busy();
                m.restore();
                return m;
            }, MailMerge::undo);
            t.refused("after the eighth", Worlds.STATE, () -> {
                MailMerge m = Worlds.busy();
                for (int i = 0; i < 8; i++) {
                    m.undo();
                }
                return m;
            }, MailMerge::undo);
            t.due("the only one", 0, Worlds.crowd(1).undo());
        });
    }

    private static void snapshot(Sentences s) {
        s.test("Promise 34", "Takes a snapshot of the records, the template and the settings.", t -> {
            MailMerge m = Worlds.busy();
            m.snapshot();
            t.due("what it changes", Set.of("snapshot"), Sight.names(Sight.of(Worlds.busy()), Sight.of(m)));
            for (Consumer<MailMerge> each : StateSentences.eachChange()) {
                MailMerge changed = Worlds.busy();
                changed.snapshot();
                each.accept(changed);
                changed.restore();
                t.due("what differs after a change and restore", Set.of(), undoneBut(Worlds.busy(), changed));
            }
            m = Worlds.busy();
            m.snapshot();
            Desk.type(m, "more");
            m.clear();
            m.restore();
            t.due("the buffer is not in it", 8, m.setting(5));
        });
        s.test("Promise 34", "It replaces an earlier one.", t -> {
            MailMerge m = Worlds.crowd(2);
            m.snapshot();
            m.addRecord(0, 7);
            m.snapshot();
            m.clear();
            t.due("the later one", 3, m.restore());
            m.clear();
            m.snapshot();
            m.addRecord(0, 0);
            t.due("one without records", 0, m.restore());
        });
        s.test("Promise 34", "Returns the number of records.", t -> {
            for (int records : new int[] {0, 1, 19, 20}) {
                t.due("of " + records, records, Worlds.crowd(records).snapshot());
            }
        });
    }

    /** What differs but for the buffer, and the changes that could be undone. */
    private static Set<String> undoneBut(MailMerge before, MailMerge after) {
        Map<String, String> due = Sight.of(before);
        Map<String, String> got = Sight.of(after);
        Set<String> differ = Sight.names(due, got);
        differ.removeIf(each -> Set.of("buffer", "left", "snapshot").contains(each) || each.startsWith("undo"));
        return differ;
    }

    private static void restore(Sentences s) {
        s.test("Promise 35", "Restores all that from the snapshot, which stays available.", t -> {
            MailMerge m = Worlds.busy();
            m.snapshot();
            m.clear();
            for (int i = 0; i < 20; i++) {
                m.addRecord(9, 99);
            }
            m.restore();
            t.due("what differs", Set.of(), undoneBut(Worlds.busy(), m));
            m = Worlds.busy();
            t.due("the snapshot of before", 3, m.restore());
            String first = state(m);
            for (Consumer<MailMerge> each : StateSentences.eachChange()) {
                each.accept(m);
                t.due("once more", 3, m.restore());
                t.due("the same", first, state(m));
            }
            m = Worlds.busy();
            m.restore();
            t.due("the buffer stays", 4, m.setting(5));
            t.due("the error position stays", 3, m.errorPosition());
            t.due("the latest run stays", Sight.of(Worlds.busy()).get("latest run"), Sight.of(m).get("latest run"));
        });
        s.test("Promise 35", "After that no changes can be undone.", t -> {
            MailMerge m = Worlds.busy();
            m.restore();
            t.due("none", 0, m.setting(6));
            t.fails("undo", Worlds.STATE, m::undo);
            m.setLimit(7);
            t.due("the one since", 1, m.setting(6));
            t.due("none but that", 0, m.undo());
            t.due("the limit of the snapshot", 6, m.setting(4));
            t.fails("undo again", Worlds.STATE, m::undo);
            for (int i = 1; i <= 9; i++) {
                m.setLimit(i);
            }
            t.due("eight again", 8, m.setting(6));
        });
    }

    /** What restore brings back, by few calls. */
    private static String state(MailMerge m) {
        StringBuilder state = new StringBuilder();
        for (int what : new int[] {0, 1, 2, 3, 4, 7}) {
            state.append(m.setting(what)).append(' ');
        }
        state.append(m.template(0)).append(' ').append(m.template(1)).append(' ').append(Desk.names(m));
        return state.append(' ').append(Worlds.counts(m)).toString();
    }

    private static void restored(Sentences s) {
        s.test("Promise 35", "Returns the number of records.", t -> {
            for (int records : new int[] {0, 1, 19, 20}) {
                MailMerge m = Worlds.crowd(records);
                m.snapshot();
                m.clear();
                m.addRecord(0, 0);
                t.due("of " + records, records, m.restore());
                t.due("records", records, m.setting(0));
            }
        });
        s.test("Promise 35", "Throws `IllegalStateException` if there is no snapshot", t -> {
            t.refused("of a new object", Worlds.STATE, MailMerge::new, MailMerge::restore);
            t.refused("after changes and a run", Worlds.STATE, Worlds::ran, MailMerge::restore);
            MailMerge m = Worlds.crowd(1);
            t.fails("no snapshot yet", Worlds.STATE, m::restore);
            m.snapshot();
            m.clear();
            t.due("clear leaves it", 1, m.restore());
        });
    }
}
