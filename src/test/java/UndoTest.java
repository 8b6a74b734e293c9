import java.util.ArrayList;
import java.util.List;

/** Promises 33 to 35: undo and the snapshot. */
public final class UndoTest {
    private static final Class<IllegalArgumentException> ARGUMENT = IllegalArgumentException.class;
    private static final Class<IllegalStateException> STATE = IllegalStateException.class;
    private static final Class<IndexOutOfBoundsException> INDEX = IndexOutOfBoundsException.class;

    private static final Checks CHECKS = new Checks("UndoTest");

    public static void main(String[] args) {
        undoOfEachChange();
        undoOfMany();
        undoWhereNothingChanges();
        failuresAreNoChanges();
        undoLeavesTheRest();
        snapshot();
        snapshotOfNothing();
        restoreAndUndo();
        CHECKS.end();
    }

    /** A merger in which every change changes something; its 8 latest changes can be undone. */
    private static MailMerge prepared() {
        MailMerge m = new MailMerge();
        Desk.add(m, 3, 7, "bob", "x", "", "", "Peru");
        Desk.add(m, 4, 8, "ann", "y", "", "", "Chile");
        Desk.add(m, 5, 9, "cy");
        Desk.template(m, "a[0:{0}]@");
        return m;
    }

    private static void undoOfEachChange() {
        String due = Desk.state(prepared());
        List<Runnable> changes = new ArrayList<>();
        MailMerge[] current = new MailMerge[1];
        changes.add(() -> current[0].addRecord(1, 1));
        changes.add(() -> current[0].removeRecord(0));
        changes.add(() -> current[0].removeRecord(2));
        changes.add(() -> Desk.field(current[0], 1, 0, "zoe"));
        changes.add(() -> current[0].setNumber(1, false, 1));
        changes.add(() -> current[0].setNumber(1, true, 1));
        changes.add(() -> current[0].moveRecord(0, 2));
        changes.add(() -> current[0].sort(0, false));
        changes.add(() -> Desk.template(current[0], "x[1:y]"));
        changes.add(() -> Desk.home(current[0], "peru"));
        changes.add(() -> current[0].setKeys(3));
        changes.add(() -> current[0].setPolicy(1));
        changes.add(() -> current[0].exclude(4, true));
        changes.add(() -> current[0].setLimit(3));
        for (int i = 0; i < changes.size(); i++) {
            MailMerge m = prepared();
            current[0] = m;
            changes.get(i).run();
            CHECKS.same("change " + i + " changes", false, due.equals(Desk.state(m)));
            CHECKS.same("eight can be undone after " + i, 8, m.setting(6));
            CHECKS.same("undo of " + i, 7, m.undo());
            CHECKS.same("state after undo of " + i, due, Desk.state(m));
            CHECKS.same("seven can be undone after " + i, 7, m.setting(6));
        }
    }

    private static void undoOfMany() {
        for (int changes = 1; changes <= 20; changes++) {
            MailMerge m = new MailMerge();
            for (int i = 1; i <= changes; i++) {
                m.setLimit(i);
            }
            int can = Math.min(8, changes);
            CHECKS.same("can be undone of " + changes, can, m.setting(6));
            for (int i = 1; i <= can; i++) {
                CHECKS.same("left of " + changes, can - i, m.undo());
                int due = changes - i == 0 ? 100 : changes - i;
                CHECKS.same("limit after " + i + " of " + changes, due, m.setting(4));
            }
            CHECKS.fails("no more of " + changes, STATE, m::undo);
        }
        MailMerge m = new MailMerge();
        for (int i = 1; i <= 10; i++) {
            m.setLimit(i);
        }
        m.undo();
        m.undo();
        m.setLimit(50);
        CHECKS.same("after an undo others can come", 7, m.setting(6));
        m.undo();
        CHECKS.same("the one before it", 8, m.setting(4));
        m.undo();
        CHECKS.same("and before that", 7, m.setting(4));
        CHECKS.same("an undo is no change", 5, m.setting(6));
    }

    private static void undoWhereNothingChanges() {
        MailMerge m = new MailMerge();
        m.setKeys(0);
        m.setPolicy(0);
        m.exclude(0, false);
        m.setLimit(100);
        m.setHome();
        m.setTemplate();
        m.sort(0, true);
        CHECKS.same("all are changes", 7, m.setting(6));
        m.addRecord(0, 0);
        m.setField(0, 0);
        m.setNumber(0, true, 0);
        m.moveRecord(0, 0);
        CHECKS.same("no more than eight", 8, m.setting(6));
        m.undo();
        m.undo();
        m.undo();
        CHECKS.same("the record is still there", 1, m.setting(0));
        CHECKS.same("its addition is undone", 4, m.undo());
        CHECKS.same("no records", 0, m.setting(0));
    }

    private static void failuresAreNoChanges() {
        MailMerge m = new MailMerge();
        m.addRecord(0, 0);
        Desk.type(m, "a/");
        CHECKS.fails("addRecord", ARGUMENT, () -> m.addRecord(10, 0));
        CHECKS.fails("removeRecord", INDEX, () -> m.removeRecord(1));
        CHECKS.fails("moveRecord", INDEX, () -> m.moveRecord(0, 1));
        CHECKS.fails("sort", INDEX, () -> m.sort(5, true));
        CHECKS.fails("setField", INDEX, () -> m.setField(1, 0));
        CHECKS.fails("setField", ARGUMENT, () -> m.setField(0, 0));
        CHECKS.fails("setNumber", ARGUMENT, () -> m.setNumber(0, false, 10));
        CHECKS.fails("setTemplate", ARGUMENT, () -> Desk.template(m, "/"));
        CHECKS.fails("setHome", ARGUMENT, () -> Desk.home(m, "/"));
        CHECKS.fails("setKeys", ARGUMENT, () -> m.setKeys(32));
        CHECKS.fails("setPolicy", ARGUMENT, () -> m.setPolicy(3));
        CHECKS.fails("exclude", INDEX, () -> m.exclude(10, true));
        CHECKS.fails("setLimit", ARGUMENT, () -> m.setLimit(0));
        CHECKS.same("one change", 1, m.setting(6));
        m.append(0);
        m.run();
        m.snapshot();
        m.kept(0);
        m.preview(0);
        m.isOrderFree();
        CHECKS.same("these are none either", 1, m.setting(6));
        for (int i = 1; i < 20; i++) {
            m.addRecord(0, 0);
        }
        CHECKS.same("eight", 8, m.setting(6));
        m.undo();
        m.addRecord(0, 0);
        CHECKS.fails("a 21st", STATE, () -> m.addRecord(0, 0));
        m.undo();
        CHECKS.same("the 20th is undone", 19, m.setting(0));
    }

    private static void undoLeavesTheRest() {
        MailMerge m = prepared();
        m.run();
        m.setLimit(1);
        Desk.type(m, "rest");
        m.undo();
        CHECKS.same("the buffer", 4, m.setting(5));
        CHECKS.same("the latest run", "abobbob/x/Peru", Desk.letterText(m, 0));
        m.setField(2, 1);
        m.undo();
        CHECKS.same("what was read does not come back", 0, m.setting(5));
        CHECKS.same("but the field is as before", "", Desk.fieldText(m, 2, 1));
    }

    private static void snapshot() {
        MailMerge m = prepared();
        Desk.home(m, "peru");
        m.setKeys(3);
        m.setPolicy(2);
        m.exclude(3, true);
        m.setLimit(77);
        String due = Desk.state(m);
        Desk.type(m, "buffer");
        CHECKS.same("records of the snapshot", 3, m.snapshot());
        CHECKS.same("it changes nothing", 8, m.setting(6));
        CHECKS.same("the state stays", due, Desk.state(m));
        m.clear();
        m.addRecord(9, 9);
        m.run();
        CHECKS.same("restored", 3, m.restore());
        CHECKS.same("all of it", due, Desk.state(m));
        CHECKS.same("the buffer is no part of it", 6, m.setting(5));
        CHECKS.same("the latest run is no part of it", 1, m.reasons(0));
        CHECKS.fails("of one record", INDEX, () -> m.reason(1));
        m.setField(0, 0);
        m.setNumber(1, true, 55);
        m.removeRecord(2);
        m.sort(0, true);
        CHECKS.same("restored again", 3, m.restore());
        CHECKS.same("all of it again", due, Desk.state(m));
        m.removeRecord(0);
        CHECKS.same("replaced", 2, m.snapshot());
        m.clear();
        CHECKS.same("restored the other one", 2, m.restore());
        CHECKS.same("its names", "ann cy", Desk.names(m));
    }

    private static void snapshotOfNothing() {
        MailMerge m = new MailMerge();
        CHECKS.fails("none", STATE, m::restore);
        CHECKS.same("no records", 0, m.snapshot());
        m.addRecord(0, 0);
        CHECKS.same("back to none", 0, m.restore());
        CHECKS.same("no records then", 0, m.setting(0));
    }

    private static void restoreAndUndo() {
        MailMerge m = prepared();
        CHECKS.fails("no snapshot", STATE, m::restore);
        CHECKS.same("the changes stay then", 8, m.setting(6));
        m.snapshot();
        m.setLimit(5);
        m.undo();
        m.setLimit(6);
        m.restore();
        CHECKS.same("nothing can be undone", 0, m.setting(6));
        CHECKS.fails("undo", STATE, m::undo);
        m.setLimit(7);
        CHECKS.same("only the change since", 0, m.undo());
        CHECKS.same("the limit of the snapshot", 100, m.setting(4));
    }
}
