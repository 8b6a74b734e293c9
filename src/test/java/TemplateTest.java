import java.util.NoSuchElementException;

/** Promises 12 to 16: the template, its items and its errors. */
public final class TemplateTest {
    private static final Class<IllegalArgumentException> ARGUMENT = IllegalArgumentException.class;
    private static final Class<IndexOutOfBoundsException> INDEX = IndexOutOfBoundsException.class;
    private static final Class<NoSuchElementException> NONE = NoSuchElementException.class;

    private static final Checks CHECKS = new Checks("TemplateTest");

    public static void main(String[] args) {
        wellFormed();
        malformed();
        malformedStates();
        errorPosition();
        template();
        item();
        counts();
        conditions();
        CHECKS.end();
    }

    private static void wellFormed() {
        MailMerge m = new MailMerge();
        Object[][] templates = {
            {"", 0}, {"a", 1}, {" ~", 2}, {"!^*&:=gn0?", 10}, {"#", 1}, {"@", 1}, {"##@@", 4},
            {"{0}", 1}, {"{4}{3^}{2*}", 3}, {"<|>", 1}, {"<a|>", 1}, {"<|b>", 1}, {"<a b|!&:>x", 2},
            {"[0:]", 1}, {"[!4:a]", 2}, {"[g0:]", 1}, {"[!g9:]", 1}, {"[n<0:]", 1}, {"[n=9:]", 1},
            {"[n>99:]", 1}, {"[!n=10:]", 1}, {"[0&1&!2&g3&n>4:x]", 2}, {"[0:[1:[2:[3:a]b]c]d]", 8},
            {"[0:][1:][2:][3:][4:]", 5}, {"[0:[1:[2:[3:]]]][0:[1:[2:[3:]]]]", 8}, {"[0:a:b&c]", 6},
            {"[0:#@{1*}<x|y>]", 5},
        };
        for (Object[] each : templates) {
            CHECKS.same("items of " + each[0], each[1], Desk.template(m, (String) each[0]));
            CHECKS.same("the buffer after " + each[0], 0, m.setting(5));
            CHECKS.same("number of items of " + each[0], each[1], m.template(0));
        }
        CHECKS.same("120 literals", 120, Desk.template(m, "x".repeat(120)));
        CHECKS.same("30 items with [", 30, Desk.template(m, "[0:]".repeat(30)));
        CHECKS.same("an empty text", 0, m.setTemplate());
        CHECKS.same("no items then", 0, m.template(0));
        CHECKS.fails("no error so far", NONE, m::errorPosition);
    }

    private static void malformed() {
        Object[][] errors = {
            {"/", 0}, {"ab/", 2}, {"}", 0}, {">", 0}, {"|", 0}, {"]", 0}, {"a]b", 1}, {"[0:]]", 4},
            {"{", 1}, {"{5}", 1}, {"{a}", 1}, {"{}", 1}, {"{0", 2}, {"{0x}", 2}, {"{0^", 3}, {"{0^*}", 3},
            {"{0**}", 3}, {"{00}", 2}, {"{-1}", 1}, {"{!0}", 1},
            {"<", 1}, {"<a", 2}, {"<a>", 2}, {"<a|", 3}, {"<a|b", 4}, {"<a|b|c>", 4}, {"<#|b>", 1},
            {"<a|{0}>", 3}, {"<a|[", 3}, {"<a<", 2}, {"<a/", 2}, {"<a|@", 3}, {"<a]", 2},
            {"[", 1}, {"[]", 1}, {"[:]", 1}, {"[5:]", 1}, {"[0", 2}, {"[0]", 2}, {"[0:", 3}, {"[0:a", 4},
            {"[!", 2}, {"[!!0:]", 2}, {"[!5:]", 2}, {"[0&", 3}, {"[0&:]", 3}, {"[&0:]", 1}, {"[0!:]", 2},
            {"[00:]", 2}, {"[0,1:]", 2}, {"[g", 2}, {"[g:]", 2}, {"[ga:]", 2}, {"[g10:]", 3}, {"[g!1:]", 2},
            {"[n", 2}, {"[n5:]", 2}, {"[n!:]", 2}, {"[n<", 3}, {"[n<:]", 3}, {"[n<a:]", 3}, {"[n<=1:]", 3},
            {"[n=00:]", 4}, {"[n=05:]", 4}, {"[n>123:]", 5}, {"[n>12", 5}, {"[n>1", 4}, {"[n>-1:]", 3},
            {"{/}", 1}, {"[/:]", 1}, {"[g/:]", 2}, {"[n>/:]", 3}, {"[n>1/:]", 4}, {"{:}", 1}, {"[n>::]", 3},
            {"[n>1&", 5}, {"[a:]", 1}, {"[@:]", 1}, {"[ 0:]", 1}, {"[0 :]", 2},
            {"[0:[1:[2:[3:[4:]]]]]", 12}, {"[0:[1:[2:[3:[", 12}, {"[0:[1:[2:[3:]]]", 15},
            {"[0:[1:[2:[3:]a]b]c]d]", 20}, {"[0:[1:[2:[3:a/", 13}, {"[0:}", 3}, {"[0:|", 3}, {"[0:>", 3},
            {"a{0}#@<x|y>[0:]/", 15}, {"x".repeat(119) + "{", 120}, {"x".repeat(119) + "/", 119},
        };
        for (Object[] each : errors) {
            MailMerge m = new MailMerge();
            CHECKS.fails("template " + each[0], ARGUMENT, () -> Desk.template(m, (String) each[0]));
            CHECKS.same("error of " + each[0], each[1], m.errorPosition());
            CHECKS.same("the buffer after " + each[0], 0, m.setting(5));
        }
    }

    private static void malformedStates() {
        MailMerge m = new MailMerge();
        Desk.template(m, "a[1:{0}]");
        Desk.add(m, 0, 0, "Ann", "b");
        String before = Desk.state(m);
        int changes = m.setting(6);
        CHECKS.fails("malformed", ARGUMENT, () -> Desk.template(m, "[0:[1:{2}<a|b>]"));
        CHECKS.same("the template stays", before, Desk.state(m));
        CHECKS.same("no change", changes, m.setting(6));
        CHECKS.fails("a fifth [ at every place", ARGUMENT, () -> Desk.template(m, "[0:][0:[0:[0:[0:[0:"));
        CHECKS.same("its place", 16, m.errorPosition());
    }

    private static void errorPosition() {
        MailMerge m = new MailMerge();
        m.addRecord(0, 0);
        CHECKS.fails("none", NONE, m::errorPosition);
        CHECKS.fails("a template", ARGUMENT, () -> Desk.template(m, "abc{"));
        CHECKS.same("of the template", 4, m.errorPosition());
        Desk.template(m, "abc");
        Desk.field(m, 0, 0, "abc");
        Desk.home(m, "abc");
        CHECKS.same("kept when others are well formed", 4, m.errorPosition());
        CHECKS.fails("a field", ARGUMENT, () -> Desk.field(m, 0, 0, "ab/"));
        CHECKS.same("of the field", 2, m.errorPosition());
        CHECKS.fails("a home country", ARGUMENT, () -> Desk.home(m, "abcdefg/"));
        CHECKS.same("of the home country", 7, m.errorPosition());
        m.undo();
        m.snapshot();
        m.restore();
        m.clear();
        CHECKS.same("kept by undo, restore and clear", 7, m.errorPosition());
        CHECKS.fails("at 0", ARGUMENT, () -> Desk.template(m, "]"));
        CHECKS.same("0 is a position", 0, m.errorPosition());
    }

    private static void checkTemplate(String text, int... numbers) {
        MailMerge m = new MailMerge();
        Desk.template(m, text);
        for (int what = 0; what < numbers.length; what++) {
            CHECKS.same("number " + what + " of " + text, numbers[what], m.template(what));
        }
    }

    private static void template() {
        checkTemplate("", 0, 0, 0, 0, 0);
        checkTemplate("a#@", 3, 3, 0, 0, 0);
        checkTemplate("{0}{2^}{4*}", 3, 11, 0, 21, 0);
        checkTemplate("[1:x]", 2, 5, 1, 2, 1);
        checkTemplate("[!3&g2&n>4:{0}]", 2, 15, 1, 9, 1);
        checkTemplate("[0:][0:[1:]][2:]", 4, 16, 2, 7, 4);
        checkTemplate("[0:[0:[0:[0:]]]]4<4|4>", 6, 22, 4, 1, 4);
        checkTemplate("[g4:g4]n", 4, 8, 1, 0, 1);
        MailMerge m = new MailMerge();
        for (int wrong : new int[] {-1, 5, Integer.MIN_VALUE, Integer.MAX_VALUE}) {
            CHECKS.fails("template " + wrong, ARGUMENT, () -> m.template(wrong));
        }
    }

    private static void item() {
        MailMerge m = new MailMerge();
        Desk.template(m, "a#@{0^}<xy|z>[0&!n>10:b[1:{2}]c]d");
        int[][] items = {
            {0, 0, 0, -1}, {1, 1, 0, -1}, {2, 2, 0, -1}, {3, 3, 0, -1}, {4, 7, 0, -1}, {5, 13, 0, -1},
            {0, 22, 1, 5}, {5, 23, 1, 5}, {3, 26, 2, 7}, {0, 30, 1, 5}, {0, 32, 0, -1},
        };
        CHECKS.same("items", items.length, m.template(0));
        for (int i = 0; i < items.length; i++) {
            for (int what = 0; what < 4; what++) {
                CHECKS.same("item " + i + ", " + what, items[i][what], m.item(i, what));
            }
        }
        for (int wrong : new int[] {-1, 11, Integer.MIN_VALUE, Integer.MAX_VALUE}) {
            CHECKS.fails("item " + wrong, NONE, () -> m.item(wrong, 9));
        }
        for (int wrong : new int[] {-1, 4, Integer.MIN_VALUE, Integer.MAX_VALUE}) {
            CHECKS.fails("what " + wrong, ARGUMENT, () -> m.item(0, wrong));
        }
        Desk.template(m, "[0:[1:]][2:a]b");
        CHECKS.same("behind closed ones", 2, m.item(3, 3));
        CHECKS.same("the third [", -1, m.item(2, 3));
        CHECKS.same("outside again", 0, m.item(4, 2));
    }

    private static void counts() {
        MailMerge m = new MailMerge();
        Desk.add(m, 1, 5, "Ann");
        Desk.add(m, 1, 5, "", "Firm");
        Desk.add(m, 1, 5, "Ann", "Firm");
        Desk.template(m, "a[0:b[1:{4}]@]c");
        String[] due = {"tttfftt", "tffffft", "ttttttt"};
        for (int record = 0; record < due.length; record++) {
            for (int item = 0; item < m.template(0); item++) {
                CHECKS.same("item " + item + " for " + record, due[record].charAt(item) == 't',
                        m.counts(record, item));
            }
        }
        Desk.template(m, "[!0:[0:[g1:[n=5:x]]]]");
        CHECKS.same("an outer one decides", false, m.counts(0, 4));
        CHECKS.same("its own conditions are true", false, m.counts(0, 1));
        CHECKS.same("without a name", true, m.counts(1, 0));
        CHECKS.same("within it", false, m.counts(1, 2));
        for (int wrong : new int[] {-1, 3, Integer.MIN_VALUE, Integer.MAX_VALUE}) {
            CHECKS.fails("record " + wrong, INDEX, () -> m.counts(wrong, 99));
        }
        for (int wrong : new int[] {-1, 5, Integer.MIN_VALUE, Integer.MAX_VALUE}) {
            CHECKS.fails("item " + wrong, NONE, () -> m.counts(0, wrong));
        }
    }

    private static void conditions() {
        MailMerge m = new MailMerge();
        Desk.add(m, 3, 10, "", "b", "", "d", "");
        Object[][] conditions = {
            {"0", false}, {"!0", true}, {"1", true}, {"!1", false}, {"2", false}, {"3", true}, {"4", false},
            {"g3", true}, {"g2", false}, {"!g3", false}, {"!g0", true},
            {"n<10", false}, {"n<11", true}, {"n<9", false}, {"!n<10", true}, {"n=10", true}, {"n=1", false},
            {"n=11", false}, {"!n=10", false}, {"n>9", true}, {"n>10", false}, {"n>11", false}, {"!n>9", false},
            {"n<99", true}, {"n>0", true}, {"n=0", false},
            {"1&3", true}, {"1&0", false}, {"0&1", false}, {"1&3&g3&n=10&!0", true}, {"1&3&!g3&n=10", false},
            {"1&3&g3&n>10", false}, {"0&1&3", false},
        };
        for (Object[] each : conditions) {
            Desk.template(m, "[" + each[0] + ":x]");
            CHECKS.same("condition " + each[0], each[1], m.counts(0, 0));
            CHECKS.same("what is in " + each[0], each[1], m.counts(0, 1));
            CHECKS.same("letter with " + each[0], (Boolean) each[1] ? 1 : 0, m.preview(0));
        }
    }
}
