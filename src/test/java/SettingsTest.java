/** Promises 17 to 22: the settings. */
public final class SettingsTest {
    private static final Class<IllegalArgumentException> ARGUMENT = IllegalArgumentException.class;
    private static final Class<IndexOutOfBoundsException> INDEX = IndexOutOfBoundsException.class;

    private static final Checks CHECKS = new Checks("SettingsTest");

    public static void main(String[] args) {
        setHome();
        setHomeWrong();
        setKeys();
        setPolicy();
        exclude();
        setLimit();
        setting();
        CHECKS.end();
    }

    private static void setHome() {
        MailMerge m = new MailMerge();
        Desk.add(m, 0, 0, "Ann", "", "", "", "Peru");
        Desk.template(m, "@");
        CHECKS.same("no home country at first", 8, m.preview(0));
        CHECKS.same("had none", 0, Desk.home(m, "PeRU"));
        CHECKS.same("the buffer is empty", 0, m.setting(5));
        CHECKS.same("its length", 4, m.setting(7));
        CHECKS.same("the home country is left out", 3, m.preview(0));
        CHECKS.same("had four", 4, Desk.home(m, "abcdefghijkl"));
        CHECKS.same("another one", 8, m.preview(0));
        CHECKS.same("had twelve", 12, m.setHome());
        CHECKS.same("none again", 0, m.setting(7));
        Desk.add(m, 0, 0, "Bob");
        CHECKS.same("an empty country without a home country", 1, m.record(1, 3));
        CHECKS.same("a change each", 8, m.setting(6));
    }

    private static void setHomeWrong() {
        MailMerge m = new MailMerge();
        Desk.home(m, "Peru");
        CHECKS.fails("a slash", ARGUMENT, () -> Desk.home(m, "Pe/ru"));
        CHECKS.same("its place", 2, m.errorPosition());
        CHECKS.same("the buffer is empty", 0, m.setting(5));
        CHECKS.fails("13 characters", ARGUMENT, () -> Desk.home(m, "abcdefghijklm"));
        CHECKS.same("the 13th", 12, m.errorPosition());
        CHECKS.same("the buffer is empty again", 0, m.setting(5));
        CHECKS.same("the home country stays", 4, m.setting(7));
        CHECKS.same("no change", 1, m.setting(6));
    }

    private static void setKeys() {
        MailMerge m = new MailMerge();
        CHECKS.same("none", 0, m.setKeys(31));
        CHECKS.same("all", 31, m.setKeys(4));
        CHECKS.same("now", 4, m.setting(1));
        for (int wrong : new int[] {-1, 32, Integer.MIN_VALUE, Integer.MAX_VALUE}) {
            CHECKS.fails("keys " + wrong, ARGUMENT, () -> m.setKeys(wrong));
        }
        CHECKS.same("as before", 4, m.setKeys(4));
        CHECKS.same("three changes", 3, m.setting(6));
        CHECKS.same("back to none", 4, m.setKeys(0));
    }

    private static void setPolicy() {
        MailMerge m = new MailMerge();
        CHECKS.same("the first", 0, m.setPolicy(2));
        CHECKS.same("the greatest", 2, m.setPolicy(1));
        CHECKS.same("now", 1, m.setting(2));
        for (int wrong : new int[] {-1, 3, Integer.MIN_VALUE, Integer.MAX_VALUE}) {
            CHECKS.fails("policy " + wrong, ARGUMENT, () -> m.setPolicy(wrong));
        }
        CHECKS.same("as before", 1, m.setPolicy(0));
        CHECKS.same("three changes", 3, m.setting(6));
    }

    private static void exclude() {
        MailMerge m = new MailMerge();
        CHECKS.same("not before", false, m.exclude(0, true));
        CHECKS.same("excluded already", true, m.exclude(0, true));
        CHECKS.same("another one", false, m.exclude(9, true));
        CHECKS.same("both", 513, m.setting(3));
        CHECKS.same("no more", true, m.exclude(0, false));
        CHECKS.same("not any more", false, m.exclude(0, false));
        CHECKS.same("one is left", 512, m.setting(3));
        for (int wrong : new int[] {-1, 10, 32, Integer.MIN_VALUE, Integer.MAX_VALUE}) {
            CHECKS.fails("group " + wrong, INDEX, () -> m.exclude(wrong, true));
        }
        CHECKS.same("as before", 512, m.setting(3));
        CHECKS.same("five changes", 5, m.setting(6));
    }

    private static void setLimit() {
        MailMerge m = new MailMerge();
        CHECKS.same("at first", 100, m.setLimit(1));
        CHECKS.same("the least", 1, m.setLimit(200));
        CHECKS.same("now", 200, m.setting(4));
        for (int wrong : new int[] {0, -1, 201, Integer.MIN_VALUE, Integer.MAX_VALUE}) {
            CHECKS.fails("limit " + wrong, ARGUMENT, () -> m.setLimit(wrong));
        }
        CHECKS.same("as before", 200, m.setLimit(7));
        CHECKS.same("three changes", 3, m.setting(6));
    }

    private static void setting() {
        MailMerge m = new MailMerge();
        m.addRecord(0, 0);
        m.addRecord(0, 0);
        m.setKeys(3);
        m.setPolicy(1);
        m.exclude(2, true);
        m.setLimit(9);
        Desk.home(m, "Chile");
        Desk.type(m, "abc/");
        int[] settings = {2, 3, 1, 4, 9, 4, 7, 5};
        for (int what = 0; what < settings.length; what++) {
            CHECKS.same("setting " + what, settings[what], m.setting(what));
        }
        for (int wrong : new int[] {-1, 8, Integer.MIN_VALUE, Integer.MAX_VALUE}) {
            CHECKS.fails("setting " + wrong, ARGUMENT, () -> m.setting(wrong));
        }
    }
}
