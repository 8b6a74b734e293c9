/** Mergers for tests of what a call leaves as it is. Each is made anew at every call. */
final class Worlds {
    static final Class<IllegalArgumentException> ARGUMENT = IllegalArgumentException.class;
    static final Class<IllegalStateException> STATE = IllegalStateException.class;
    static final Class<IndexOutOfBoundsException> INDEX = IndexOutOfBoundsException.class;
    static final Class<java.util.NoSuchElementException> NONE = java.util.NoSuchElementException.class;
    static final Class<UnsupportedOperationException> UNSUPPORTED = UnsupportedOperationException.class;
    static final Class<ArithmeticException> ARITHMETIC = ArithmeticException.class;

    private Worlds() {
    }

    /** Two numbers next to a range, and the farthest ones. */
    static int[] beside(int least, int greatest) {
        return new int[] {least - 1, greatest + 1, Integer.MIN_VALUE, Integer.MAX_VALUE};
    }

    static MailMerge busy() {
        return busyWith("rest");
    }

    /**
     * Three records, a template, other settings, 8 changes that can be undone, an error position, a run, and a
     * snapshot, all of them different; and a text in the buffer. The last record's group is excluded.
     */
    static MailMerge busyWith(String buffer) {
        MailMerge m = new MailMerge();
        Desk.add(m, 3, 1, "ann", "", "", "", "Peru");
        Desk.add(m, 4, 12, "", "Bo");
        Desk.add(m, 3, 2, "ANN");
        Desk.template(m, "a[0:{0^}[!1:x]]#");
        Desk.home(m, "Lima");
        m.setKeys(1);
        m.setPolicy(2);
        m.exclude(5, true);
        m.setLimit(6);
        malformed(m, "ab{");
        m.run();
        m.snapshot();
        m.setPolicy(1);
        m.exclude(4, true);
        m.moveRecord(2, 1);
        m.setNumber(0, true, 7);
        m.setKeys(17);
        m.setLimit(50);
        Desk.field(m, 1, 0, "Zoe");
        Desk.home(m, "peru");
        Desk.type(m, buffer);
        return m;
    }

    /** After a run in which five records had the reasons 0, 3, 4, 1 and 2. */
    static MailMerge ran() {
        MailMerge m = new MailMerge();
        Desk.add(m, 0, 1, "Ann");
        Desk.add(m, 0, 1);
        Desk.add(m, 0, 1, "Theodora");
        Desk.add(m, 1, 1, "Bob");
        Desk.add(m, 0, 1, "ANN");
        Desk.template(m, "Hi [!1:{0}]");
        m.exclude(1, true);
        m.setKeys(1);
        m.setLimit(10);
        m.run();
        return m;
    }

    /** After a run that made no letters. */
    static MailMerge ranInVain() {
        MailMerge m = new MailMerge();
        m.addRecord(0, 0);
        Desk.template(m, "{0}");
        m.run();
        return m;
    }

    /** So many records; their counts are their numbers. */
    static MailMerge crowd(int records) {
        MailMerge m = new MailMerge();
        for (int i = 0; i < records; i++) {
            m.addRecord(i % 10, i);
        }
        return m;
    }

    /** One record with these fields, from the name on. */
    static MailMerge one(int group, int count, String... fields) {
        MailMerge m = new MailMerge();
        Desk.add(m, group, count, fields);
        return m;
    }

    /** So many characters in the buffer. */
    static MailMerge typed(int characters) {
        MailMerge m = new MailMerge();
        Desk.type(m, "x".repeat(characters));
        return m;
    }

    /** The error position that a text has as a template. */
    static int malformed(MailMerge m, String text) {
        try {
            Desk.template(m, text);
        } catch (IllegalArgumentException e) {
            return m.errorPosition();
        }
        return -1;
    }

    /** The letter of the first record by a template, or "missing at" or "too long at" and the chain. */
    static String letter(MailMerge m, String template) {
        Desk.template(m, template);
        m.run();
        int reason = m.reason(0);
        if (reason == 0) {
            return Desk.letterText(m, 0);
        }
        return (reason == 3 ? "missing at " : reason == 4 ? "too long at " : "none at ") + Desk.chain(m, 0);
    }

    /** The counts of all records, one after the other. */
    static String counts(MailMerge m) {
        StringBuilder counts = new StringBuilder();
        for (int i = 0; i < m.setting(0); i++) {
            counts.append(i == 0 ? "" : " ").append(m.record(i, 1));
        }
        return counts.toString();
    }

    /** Who is kept of each record, one after the other; "-" for an excluded one. */
    static String kept(MailMerge m) {
        StringBuilder kept = new StringBuilder();
        for (int i = 0; i < m.setting(0); i++) {
            int record = i;
            String answer = Sight.answer(() -> m.kept(record));
            kept.append(i == 0 ? "" : " ").append(answer.equals("UnsupportedOperationException") ? "-" : answer);
        }
        return kept.toString();
    }
}
