import java.util.function.IntUnaryOperator;

/** Short ways to use a merger in tests. */
final class Desk {
    private Desk() {
    }

    static void type(MailMerge merger, String text) {
        for (int i = 0; i < text.length(); i += 4) {
            merger.append(packed(text, i));
        }
    }

    /** Up to four characters from an index on; missing ones are bytes that are 0. */
    static int packed(String text, int from) {
        int packed = 0;
        for (int i = from; i < from + 4; i++) {
            packed = packed << 8 | (i < text.length() ? text.charAt(i) : 0);
        }
        return packed;
    }

    static int template(MailMerge merger, String text) {
        type(merger, text);
        return merger.setTemplate();
    }

    static int home(MailMerge merger, String text) {
        type(merger, text);
        return merger.setHome();
    }

    static int field(MailMerge merger, int record, int field, String text) {
        type(merger, text);
        return merger.setField(record, field);
    }

    /** Adds a record with these fields, from the name on. */
    static int add(MailMerge merger, int group, int count, String... fields) {
        int record = merger.addRecord(group, count);
        for (int i = 0; i < fields.length; i++) {
            field(merger, record, i, fields[i]);
        }
        return record;
    }

    static String fieldText(MailMerge merger, int record, int field) {
        return text(i -> merger.field(record, field, i));
    }

    static String letterText(MailMerge merger, int record) {
        return text(i -> merger.letter(record, i));
    }

    private static String text(IntUnaryOperator signs) {
        StringBuilder text = new StringBuilder();
        int length = signs.applyAsInt(-1);
        for (int i = 0; i < length; i++) {
            text.append((char) signs.applyAsInt(i));
        }
        return text.toString();
    }

    /** The names of all records, one after the other. */
    static String names(MailMerge merger) {
        StringBuilder names = new StringBuilder();
        for (int i = 0; i < merger.setting(0); i++) {
            names.append(i == 0 ? "" : " ").append(fieldText(merger, i, 0));
        }
        return names.toString();
    }

    /** The reasons of the latest run, one digit each. */
    static String reasons(MailMerge merger, int records) {
        StringBuilder reasons = new StringBuilder();
        for (int i = 0; i < records; i++) {
            reasons.append(merger.reason(i));
        }
        return reasons.toString();
    }

    /** The chain of a failure in the latest run. */
    static String chain(MailMerge merger, int record) {
        StringBuilder chain = new StringBuilder();
        for (int i = 0; i < 100; i++) {
            try {
                chain.append(i == 0 ? "" : " ").append(merger.chain(record, i));
            } catch (java.util.NoSuchElementException e) {
                return chain.toString().trim();
            }
        }
        return chain.toString();
    }

    /** All that undo and the snapshot bring back, as far as it can be asked for without a run. */
    static String state(MailMerge merger) {
        StringBuilder state = new StringBuilder();
        for (int what : new int[] {0, 1, 2, 3, 4, 7}) {
            state.append(merger.setting(what)).append(' ');
        }
        for (int i = 0; i < merger.setting(0); i++) {
            state.append('[').append(merger.record(i, 0)).append(' ').append(merger.record(i, 1)).append(' ');
            state.append(merger.record(i, 3)).append(' ').append(merger.preview(i));
            for (int field = 0; field < 5; field++) {
                state.append('/').append(fieldText(merger, i, field));
            }
            state.append(']');
        }
        for (int what = 0; what < 5; what++) {
            state.append(' ').append(merger.template(what));
        }
        for (int i = 0; i < merger.template(0); i++) {
            state.append(' ').append(merger.item(i, 0)).append('@').append(merger.item(i, 1));
        }
        return state.toString();
    }
}
