import java.util.LinkedHashMap;
import java.util.LinkedHashSet;
import java.util.Map;
import java.util.Set;
import java.util.function.IntSupplier;

/**
 * All that can be seen of a merger, by a name each. It takes some 400 calls, those among them that undo all and
 * restore the snapshot, so that the merger is of no further use; of more than three records it looks at two and the
 * last one.
 */
final class Sight {
    private static final String[] SETTINGS =
            {"records", "keys", "policy", "excluded", "limit", "buffer", "undoable", "home"};

    private Sight() {
    }

    static Map<String, String> of(MailMerge m) {
        Map<String, String> seen = new LinkedHashMap<>();
        for (int what = 0; what < SETTINGS.length; what++) {
            seen.put(SETTINGS[what], "" + m.setting(what));
        }
        seen.put("error", answer(m::errorPosition));
        seen.put("template", template(m));
        for (int record : looked(m)) {
            seen.put("record " + record, record(m, record));
        }
        seen.put("order free", "" + m.isOrderFree());
        seen.put("latest run", latestRun(m));
        String next = answer(m::run);
        seen.put("next run", m.setting(0) == 0 ? next : next + " " + latestRun(m));
        int undoable = m.setting(6);
        StringBuilder left = new StringBuilder();
        for (int i = 1; i <= undoable; i++) {
            left.append(answer(m::undo)).append(' ');
            seen.put("undo " + i, brief(m));
        }
        seen.put("left", left + answer(m::undo));
        seen.put("snapshot", answer(m::restore) + brief(m));
        return seen;
    }

    /** What is different, as "name before -> after", one after the other; nothing if all is the same. */
    static String difference(Map<String, String> before, Map<String, String> after) {
        StringBuilder text = new StringBuilder();
        for (String each : names(before, after)) {
            text.append(text.length() == 0 ? "" : ", ").append(each).append(' ').append(before.get(each))
                    .append(" -> ").append(after.get(each));
        }
        return text.toString();
    }

    /** The names of what is different. */
    static Set<String> names(Map<String, String> before, Map<String, String> after) {
        Set<String> names = new LinkedHashSet<>(before.keySet());
        names.addAll(after.keySet());
        names.removeIf(each -> String.valueOf(before.get(each)).equals(after.get(each)));
        return names;
    }

    static String answer(IntSupplier call) {
        try {
            return "" + call.getAsInt();
        } catch (RuntimeException e) {
            return e.getClass().getSimpleName();
        }
    }

    private static int[] looked(MailMerge m) {
        int size = m.setting(0);
        return size == 0 ? new int[0] : size == 1 ? new int[] {0} : size == 2 ? new int[] {0, 1}
                : new int[] {0, 1, size - 1};
    }

    private static String template(MailMerge m) {
        StringBuilder text = new StringBuilder();
        for (int what = 0; what < 5; what++) {
            text.append(m.template(what)).append(' ');
        }
        int items = Math.min(8, m.template(0));
        for (int item = 0; item < items; item++) {
            text.append('(');
            for (int what = 0; what < 4; what++) {
                text.append(m.item(item, what)).append(' ');
            }
            text.append(')');
        }
        return text.toString();
    }

    private static String record(MailMerge m, int record) {
        StringBuilder text = new StringBuilder();
        for (int what = 0; what < 4; what++) {
            text.append(m.record(record, what)).append(' ');
        }
        for (int field = 0; field < 5; field++) {
            text.append(Desk.fieldText(m, record, field)).append('/');
        }
        text.append(m.preview(record)).append(' ').append(answer(() -> m.kept(record))).append(' ');
        int items = Math.min(8, m.template(0));
        for (int item = 0; item < items; item++) {
            text.append(m.counts(record, item) ? 't' : 'f');
        }
        return text.toString();
    }

    private static String latestRun(MailMerge m) {
        StringBuilder text = new StringBuilder();
        for (int reason = 0; reason < 5; reason++) {
            int one = reason;
            text.append(answer(() -> m.reasons(one))).append(' ');
        }
        for (int record = 0; record < 3; record++) {
            int one = record;
            String reason = answer(() -> m.reason(one));
            text.append(reason).append(' ');
            if (reason.equals("0")) {
                text.append(Desk.letterText(m, record)).append(' ');
            } else if (reason.equals("3") || reason.equals("4")) {
                text.append(Desk.chain(m, record)).append(' ');
            }
        }
        try {
            text.append(m.share()).append(' ').append(m.meanLength());
        } catch (RuntimeException e) {
            text.append(e.getClass().getSimpleName());
        }
        return text.toString();
    }

    private static String brief(MailMerge m) {
        StringBuilder text = new StringBuilder();
        for (int what : new int[] {0, 1, 2, 3, 4, 7}) {
            text.append(' ').append(m.setting(what));
        }
        text.append(' ').append(m.template(0)).append(' ').append(m.template(1));
        for (int record : looked(m)) {
            text.append(" (").append(m.record(record, 0)).append(' ').append(m.record(record, 1)).append(' ')
                    .append(answer(() -> m.field(record, 0, -1))).append(' ')
                    .append(answer(() -> m.field(record, 0, 0))).append(')');
        }
        return text.toString();
    }
}
