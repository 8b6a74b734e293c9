import java.util.NoSuchElementException;

/** Promises 23 to 32: runs, letters, failures and duplicates. */
public final class RunsTest {
    private static final Class<IllegalArgumentException> ARGUMENT = IllegalArgumentException.class;
    private static final Class<IllegalStateException> STATE = IllegalStateException.class;
    private static final Class<IndexOutOfBoundsException> INDEX = IndexOutOfBoundsException.class;
    private static final Class<NoSuchElementException> NONE = NoSuchElementException.class;
    private static final Class<UnsupportedOperationException> UNSUPPORTED = UnsupportedOperationException.class;
    private static final Class<ArithmeticException> ARITHMETIC = ArithmeticException.class;

    private static final Checks CHECKS = new Checks("RunsTest");

    public static void main(String[] args) {
        beforeAnyRun();
        letters();
        capitals();
        addressBlocks();
        wordsAndCounts();
        brackets();
        limits();
        reasonsInOrder();
        run();
        latestRunIsKept();
        letter();
        chain();
        kept();
        keptByText();
        keptByPolicy();
        preview();
        meanLength();
        share();
        isOrderFree();
        CHECKS.end();
    }

    private static void beforeAnyRun() {
        MailMerge m = new MailMerge();
        CHECKS.fails("run without records", STATE, m::run);
        m.addRecord(0, 0);
        CHECKS.fails("reason", STATE, () -> m.reason(0));
        CHECKS.fails("reason of none", STATE, () -> m.reason(9));
        CHECKS.fails("reasons", STATE, () -> m.reasons(9));
        CHECKS.fails("letter", STATE, () -> m.letter(9, -1));
        CHECKS.fails("chain", STATE, () -> m.chain(9, 0));
        CHECKS.fails("meanLength", STATE, m::meanLength);
        CHECKS.fails("share", STATE, m::share);
        CHECKS.same("kept", 0, m.kept(0));
        CHECKS.same("preview", 0, m.preview(0));
        CHECKS.same("isOrderFree", true, m.isOrderFree());
        m.snapshot();
        CHECKS.fails("still no run", STATE, () -> m.reason(0));
    }

    private static MailMerge withAnn() {
        MailMerge m = new MailMerge();
        Desk.add(m, 3, 12, "ann B. de X", "zed{|}`z", "1st way", "lima", "Peru");
        return m;
    }

    private static String letterOf(MailMerge m, String template) {
        Desk.template(m, template);
        m.run();
        return Desk.letterText(m, 0);
    }

    private static void letters() {
        MailMerge m = withAnn();
        Object[][] letters = {
            {"", ""}, {"Dear you, 1^2*3!", "Dear you, 1^2*3!"}, {"#", "12"}, {"a#b#", "a12b12"},
            {"{0}", "ann B. de X"}, {"{3}-{4}", "lima-Peru"}, {"<one|many>", "many"}, {"<|>", ""},
            {"x[g3:y]z", "xyz"}, {"x[g2:y]z", "xz"}, {"[0:[1:[!2:n]y]]{3^}", "yLima"},
            {":&=n<g|h>", ":&=nh"},
        };
        for (Object[] each : letters) {
            CHECKS.same("letter of " + each[0], each[1], letterOf(m, (String) each[0]));
            CHECKS.same("preview of " + each[0], ((String) each[1]).length(), m.preview(0));
        }
    }

    private static void capitals() {
        MailMerge m = withAnn();
        CHECKS.same("a capital first letter", "Ann B. de X", letterOf(m, "{0^}"));
        CHECKS.same("all capitals", "ANN B. DE X", letterOf(m, "{0*}"));
        CHECKS.same("only small letters change", "ZED{|}`Z", letterOf(m, "{1*}"));
        CHECKS.same("a capital z", "Zed{|}`z", letterOf(m, "{1^}"));
        CHECKS.same("no letter at first", "1st way", letterOf(m, "{2^}"));
        CHECKS.same("capitals behind a digit", "1ST WAY", letterOf(m, "{2*}"));
        CHECKS.same("a capital already", "Peru", letterOf(m, "{4^}"));
        Desk.field(m, 0, 0, "{az`");
        CHECKS.same("not next to the small letters", "{az`", letterOf(m, "{0^}"));
        CHECKS.same("from a to z", "{AZ`", letterOf(m, "{0*}"));
    }

    private static void addressBlocks() {
        MailMerge m = withAnn();
        CHECKS.same("all lines", "ann B. de X/zed{|}`z/1st way/lima/Peru", letterOf(m, "@"));
        Desk.home(m, "PERU");
        CHECKS.same("at home", ":ann B. de X/zed{|}`z/1st way/lima:", letterOf(m, ":@:"));
        Desk.field(m, 0, 0, "");
        Desk.field(m, 0, 2, "");
        CHECKS.same("gaps", "zed{|}`z/lima", letterOf(m, "@"));
        Desk.field(m, 0, 1, "");
        CHECKS.same("one line", "lima", letterOf(m, "@"));
        Desk.field(m, 0, 3, "");
        Desk.template(m, "ab@");
        CHECKS.same("no lines but the home country", 0, m.run());
        CHECKS.same("a field is missing", 3, m.reason(0));
        CHECKS.same("at its place", "2", Desk.chain(m, 0));
        Desk.home(m, "Per");
        CHECKS.same("the country is not left out", "abPeru", letterOf(m, "ab@"));
        CHECKS.same("twice", "PeruPeru", letterOf(m, "@@"));
        Desk.field(m, 0, 4, "");
        Desk.home(m, "");
        Desk.template(m, "[0:@]x");
        CHECKS.same("where it does not count", 1, m.preview(0));
        Desk.field(m, 0, 3, "Peru");
        Desk.home(m, "Peru");
        CHECKS.same("a town is no country", "Peru", letterOf(m, "@"));
    }

    private static void wordsAndCounts() {
        MailMerge m = new MailMerge();
        int[] counts = {0, 1, 2, 9, 10, 11, 99};
        String[] due = {"0 items", "1 item", "2 items", "9 items", "10 items", "11 items", "99 items"};
        for (int i = 0; i < counts.length; i++) {
            m.addRecord(0, counts[i]);
        }
        Desk.template(m, "# <item|items>");
        CHECKS.same("all get letters", counts.length, m.run());
        for (int i = 0; i < counts.length; i++) {
            CHECKS.same("letter " + i, due[i], Desk.letterText(m, i));
        }
        Desk.template(m, "<!^*&: n|>");
        m.run();
        CHECKS.same("any literals", "!^*&: n", Desk.letterText(m, 1));
        CHECKS.same("none", "", Desk.letterText(m, 0));
    }

    private static void brackets() {
        MailMerge m = new MailMerge();
        Desk.add(m, 3, 5, "Ann");
        Desk.template(m, "a[0:b[1:c{1}]d]e[1:{1}@#]f[n>4:g[n>5:h]i]");
        CHECKS.same("letters", 1, m.run());
        CHECKS.same("only what counts", "abdefgi", Desk.letterText(m, 0));
        Desk.template(m, "[1:[0:x]y]z");
        m.run();
        CHECKS.same("what is within a false one is left out", "z", Desk.letterText(m, 0));
        Desk.template(m, "[1:][0:]x[1:[1:]]y");
        m.run();
        CHECKS.same("empty ones", "xy", Desk.letterText(m, 0));
    }

    private static void limits() {
        MailMerge m = new MailMerge();
        Desk.add(m, 0, 42, "Ann");
        Object[][] cases = {
            {"abcd", 4, 4, ""}, {"abcde", 4, -4, "4"}, {"ab{0}", 5, 5, ""}, {"ab{0}", 4, -4, "2"},
            {"ab#", 4, 4, ""}, {"ab#", 3, -4, "2"}, {"ab@", 5, 5, ""}, {"ab@", 4, -4, "2"},
            {"ab<|cd>", 4, 4, ""}, {"ab<x|cd>", 3, -4, "2"}, {"abc<x|>[0:][!0:d]", 3, 3, ""},
            {"ab[0:c[g0:d]]", 3, -4, "2 6 10"}, {"ab{1}", 2, -3, "2"}, {"abc{1}", 2, -4, "2"},
            {"[0:{1}]abc", 1, -3, "0 3"}, {"a[!1:[0:[g0:[n=42:@x]]]]", 1, -4, "1 5 8 12 18"},
            {"a", 1, 1, ""}, {"", 1, 0, ""},
        };
        for (Object[] each : cases) {
            Desk.template(m, (String) each[0]);
            m.setLimit((Integer) each[1]);
            String what = each[0] + " with " + each[1];
            int due = (Integer) each[2];
            CHECKS.same("preview of " + what, due, m.preview(0));
            CHECKS.same("letters of " + what, due < 0 ? 0 : 1, m.run());
            CHECKS.same("reason of " + what, due < 0 ? -due : 0, m.reason(0));
            if (due < 0) {
                CHECKS.same("chain of " + what, each[3], Desk.chain(m, 0));
            } else {
                CHECKS.same("length of " + what, due, m.letter(0, -1));
            }
        }
        longLetters();
    }

    private static void longLetters() {
        MailMerge m = new MailMerge();
        Desk.add(m, 0, 42, "abcdefghij");
        Desk.template(m, "{0}".repeat(10));
        CHECKS.same("100 at first", 100, m.preview(0));
        Desk.template(m, "{0}".repeat(10) + "x");
        CHECKS.same("101 is too long", -4, m.preview(0));
        m.setLimit(200);
        Desk.template(m, "{0}".repeat(20));
        CHECKS.same("200", 1, m.run());
        CHECKS.same("its text", "abcdefghij".repeat(20), Desk.letterText(m, 0));
        Desk.template(m, "{0}".repeat(20) + "#");
        CHECKS.same("202", 0, m.run());
        CHECKS.same("at the last item", "60", Desk.chain(m, 0));
        Desk.template(m, "{0}".repeat(40));
        CHECKS.same("400", -4, m.preview(0));
    }

    private static void reasonsInOrder() {
        MailMerge m = new MailMerge();
        Desk.add(m, 1, 1, "Ann", "x");
        Desk.add(m, 2, 1, "Ann", "x");
        Desk.add(m, 2, 1, "ann");
        Desk.add(m, 2, 1, "Bob");
        Desk.add(m, 2, 1, "Cy", "long firm");
        Desk.add(m, 2, 1, "Di", "firm");
        Desk.template(m, "{0}[!n>1:,{1}]");
        m.setKeys(1);
        m.exclude(1, true);
        m.setLimit(9);
        CHECKS.same("letters", 2, m.run());
        CHECKS.same("reasons", "102340", Desk.reasons(m, 6));
        int[] due = {2, 1, 1, 1, 1};
        for (int i = 0; i < due.length; i++) {
            CHECKS.same("how many " + i, due[i], m.reasons(i));
        }
        for (int wrong : new int[] {-1, 5, Integer.MIN_VALUE, Integer.MAX_VALUE}) {
            CHECKS.fails("reasons " + wrong, ARGUMENT, () -> m.reasons(wrong));
        }
        for (int wrong : new int[] {-1, 6, 20, Integer.MIN_VALUE, Integer.MAX_VALUE}) {
            CHECKS.fails("reason " + wrong, INDEX, () -> m.reason(wrong));
        }
        CHECKS.same("chain of the missing one", "3 10", Desk.chain(m, 3));
        CHECKS.same("chain of the long one", "3 10", Desk.chain(m, 4));
        m.setKeys(0);
        m.exclude(1, false);
        m.run();
        CHECKS.same("without keys and excluded groups", "003340", Desk.reasons(m, 6));
    }

    private static void run() {
        MailMerge m = new MailMerge();
        for (int i = 0; i < 20; i++) {
            m.addRecord(i / 2, i);
        }
        Desk.template(m, "#");
        CHECKS.same("20 letters", 20, m.run());
        CHECKS.same("their mean length", 1.5, m.meanLength());
        CHECKS.same("their share", 1f, m.share());
        m.exclude(0, true);
        m.exclude(9, true);
        CHECKS.same("16 letters", 16, m.run());
        CHECKS.same("the last", 1, m.reason(19));
        CHECKS.same("the one before", 0, m.reason(17));
        CHECKS.same("a run is no change", 8, m.setting(6));
        m.clear();
        CHECKS.fails("no records", STATE, m::run);
        CHECKS.same("the run before stays", 16, m.reasons(0));
    }

    private static void latestRunIsKept() {
        MailMerge m = new MailMerge();
        Desk.add(m, 1, 1, "Ann");
        Desk.add(m, 2, 2, "Bob");
        Desk.add(m, 3, 3);
        Desk.template(m, "{0}");
        m.exclude(2, true);
        m.snapshot();
        m.run();
        m.moveRecord(0, 2);
        m.removeRecord(0);
        Desk.template(m, "x");
        m.exclude(2, false);
        Desk.field(m, 0, 0, "Zoe");
        m.preview(0);
        m.isOrderFree();
        CHECKS.same("reasons after changes", "013", Desk.reasons(m, 3));
        CHECKS.same("letter after changes", "Ann", Desk.letterText(m, 0));
        CHECKS.same("chain after changes", "0", Desk.chain(m, 2));
        m.undo();
        m.restore();
        CHECKS.same("reasons after undo and restore", "013", Desk.reasons(m, 3));
        CHECKS.same("share after all that", 1f / 3f, m.share());
        CHECKS.same("mean length after all that", 3.0, m.meanLength());
        m.removeRecord(2);
        m.removeRecord(1);
        m.run();
        CHECKS.fails("only the records of the latest run", INDEX, () -> m.reason(1));
        CHECKS.same("reasons of one", 1, m.reasons(0));
        CHECKS.same("none missing now", 0, m.reasons(3));
    }

    private static void letter() {
        MailMerge m = new MailMerge();
        Desk.add(m, 0, 1, "Ann");
        Desk.add(m, 0, 1);
        Desk.add(m, 1, 1, "Bob");
        Desk.add(m, 0, 1, "Theodora");
        Desk.add(m, 0, 1, "ANN");
        Desk.template(m, "Hi {0}");
        m.exclude(1, true);
        m.setKeys(1);
        m.setLimit(10);
        m.run();
        CHECKS.same("length", 6, m.letter(0, -1));
        CHECKS.same("first", (int) 'H', m.letter(0, 0));
        CHECKS.same("last", (int) 'n', m.letter(0, 5));
        for (int wrong : new int[] {-2, 6, 200, Integer.MIN_VALUE, Integer.MAX_VALUE}) {
            CHECKS.fails("index " + wrong, NONE, () -> m.letter(0, wrong));
        }
        for (int without : new int[] {1, 2, 3, 4}) {
            CHECKS.fails("no letter " + without, UNSUPPORTED, () -> m.letter(without, 99));
        }
        CHECKS.same("all reasons", "03142", Desk.reasons(m, 5));
        for (int wrong : new int[] {-1, 5, Integer.MIN_VALUE, Integer.MAX_VALUE}) {
            CHECKS.fails("record " + wrong, INDEX, () -> m.letter(wrong, -1));
        }
        Desk.template(m, "");
        m.run();
        CHECKS.same("an empty letter", 0, m.letter(0, -1));
        CHECKS.fails("no character", NONE, () -> m.letter(0, 0));
    }

    private static void chain() {
        MailMerge m = new MailMerge();
        Desk.add(m, 0, 1, "Ann");
        Desk.add(m, 0, 1);
        Desk.add(m, 1, 1, "Bob");
        Desk.add(m, 0, 1, "Theodora");
        Desk.add(m, 0, 1, "ANN");
        Desk.template(m, "a[n>0:[!1:[n=1:[!n=2:<b|>{0}]]]]");
        m.exclude(1, true);
        m.setKeys(1);
        m.setLimit(9);
        m.run();
        CHECKS.same("all reasons", "03142", Desk.reasons(m, 5));
        CHECKS.same("a field is missing", "1 6 10 15 25", Desk.chain(m, 1));
        CHECKS.same("too long", "1 6 10 15 25", Desk.chain(m, 3));
        for (int wrong : new int[] {-1, 5, Integer.MIN_VALUE, Integer.MAX_VALUE}) {
            CHECKS.fails("index " + wrong, NONE, () -> m.chain(1, wrong));
        }
        for (int without : new int[] {0, 2, 4}) {
            CHECKS.fails("no failure " + without, UNSUPPORTED, () -> m.chain(without, 0));
        }
        for (int wrong : new int[] {-1, 5, Integer.MIN_VALUE, Integer.MAX_VALUE}) {
            CHECKS.fails("record " + wrong, INDEX, () -> m.chain(wrong, 0));
        }
        Desk.template(m, "[0:a][!0:b]{0}");
        m.run();
        CHECKS.same("closed ones are not in it", "11", Desk.chain(m, 1));
        CHECKS.fails("a shorter chain than before", NONE, () -> m.chain(1, 1));
    }

    private static void kept() {
        MailMerge m = new MailMerge();
        Desk.add(m, 1, 5, "Ann", "x");
        Desk.add(m, 2, 7, "ANN", "y");
        Desk.add(m, 1, 7, "ann", "x");
        Desk.add(m, 1, 1, "Bob", "x");
        for (int i = 0; i < 4; i++) {
            CHECKS.same("itself without keys", i, m.kept(i));
        }
        m.setKeys(1);
        CHECKS.same("the first", "0 0 0 3", keptOfAll(m));
        m.setPolicy(1);
        CHECKS.same("the last", "2 2 2 3", keptOfAll(m));
        m.setPolicy(2);
        CHECKS.same("the greatest count", "1 1 1 3", keptOfAll(m));
        m.setKeys(3);
        CHECKS.same("two keys", "2 1 2 3", keptOfAll(m));
        m.setKeys(2);
        CHECKS.same("the other key", "2 1 2 2", keptOfAll(m));
        m.setKeys(1);
        m.exclude(2, true);
        CHECKS.fails("excluded", UNSUPPORTED, () -> m.kept(1));
        CHECKS.same("excluded ones are no duplicates", 2, m.kept(0));
        m.setKeys(0);
        CHECKS.fails("excluded without keys", UNSUPPORTED, () -> m.kept(1));
        for (int wrong : new int[] {-1, 4, Integer.MIN_VALUE, Integer.MAX_VALUE}) {
            CHECKS.fails("record " + wrong, INDEX, () -> m.kept(wrong));
        }
        CHECKS.fails("no run by that", STATE, () -> m.reason(0));
    }

    private static String keptOfAll(MailMerge m) {
        StringBuilder kept = new StringBuilder();
        for (int i = 0; i < m.setting(0); i++) {
            kept.append(i == 0 ? "" : " ").append(m.kept(i));
        }
        return kept.toString();
    }

    private static void keptByText() {
        MailMerge m = new MailMerge();
        String[] names = {"Ann", "Anne", "an", "", "", "A[{", "a{{", "a[{", "ann "};
        for (String each : names) {
            Desk.add(m, 0, 0, each);
        }
        m.setKeys(1);
        CHECKS.same("same texts", "0 1 2 3 3 5 6 5 8", keptOfAll(m));
        m.setKeys(16);
        CHECKS.same("empty fields are the same", "0 0 0 0 0 0 0 0 0", keptOfAll(m));
        Desk.field(m, 4, 4, "Peru");
        CHECKS.same("but for one", "0 0 0 0 4 0 0 0 0", keptOfAll(m));
    }

    private static void keptByPolicy() {
        MailMerge m = new MailMerge();
        int[] counts = {3, 8, 2, 8, 1};
        for (int each : counts) {
            m.addRecord(each % 3, each);
        }
        m.setKeys(31);
        m.setPolicy(2);
        CHECKS.same("of several greatest ones the first", 1, m.kept(4));
        Desk.template(m, "#");
        CHECKS.same("one letter", 1, m.run());
        CHECKS.same("its record", "20222", Desk.reasons(m, 5));
        m.exclude(2, true);
        CHECKS.same("the greatest of the others", 0, m.kept(4));
        m.setPolicy(1);
        m.run();
        CHECKS.same("reasons by the last", "21110", Desk.reasons(m, 5));
        m.setPolicy(0);
        m.run();
        CHECKS.same("reasons by the first", "01112", Desk.reasons(m, 5));
    }

    private static void preview() {
        MailMerge m = new MailMerge();
        Desk.add(m, 1, 1, "Ann");
        Desk.add(m, 1, 1, "Ann");
        m.addRecord(2, 1);
        Desk.template(m, "Hi {0}");
        m.setKeys(1);
        m.setPolicy(1);
        m.exclude(1, true);
        CHECKS.same("excluded all the same", 6, m.preview(0));
        m.exclude(1, false);
        CHECKS.same("another one is kept all the same", 6, m.preview(0));
        CHECKS.same("missing", -3, m.preview(2));
        m.setLimit(5);
        CHECKS.same("too long", -4, m.preview(1));
        CHECKS.same("missing first", -3, m.preview(2));
        m.setLimit(2);
        CHECKS.same("too long first", -4, m.preview(2));
        for (int wrong : new int[] {-1, 3, Integer.MIN_VALUE, Integer.MAX_VALUE}) {
            CHECKS.fails("record " + wrong, INDEX, () -> m.preview(wrong));
        }
        CHECKS.fails("a preview is no run", STATE, () -> m.reason(0));
    }

    private static void meanLength() {
        MailMerge m = new MailMerge();
        Desk.add(m, 0, 0, "Ann");
        Desk.add(m, 0, 0, "Theo");
        Desk.add(m, 0, 0, "Bo");
        m.addRecord(0, 0);
        Desk.add(m, 1, 0, "Excluded");
        m.exclude(1, true);
        Desk.template(m, "{0}");
        m.run();
        CHECKS.same("mean of three", 3.0, m.meanLength());
        Desk.field(m, 2, 0, "Bob");
        m.run();
        CHECKS.same("a mean that is no whole number", 10.0 / 3.0, m.meanLength());
        m.removeRecord(2);
        m.removeRecord(0);
        m.run();
        CHECKS.same("of fewer letters than before", 4.0, m.meanLength());
        Desk.template(m, "");
        m.run();
        CHECKS.same("empty letters", 0.0, m.meanLength());
        Desk.template(m, "{4}");
        CHECKS.same("no letters", 0, m.run());
        CHECKS.fails("no mean", ARITHMETIC, m::meanLength);
    }

    private static void share() {
        MailMerge m = new MailMerge();
        Desk.add(m, 0, 0, "Ann");
        m.addRecord(0, 0);
        m.addRecord(0, 0);
        m.run();
        CHECKS.same("all", 1f, m.share());
        Desk.template(m, "{0}");
        m.run();
        CHECKS.same("a third", 1f / 3f, m.share());
        m.removeRecord(2);
        CHECKS.same("of the records then", 1f / 3f, m.share());
        m.run();
        CHECKS.same("a half", 0.5f, m.share());
        m.removeRecord(0);
        m.run();
        CHECKS.same("none", 0f, m.share());
    }

    private static void isOrderFree() {
        MailMerge m = new MailMerge();
        Desk.add(m, 0, 5, "Ann", "x");
        Desk.add(m, 0, 5, "ann", "longer");
        Desk.add(m, 1, 4, "ANN");
        Desk.add(m, 2, 9, "Bob");
        Desk.template(m, "{1}");
        m.setKeys(1);
        CHECKS.same("the first", true, m.isOrderFree());
        m.setPolicy(1);
        CHECKS.same("the last", true, m.isOrderFree());
        m.setPolicy(2);
        String before = Desk.state(m);
        CHECKS.same("several greatest ones", false, m.isOrderFree());
        CHECKS.same("the state stays", before, Desk.state(m));
        CHECKS.same("no change", 8, m.setting(6));
        CHECKS.fails("no run is kept", STATE, () -> m.reason(0));
        m.setNumber(0, true, 6);
        CHECKS.same("one greatest", true, m.isOrderFree());
        m.setNumber(2, true, 6);
        CHECKS.same("two again", false, m.isOrderFree());
        m.exclude(1, true);
        CHECKS.same("one of them is excluded", true, m.isOrderFree());
        m.setNumber(1, true, 6);
        CHECKS.same("even where a letter fails", false, m.isOrderFree());
        m.setKeys(0);
        CHECKS.same("no keys", true, m.isOrderFree());
        m.setKeys(1);
        m.exclude(0, true);
        CHECKS.same("all of them are excluded", true, m.isOrderFree());
    }
}
