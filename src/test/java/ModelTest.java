import java.util.Random;
import java.util.concurrent.Callable;

/** Many runs of 512 random calls, always the same ones, and all short templates, compared with the model. */
public final class ModelTest {
    private static final int RUNS = 1500;
    private static final int CALLS = 512;
    private static final String[] TEXTS = {"", "a", "A", "ann", "Ann", "ANN", "anne", "bob smith", "Z{", "z[", "_x`",
        "abcdefghijkl", "ABCDEFGHIJKL", "abcdefghijklm", "ab/c", "/", "abcdefghijkl/", "Peru", "PERU", "1st", " a"};

    private static final String SIGNS = "a0/#{}<>|[]&:!gn=^5";
    private static final String[] BEFORE = {"", "[", "[n", "[n=", "[0&", "<", "{", "{0", "[0:[1:[2:[3:", "[0:[1:[2:[3:]", "a]"};

    private final Random random;
    private final MailMerge merger = new MailMerge();
    private final Model model = new Model();
    private final StringBuilder log = new StringBuilder();
    private int calls = 0;

    private ModelTest(long seed) {
        random = new Random(seed);
    }

    public static void main(String[] args) {
        Checks checks = new Checks("ModelTest");
        int failures = 0;
        for (int seed = 0; seed < RUNS && failures < 3; seed++) {
            ModelTest run = new ModelTest(seed);
            boolean isRight = run.goesWell();
            failures += isRight ? 0 : 1;
            checks.same("run " + seed + run.log, true, isRight);
        }
        for (String before : BEFORE) {
            checks.same("short templates after " + before, "", wrongTemplates(before));
        }
        checks.end();
    }

    /** The templates up to three signs behind a beginning for which the answers are not those of the model. */
    private static String wrongTemplates(String before) {
        StringBuilder wrong = new StringBuilder();
        ModelTest run = new ModelTest(0);
        int signs = SIGNS.length() + 1;
        for (int i = 0; i < signs * signs * signs; i++) {
            StringBuilder text = new StringBuilder(before);
            for (int rest = i; rest > 0; rest /= signs) {
                text.append(rest % signs == 0 ? "" : SIGNS.charAt(rest % signs - 1));
            }
            if (run.calls + text.length() / 4 + 6 > CALLS) {
                run = new ModelTest(0);
            }
            boolean isRight = run.types(text.toString(), true) && run.same("setTemplate") && run.same("errorPosition")
                    && run.same("template", 0) && run.same("template", 3);
            wrong.append(isRight || wrong.length() > 100 ? "" : " " + text);
        }
        return wrong.toString();
    }

    private boolean goesWell() {
        boolean isCrowded = random.nextBoolean();
        boolean isTame = random.nextInt(3) > 0;
        while (calls < CALLS) {
            int choice = random.nextInt(100);
            boolean isRight;
            if (choice < (isCrowded ? 12 : 5)) {
                isRight = same("addRecord", number(10, isTame), number(100, isTame));
            } else if (choice < 35) {
                isRight = readsText(isTame);
            } else if (choice < 55) {
                isRight = changes(isTame);
            } else {
                isRight = asks(isTame);
            }
            if (!isRight) {
                return false;
            }
        }
        log.setLength(0);
        return true;
    }

    private boolean readsText(boolean isTame) {
        int choice = random.nextInt(10);
        if (choice < 5) {
            return types(TEXTS[random.nextInt(TEXTS.length)], isTame)
                    && same("setField", record(isTame), isTame ? random.nextInt(3) : number(5, false));
        }
        if (choice < 9) {
            return types(template(), isTame) && same("setTemplate");
        }
        return types(TEXTS[random.nextInt(TEXTS.length)], isTame) && same("setHome");
    }

    private boolean types(String text, boolean isTame) {
        for (int i = 0; i < text.length() && calls < CALLS; i += 4) {
            if (!same("append", Desk.packed(text, i))) {
                return false;
            }
        }
        if (!isTame && random.nextInt(10) == 0) {
            return same("append", random.nextBoolean() ? random.nextInt() : random.nextInt() & 0x7f7f7f7f);
        }
        return true;
    }

    private boolean changes(boolean isTame) {
        switch (random.nextInt(14)) {
            case 0: return same("removeRecord", record(isTame));
            case 1: return same("moveRecord", record(isTame), record(isTame));
            case 2: return same("sort", number(5, isTame), random.nextInt(2));
            case 3: return same("setNumber", record(isTame), 0, number(10, isTame));
            case 4: return same("setNumber", record(isTame), 1, number(random.nextBoolean() ? 100 : 3, isTame));
            case 5: return same("setKeys", random.nextBoolean() ? random.nextInt(4) : number(32, isTame));
            case 6: case 7: return same("setPolicy", number(3, isTame));
            case 8: return same("exclude", number(10, isTame), random.nextInt(2) * random.nextInt(2));
            case 9: return same("setLimit", 1 + number(random.nextBoolean() ? 200 : 20, isTame));
            case 10: return random.nextInt(8) > 0 || same("clear");
            case 11: return random.nextInt(3) > 0 || same("restore");
            case 12: return random.nextInt(3) > 0 || same("snapshot");
            default: return same("undo");
        }
    }

    private boolean asks(boolean isTame) {
        switch (random.nextInt(19)) {
            case 0: return same("field", record(isTame), number(5, isTame), number(14, isTame) - 1);
            case 1: return same("record", record(isTame), number(4, isTame));
            case 2: return same("errorPosition");
            case 3: return same("template", number(5, isTame));
            case 4: case 5: return same("item", item(isTame), number(4, isTame));
            case 6: case 7: return same("counts", record(isTame), item(isTame));
            case 8: return same("setting", number(8, isTame));
            case 9: case 10: return same("run");
            case 11: return same("reason", record(isTame));
            case 12: return same("reasons", number(5, isTame));
            case 13: return same("letter", record(isTame), number(30, isTame) - 1);
            case 14: return same("chain", record(isTame), number(5, isTame));
            case 15: return same("kept", record(isTame));
            case 16: return same("preview", record(isTame));
            case 17: return same(random.nextBoolean() ? "meanLength" : "share");
            default: return same("isOrderFree");
        }
    }

    private int number(int below, boolean isTame) {
        if (isTame || random.nextInt(4) > 0) {
            return random.nextInt(below);
        }
        int[] wrong = {-1, below, below + 1, Integer.MIN_VALUE, Integer.MAX_VALUE, -2};
        return wrong[random.nextInt(wrong.length)];
    }

    private int record(boolean isTame) {
        return number(Math.max(1, model.setting(0)), isTame);
    }

    private int item(boolean isTame) {
        return number(Math.max(1, model.template(0)), isTame);
    }

    private String template() {
        StringBuilder text = new StringBuilder();
        addItems(text, 0);
        if (random.nextInt(4) == 0 && text.length() > 0) {
            int at = random.nextInt(text.length());
            String signs = "a#@{}<>|[]/0145g9n=!&:^*";
            char sign = signs.charAt(random.nextInt(signs.length()));
            switch (random.nextInt(4)) {
                case 0: text.setCharAt(at, sign); break;
                case 1: text.insert(at, sign); break;
                case 2: text.deleteCharAt(at); break;
                default: text.setLength(at); break;
            }
        }
        text.setLength(Math.min(text.length(), 120));
        return text.toString();
    }

    private void addItems(StringBuilder text, int depth) {
        int items = random.nextInt(5);
        for (int i = 0; i < items && text.length() < 110; i++) {
            switch (random.nextInt(8)) {
                case 0: text.append('#'); break;
                case 1: text.append('@'); break;
                case 2: text.append('{').append(random.nextInt(3))
                        .append(new String[] {"", "^", "*"}[random.nextInt(3)]).append('}'); break;
                case 3: text.append(new String[] {"<a|b c>", "<|s>", "<!|>"}[random.nextInt(3)]); break;
                case 4: text.append(" ~^*&:=!gn01".charAt(random.nextInt(12))); break;
                default:
                    if (depth < 5 && (depth < 4 || random.nextInt(5) == 0)) {
                        text.append('[');
                        addConditions(text);
                        text.append(':');
                        addItems(text, depth + 1);
                        text.append(']');
                    }
                    break;
            }
        }
    }

    private void addConditions(StringBuilder text) {
        int conditions = 1 + random.nextInt(4) / 2;
        for (int i = 0; i < conditions; i++) {
            text.append(i == 0 ? "" : "&").append(random.nextInt(3) == 0 ? "!" : "");
            switch (random.nextInt(4)) {
                case 0: text.append('g').append(random.nextInt(10)); break;
                case 1: text.append('n').append("<=>".charAt(random.nextInt(3))).append(random.nextInt(100)); break;
                default: text.append(random.nextInt(3)); break;
            }
        }
    }

    private boolean same(String name, int... a) {
        if (calls >= CALLS) {
            return true;
        }
        calls++;
        String due = answer(() -> ofModel(name, a));
        String got = answer(() -> ofMerger(name, a));
        log.append("\n  ").append(name).append(java.util.Arrays.toString(a)).append(" due ").append(due)
                .append(" got ").append(got);
        return due.equals(got);
    }

    private static String answer(Callable<Object> call) {
        try {
            return String.valueOf(call.call());
        } catch (Exception e) {
            return e.getClass().getSimpleName();
        }
    }

    private Object ofMerger(String name, int[] a) {
        MailMerge m = merger;
        switch (name) {
            case "clear": return m.clear();
            case "append": return m.append(a[0]);
            case "addRecord": return m.addRecord(a[0], a[1]);
            case "removeRecord": return m.removeRecord(a[0]);
            case "moveRecord": return m.moveRecord(a[0], a[1]);
            case "sort": return m.sort(a[0], a[1] == 1);
            case "setField": return m.setField(a[0], a[1]);
            case "setNumber": return m.setNumber(a[0], a[1] == 1, a[2]);
            case "field": return m.field(a[0], a[1], a[2]);
            case "record": return m.record(a[0], a[1]);
            case "setTemplate": return m.setTemplate();
            case "errorPosition": return m.errorPosition();
            case "template": return m.template(a[0]);
            case "item": return m.item(a[0], a[1]);
            case "counts": return m.counts(a[0], a[1]);
            case "setHome": return m.setHome();
            case "setKeys": return m.setKeys(a[0]);
            case "setPolicy": return m.setPolicy(a[0]);
            case "exclude": return m.exclude(a[0], a[1] == 1);
            case "setLimit": return m.setLimit(a[0]);
            case "setting": return m.setting(a[0]);
            case "run": return m.run();
            case "reason": return m.reason(a[0]);
            case "reasons": return m.reasons(a[0]);
            case "letter": return m.letter(a[0], a[1]);
            case "chain": return m.chain(a[0], a[1]);
            case "kept": return m.kept(a[0]);
            case "preview": return m.preview(a[0]);
            case "meanLength": return m.meanLength();
            case "share": return m.share();
            case "isOrderFree": return m.isOrderFree();
            case "undo": return m.undo();
            case "snapshot": return m.snapshot();
            case "restore": return m.restore();
            default: throw new AssertionError(name);
        }
    }

    private Object ofModel(String name, int[] a) {
        Model m = model;
        switch (name) {
            case "clear": return m.clear();
            case "append": return m.append(a[0]);
            case "addRecord": return m.addRecord(a[0], a[1]);
            case "removeRecord": return m.removeRecord(a[0]);
            case "moveRecord": return m.moveRecord(a[0], a[1]);
            case "sort": return m.sort(a[0], a[1] == 1);
            case "setField": return m.setField(a[0], a[1]);
            case "setNumber": return m.setNumber(a[0], a[1] == 1, a[2]);
            case "field": return m.field(a[0], a[1], a[2]);
            case "record": return m.record(a[0], a[1]);
            case "setTemplate": return m.setTemplate();
            case "errorPosition": return m.errorPosition();
            case "template": return m.template(a[0]);
            case "item": return m.item(a[0], a[1]);
            case "counts": return m.counts(a[0], a[1]);
            case "setHome": return m.setHome();
            case "setKeys": return m.setKeys(a[0]);
            case "setPolicy": return m.setPolicy(a[0]);
            case "exclude": return m.exclude(a[0], a[1] == 1);
            case "setLimit": return m.setLimit(a[0]);
            case "setting": return m.setting(a[0]);
            case "run": return m.run();
            case "reason": return m.reason(a[0]);
            case "reasons": return m.reasons(a[0]);
            case "letter": return m.letter(a[0], a[1]);
            case "chain": return m.chain(a[0], a[1]);
            case "kept": return m.kept(a[0]);
            case "preview": return m.preview(a[0]);
            case "meanLength": return m.meanLength();
            case "share": return m.share();
            case "isOrderFree": return m.isOrderFree();
            case "undo": return m.undo();
            case "snapshot": return m.snapshot();
            case "restore": return m.restore();
            default: throw new AssertionError(name);
        }
    }
}
