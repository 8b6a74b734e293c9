import java.util.ArrayDeque;
import java.util.ArrayList;
import java.util.Collections;
import java.util.Deque;
import java.util.List;
import java.util.Locale;
import java.util.NoSuchElementException;
import java.util.regex.Matcher;
import java.util.regex.Pattern;

/**
 * The document once more, written in another way than the program: templates by regular expressions and trees,
 * runs by maps of lists, the past by whole copies. Only the random calls of ModelTest use it.
 */
final class Model {
    private static final String LITERAL = "[ -~&&[^#@{}<>|\\[\\]/]]";
    private static final String CONDITION = "!?(?:[0-4]|g[0-9]|n[<=>](?:0|[1-9][0-9]?))";
    private static final String SIMPLE = LITERAL + "|#|@|\\{[0-4][\\^*]?\\}|<" + LITERAL + "*\\|" + LITERAL + "*>";
    private static final Pattern TEMPLATE = Pattern.compile(templateOfDepth(4));

    private static String templateOfDepth(int depth) {
        String inner = depth == 0 ? "" : "|\\[" + CONDITION + "(?:&" + CONDITION + ")*:" + templateOfDepth(depth - 1)
                + "\\]";
        return "(?:" + SIMPLE + inner + ")*";
    }

    private static final class Person implements Cloneable {
        int group;
        int count;
        String[] texts = {"", "", "", "", ""};

        Person copy() {
            Person copy = new Person();
            copy.group = group;
            copy.count = count;
            copy.texts = texts.clone();
            return copy;
        }
    }

    private static final class Node {
        int kind;
        int place;
        Node parent;
        int number;
        String text = "";
        List<Node> inner = new ArrayList<>();

        List<Node> path() {
            List<Node> path = new ArrayList<>();
            for (Node each = this; each.parent != null; each = each.parent) {
                path.add(0, each);
            }
            return path;
        }
    }

    private static final class World {
        List<Person> people = new ArrayList<>();
        String template = "";
        String home = "";
        int keys = 0;
        int policy = 0;
        int excluded = 0;
        int limit = 100;

        World copy() {
            World copy = new World();
            for (Person each : people) {
                copy.people.add(each.copy());
            }
            copy.template = template;
            copy.home = home;
            copy.keys = keys;
            copy.policy = policy;
            copy.excluded = excluded;
            copy.limit = limit;
            return copy;
        }
    }

    private static final class Result {
        int reason;
        String letter = "";
        List<Integer> chain = new ArrayList<>();
    }

    private static final class Failure extends Exception {
        private static final long serialVersionUID = 1;
        final transient Node node;
        final int reason;

        Failure(Node node, int reason) {
            this.node = node;
            this.reason = reason;
        }
    }

    private World world = new World();
    private World saved = null;
    private final Deque<World> past = new ArrayDeque<>();
    private String buffer = "";
    private int error = -1;
    private List<Result> latest = null;
    private final List<Node> nodes = new ArrayList<>();

    int clear() {
        int before = world.people.size();
        world = new World();
        past.clear();
        return before;
    }

    int append(int packed) {
        String more = "";
        for (byte each : new byte[] {(byte) (packed >> 24), (byte) (packed >> 16), (byte) (packed >> 8), (byte) packed}) {
            if (each != 0) {
                if (each < 32 || each > 126) {
                    throw new IllegalArgumentException();
                }
                more += (char) each;
            }
        }
        if ((buffer + more).length() > 120) {
            throw new IllegalStateException();
        }
        buffer += more;
        return buffer.length();
    }

    int addRecord(int group, int count) {
        if (group < 0 || group > 9 || count < 0 || count > 99) {
            throw new IllegalArgumentException();
        }
        if (world.people.size() == 20) {
            throw new IllegalStateException();
        }
        change();
        Person person = new Person();
        person.group = group;
        person.count = count;
        world.people.add(person);
        return world.people.size() - 1;
    }

    int removeRecord(int record) {
        person(record);
        change();
        world.people.remove(record);
        return world.people.size();
    }

    int moveRecord(int record, int to) {
        person(record);
        person(to);
        change();
        List<Person> before = new ArrayList<>(world.people);
        world.people.add(to, world.people.remove(record));
        return different(before);
    }

    int sort(int field, boolean isDescending) {
        if (field < 0 || field > 4) {
            throw new IndexOutOfBoundsException();
        }
        change();
        List<Person> before = new ArrayList<>(world.people);
        List<Person> filled = new ArrayList<>();
        List<Person> empty = new ArrayList<>();
        for (Person each : before) {
            (each.texts[field].isEmpty() ? empty : filled).add(each);
        }
        java.util.Comparator<Person> order = java.util.Comparator.comparing(each -> upper(each.texts[field]));
        filled.sort(isDescending ? order.reversed() : order);
        world.people = filled;
        world.people.addAll(empty);
        return different(before);
    }

    private int different(List<Person> before) {
        int different = 0;
        for (int i = 0; i < before.size(); i++) {
            different += before.get(i) == world.people.get(i) ? 0 : 1;
        }
        return different;
    }

    int setField(int record, int field) {
        Person person = person(record);
        if (field < 0 || field > 4) {
            throw new IndexOutOfBoundsException();
        }
        String text = shortText();
        change();
        int before = person.texts[field].length();
        person(record).texts[field] = text;
        return before;
    }

    private String shortText() {
        String text = buffer;
        buffer = "";
        int slash = text.indexOf('/');
        int wrong = slash >= 0 && slash < 12 ? slash : text.length() > 12 ? 12 : -1;
        if (wrong >= 0) {
            error = wrong;
            throw new IllegalArgumentException();
        }
        return text;
    }

    int setNumber(int record, boolean isCount, int number) {
        person(record);
        if (number < 0 || number > (isCount ? 99 : 9)) {
            throw new IllegalArgumentException();
        }
        change();
        Person person = person(record);
        int before = isCount ? person.count : person.group;
        if (isCount) {
            person.count = number;
        } else {
            person.group = number;
        }
        return before;
    }

    int field(int record, int field, int index) {
        Person person = person(record);
        if (field < 0 || field > 4) {
            throw new IndexOutOfBoundsException();
        }
        return signOf(person.texts[field], index);
    }

    private static int signOf(String text, int index) {
        if (index == -1) {
            return text.length();
        }
        if (index < 0 || index >= text.length()) {
            throw new NoSuchElementException();
        }
        return text.charAt(index);
    }

    int record(int record, int what) {
        Person person = person(record);
        if (what == 0) {
            return person.group;
        }
        if (what == 1) {
            return person.count;
        }
        if (what == 2) {
            int mask = 0;
            for (int i = 0; i < 5; i++) {
                mask += person.texts[i].isEmpty() ? 0 : (int) Math.pow(2, i);
            }
            return mask;
        }
        if (what == 3) {
            return lines(person).size();
        }
        throw new IllegalArgumentException();
    }

    int setTemplate() {
        String text = buffer;
        buffer = "";
        if (!TEMPLATE.matcher(text).matches()) {
            int at = 0;
            while (at < text.length() && canGoOn(text.substring(0, at + 1))) {
                at++;
            }
            error = at;
            throw new IllegalArgumentException();
        }
        change();
        world.template = text;
        tree();
        return nodes.size();
    }

    private static boolean canGoOn(String text) {
        Matcher matcher = TEMPLATE.matcher(text);
        return matcher.matches() || matcher.hitEnd();
    }

    int errorPosition() {
        if (error < 0) {
            throw new NoSuchElementException();
        }
        return error;
    }

    int template(int what) {
        tree();
        if (what == 0) {
            return nodes.size();
        }
        if (what == 1) {
            return world.template.length();
        }
        if (what == 2) {
            return nodes.stream().filter(each -> each.kind == 5).mapToInt(each -> each.path().size()).max().orElse(0);
        }
        if (what == 3) {
            int mask = 0;
            for (Node each : nodes) {
                if (each.kind == 3) {
                    mask |= 1 << each.text.charAt(1) - '0';
                }
                if (each.kind == 5) {
                    for (String condition : each.text.split("&")) {
                        String bare = condition.replace("!", "");
                        mask |= bare.length() == 1 ? 1 << bare.charAt(0) - '0' : 0;
                    }
                }
            }
            return mask;
        }
        if (what == 4) {
            return (int) nodes.stream().filter(each -> each.kind == 5).count();
        }
        throw new IllegalArgumentException();
    }

    int item(int item, int what) {
        Node node = node(item);
        List<Node> path = node.path();
        if (what == 0) {
            return node.kind;
        }
        if (what == 1) {
            return node.place;
        }
        if (what == 2) {
            return path.size() - 1;
        }
        if (what == 3) {
            return path.size() < 2 ? -1 : path.get(path.size() - 2).number;
        }
        throw new IllegalArgumentException();
    }

    boolean counts(int record, int item) {
        Person person = person(record);
        return node(item).path().stream().allMatch(each -> each.kind != 5 || isTrue(each, person));
    }

    int setHome() {
        String text = shortText();
        change();
        int before = world.home.length();
        world.home = text;
        return before;
    }

    int setKeys(int keys) {
        if (keys < 0 || keys > 31) {
            throw new IllegalArgumentException();
        }
        change();
        int before = world.keys;
        world.keys = keys;
        return before;
    }

    int setPolicy(int policy) {
        if (policy < 0 || policy > 2) {
            throw new IllegalArgumentException();
        }
        change();
        int before = world.policy;
        world.policy = policy;
        return before;
    }

    boolean exclude(int group, boolean on) {
        if (group < 0 || group > 9) {
            throw new IndexOutOfBoundsException();
        }
        change();
        boolean before = isExcluded(group);
        if (before != on) {
            world.excluded ^= 1 << group;
        }
        return before;
    }

    private boolean isExcluded(int group) {
        return (world.excluded >> group) % 2 == 1;
    }

    int setLimit(int limit) {
        if (limit < 1 || limit > 200) {
            throw new IllegalArgumentException();
        }
        change();
        int before = world.limit;
        world.limit = limit;
        return before;
    }

    int setting(int what) {
        int[] settings = {world.people.size(), world.keys, world.policy, world.excluded, world.limit, buffer.length(),
            past.size(), world.home.length()};
        if (what < 0 || what >= settings.length) {
            throw new IllegalArgumentException();
        }
        return settings[what];
    }

    int run() {
        if (world.people.isEmpty()) {
            throw new IllegalStateException();
        }
        latest = results(world.people, world.policy);
        return reasons(0);
    }

    private List<Result> results(List<Person> people, int policy) {
        tree();
        List<Result> results = new ArrayList<>();
        for (Person each : people) {
            Result result = new Result();
            if (isExcluded(each.group)) {
                result.reason = 1;
            } else if (keptOf(each, people, policy) != each) {
                result.reason = 2;
            } else {
                result = letterOf(each);
            }
            results.add(result);
        }
        return results;
    }

    private Person keptOf(Person person, List<Person> people, int policy) {
        if (world.keys == 0) {
            return person;
        }
        List<Person> same = new ArrayList<>();
        for (Person each : people) {
            if (!isExcluded(each.group) && keyText(each).equals(keyText(person))) {
                same.add(each);
            }
        }
        if (policy == 2) {
            int most = same.stream().mapToInt(each -> each.count).max().orElse(0);
            same.removeIf(each -> each.count < most);
        }
        return same.get(policy == 1 ? same.size() - 1 : 0);
    }

    private String keyText(Person person) {
        String text = "";
        for (int i = 0; i < 5; i++) {
            text += (world.keys & 1 << i) == 0 ? "/" : upper(person.texts[i]) + "/";
        }
        return text;
    }

    private Result letterOf(Person person) {
        tree();
        Result result = new Result();
        StringBuilder letter = new StringBuilder();
        try {
            write(root, person, letter);
            result.letter = letter.toString();
        } catch (Failure e) {
            result.reason = e.reason;
            e.node.path().forEach(each -> result.chain.add(each.place));
        }
        return result;
    }

    private void write(Node node, Person person, StringBuilder letter) throws Failure {
        for (Node each : node.inner) {
            if (each.kind == 5) {
                if (isTrue(each, person)) {
                    write(each, person, letter);
                }
                continue;
            }
            letter.append(given(each, person));
            if (letter.length() > world.limit) {
                throw new Failure(each, 4);
            }
        }
    }

    private String given(Node node, Person person) throws Failure {
        switch (node.kind) {
            case 0: return node.text;
            case 1: return String.valueOf(person.count);
            case 2:
                if (lines(person).isEmpty()) {
                    throw new Failure(node, 3);
                }
                return String.join("/", lines(person));
            case 3:
                String text = person.texts[node.text.charAt(1) - '0'];
                if (text.isEmpty()) {
                    throw new Failure(node, 3);
                }
                if (node.text.contains("^")) {
                    return upper(text.substring(0, 1)) + text.substring(1);
                }
                return node.text.contains("*") ? upper(text) : text;
            default:
                String[] words = node.text.substring(1, node.text.length() - 1).split("\\|", -1);
                return words[person.count == 1 ? 0 : 1];
        }
    }

    private List<String> lines(Person person) {
        List<String> lines = new ArrayList<>(List.of(person.texts));
        if (upper(lines.get(4)).equals(upper(world.home))) {
            lines.remove(4);
        }
        lines.removeIf(String::isEmpty);
        return lines;
    }

    private static boolean isTrue(Node node, Person person) {
        for (String each : node.text.split("&")) {
            boolean isNegated = each.startsWith("!");
            String bare = isNegated ? each.substring(1) : each;
            boolean isTrue;
            if (bare.startsWith("g")) {
                isTrue = String.valueOf(person.group).equals(bare.substring(1));
            } else if (bare.startsWith("n")) {
                int difference = Integer.signum(person.count - Integer.parseInt(bare.substring(2)));
                isTrue = "<=>".indexOf(bare.charAt(1)) - 1 == difference;
            } else {
                isTrue = !person.texts[Integer.parseInt(bare)].isEmpty();
            }
            if (isTrue == isNegated) {
                return false;
            }
        }
        return true;
    }

    int reason(int record) {
        return result(record).reason;
    }

    int reasons(int reason) {
        if (latest == null) {
            throw new IllegalStateException();
        }
        if (reason < 0 || reason > 4) {
            throw new IllegalArgumentException();
        }
        return (int) latest.stream().filter(each -> each.reason == reason).count();
    }

    int letter(int record, int index) {
        Result result = result(record);
        if (result.reason != 0) {
            throw new UnsupportedOperationException();
        }
        return signOf(result.letter, index);
    }

    int chain(int record, int index) {
        Result result = result(record);
        if (result.reason < 3) {
            throw new UnsupportedOperationException();
        }
        if (index < 0 || index >= result.chain.size()) {
            throw new NoSuchElementException();
        }
        return result.chain.get(index);
    }

    private Result result(int record) {
        if (latest == null) {
            throw new IllegalStateException();
        }
        if (record < 0 || record >= latest.size()) {
            throw new IndexOutOfBoundsException();
        }
        return latest.get(record);
    }

    int kept(int record) {
        Person person = person(record);
        if (isExcluded(person.group)) {
            throw new UnsupportedOperationException();
        }
        return world.people.indexOf(keptOf(person, world.people, world.policy));
    }

    int preview(int record) {
        Result result = letterOf(person(record));
        return result.reason == 0 ? result.letter.length() : -result.reason;
    }

    double meanLength() {
        if (reasons(0) == 0) {
            throw new ArithmeticException();
        }
        int sum = 0;
        for (Result each : latest) {
            sum += each.letter.length();
        }
        return (double) sum / (double) reasons(0);
    }

    float share() {
        return (float) reasons(0) / (float) latest.size();
    }

    boolean isOrderFree() {
        List<Person> backwards = new ArrayList<>(world.people);
        Collections.reverse(backwards);
        List<Result> one = results(world.people, world.policy);
        List<Result> other = results(backwards, world.policy == 2 ? 2 : 1 - world.policy);
        Collections.reverse(other);
        for (int i = 0; i < one.size(); i++) {
            if (one.get(i).reason != other.get(i).reason
                    || one.get(i).letter.length() != other.get(i).letter.length()) {
                return false;
            }
        }
        return true;
    }

    int undo() {
        if (past.isEmpty()) {
            throw new IllegalStateException();
        }
        world = past.pop();
        return past.size();
    }

    int snapshot() {
        saved = world.copy();
        return saved.people.size();
    }

    int restore() {
        if (saved == null) {
            throw new IllegalStateException();
        }
        world = saved.copy();
        past.clear();
        return world.people.size();
    }

    private void change() {
        while (past.size() > 7) {
            past.removeLast();
        }
        past.push(world.copy());
    }

    private Person person(int record) {
        if (record < 0 || record >= world.people.size()) {
            throw new IndexOutOfBoundsException();
        }
        return world.people.get(record);
    }

    private Node node(int item) {
        tree();
        if (item < 0 || item >= nodes.size()) {
            throw new NoSuchElementException();
        }
        return nodes.get(item);
    }

    private Node root = new Node();
    private String grown = "";

    /** Makes the tree of the present template, if it is not the one that there is. */
    private void tree() {
        if (!grown.equals(world.template)) {
            grown = world.template;
            nodes.clear();
            root = new Node();
            grow(root, 0);
        }
    }

    private int grow(Node parent, int from) {
        int at = from;
        while (at < grown.length() && grown.charAt(at) != ']') {
            Node node = new Node();
            node.parent = parent;
            node.place = at;
            node.number = nodes.size();
            node.kind = Math.max(0, 1 + "#@{<[".indexOf(grown.charAt(at)));
            nodes.add(node);
            parent.inner.add(node);
            if (node.kind == 5) {
                int colon = grown.indexOf(':', at);
                node.text = grown.substring(at + 1, colon);
                at = grow(node, colon + 1) + 1;
            } else {
                int end = node.kind == 3 ? grown.indexOf('}', at) : node.kind == 4 ? grown.indexOf('|', at) : at;
                end = node.kind == 4 ? grown.indexOf('>', end) : end;
                node.text = grown.substring(at, end + 1);
                at = end + 1;
            }
        }
        return at;
    }

    private static String upper(String text) {
        return text.toUpperCase(Locale.ROOT);
    }
}
