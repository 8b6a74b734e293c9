import java.util.ArrayList;
import java.util.List;
import java.util.Locale;

/** The sentences of "What it is" and of the first half of "Description": records, template, letters. */
final class DescriptionSentences {
    private static final String SPECIAL = "#@{}<>|[]/";

    private DescriptionSentences() {
    }

    static void addTo(Sentences s) {
        wholeObject(s);
        records(s);
        fields(s);
        templates(s);
        forms(s);
        limitsOfForms(s);
        letters(s);
        braces(s);
        conditions(s);
        addressBlocks(s);
        sameTexts(s);
    }

    private static void wholeObject(Sentences s) {
        s.without("What it is", "A merger of letters: records with fields of text, groups and counts, a template with "
                + "fields, cases of letters, words that agree with a count, conditional paragraphs and address blocks, "
                + "duplicates by keys, excluded groups, letters or reasons for each record, explanations by chains of "
                + "places, a look at each letter before, counts by reasons, undo, and a snapshot.");
        s.test("What it is", "An object is used for at most 512 calls after it has been made; what later calls answer is "
                + "free.", t -> {
            MailMerge m = new MailMerge();
            for (int call = 1; call <= 503; call++) {
                m.setLimit(call % 200 + 1);
            }
            for (int call = 504; call <= 511; call++) {
                t.due("undo as call " + call, 511 - call, m.undo());
            }
            t.due("the 512th call", 495 % 200 + 1, m.setting(4));
        });
    }

    private static void records(Sentences s) {
        s.test("Records", "There are at most 20 records, numbered from 0 in the order in which they were added;", t -> {
            MailMerge m = new MailMerge();
            for (int i = 0; i < 20; i++) {
                t.due("number of the next", i, m.addRecord(0, 50 - i));
            }
            for (int i = 0; i < 20; i++) {
                t.due("count of record " + i, 50 - i, m.record(i, 1));
            }
            t.refused("a 21st", Worlds.STATE, () -> Worlds.crowd(20), full -> full.addRecord(0, 0));
        });
        s.test("Records", "when one is removed, the later ones get numbers less by 1.", t -> {
            int[] removed = {0, 1, 18, 19};
            for (int each : removed) {
                MailMerge m = Worlds.crowd(20);
                m.removeRecord(each);
                for (int i = 0; i < 19; i++) {
                    t.due("record " + i + " without " + each, i < each ? i : i + 1, m.record(i, 1));
                }
                t.fails("record 19 without " + each, Worlds.INDEX, () -> m.record(19, 1));
            }
        });
        s.test("Records", "a group from 0 to 9,", t -> {
            for (int group = 0; group <= 9; group++) {
                t.due("group " + group, group, Worlds.one(group, 0).record(0, 0));
            }
            t.refusedFor("added with group", Worlds.ARGUMENT, Worlds::busy, (m, each) -> m.addRecord(each, 0),
                    Worlds.beside(0, 9));
            t.refusedFor("set to group", Worlds.ARGUMENT, Worlds::busy, (m, each) -> m.setNumber(0, false, each),
                    Worlds.beside(0, 9));
        });
        s.test("Records", "and a count from 0 to 99.", t -> {
            for (int count = 0; count <= 99; count++) {
                t.due("count " + count, count, Worlds.one(0, count).record(0, 1));
            }
            t.refusedFor("added with count", Worlds.ARGUMENT, Worlds::busy, (m, each) -> m.addRecord(0, each),
                    Worlds.beside(0, 99));
            t.refusedFor("set to count", Worlds.ARGUMENT, Worlds::busy, (m, each) -> m.setNumber(0, true, each),
                    Worlds.beside(0, 99));
        });
    }

    private static void fields(Sentences s) {
        s.test("Records", "A record has the fields 0 to 4,", t -> {
            MailMerge m = Worlds.one(0, 0, "a", "bb", "ccc", "dddd", "eeeee");
            for (int field = 0; field <= 4; field++) {
                t.due("length of field " + field, field + 1, m.field(0, field, -1));
            }
            t.refusedFor("a character of field", Worlds.INDEX, Worlds::busy, (x, each) -> x.field(0, each, -1),
                    Worlds.beside(0, 4));
            t.refusedFor("setting field", Worlds.INDEX, Worlds::busy, (x, each) -> x.setField(0, each),
                    Worlds.beside(0, 4));
        });
        s.test("Records", "which are texts of 0 to 12 characters,", t -> {
            for (int length = 0; length <= 12; length++) {
                MailMerge m = Worlds.one(0, 0, "before");
                Desk.field(m, 0, 0, "abcdefghijkl".substring(0, length));
                t.due("length", length, m.field(0, 0, -1));
                t.due("text", "abcdefghijkl".substring(0, length), Desk.fieldText(m, 0, 0));
            }
            t.refusedBut("13 characters", Worlds.ARGUMENT, () -> Worlds.busyWith("abcdefghijklm"),
                    m -> m.setField(0, 0), "buffer 13 -> 0, error 3 -> 12");
        });
        s.test("Records", "The fields are a name (0), a company (1), a street (2), a town (3) and a country (4).", t -> {
            MailMerge m = Worlds.one(0, 0, "X", "X", "X", "X", "X");
            Desk.home(m, "X");
            t.due("the home country leaves out field 4 alone", "X/X/X/X", Worlds.letter(m, "@"));
            m = Worlds.one(0, 0, "name", "company", "street", "town", "country");
            t.due("by their numbers", "name,company,street,town,country", Worlds.letter(m, "{0},{1},{2},{3},{4}"));
        });
        s.test("Records", "A field that has no characters is empty; at first all fields are empty.", t -> {
            MailMerge m = Worlds.one(0, 0);
            for (int field = 0; field < 5; field++) {
                t.due("length at first of " + field, 0, m.field(0, field, -1));
            }
            t.due("none is filled at first", 0, m.record(0, 2));
            Desk.field(m, 0, 3, " ");
            t.due("a blank is a character", 8, m.record(0, 2));
            Desk.field(m, 0, 3, "");
            t.due("empty again", 0, m.record(0, 2));
        });
        s.test("Records", "The characters of fields have codes from 32 to 126, and are no \"/\".", t -> {
            for (char sign = 32; sign <= 126; sign++) {
                MailMerge m = Worlds.one(0, 0, "old");
                int code = sign;
                Desk.type(m, "" + sign);
                if (sign == '/') {
                    t.fails("a slash", Worlds.ARGUMENT, () -> m.setField(0, 0));
                } else {
                    t.due("the old length", 3, m.setField(0, 0));
                }
                t.due("code " + code, sign == '/' ? (int) 'o' : code, m.field(0, 0, 0));
            }
            t.refusedFor("code", Worlds.ARGUMENT, Worlds::busy, MailMerge::append, 31, 127);
        });
    }

    private static void templates(Sentences s) {
        s.test("Template", "The template is a text of the following form, where braces mean zero or more repetitions, "
                + "brackets that something may be missing, \"|\" alternatives, and characters in quotes are meant "
                + "literally; at first it has no items:", t -> {
            MailMerge m = Worlds.one(0, 0);
            for (int what = 0; what < 5; what++) {
                t.due("number " + what + " at first", 0, m.template(what));
            }
            t.fails("item 0 at first", Worlds.NONE, () -> m.item(0, 0));
            t.due("length of its letter", 0, m.preview(0));
        });
        s.test("Template", "template = { item }", t -> {
            MailMerge m = new MailMerge();
            t.due("no items", 0, Desk.template(m, ""));
            t.due("one", 1, Desk.template(m, "#"));
            t.due("each kind", 6, Desk.template(m, "a#@{0}<|>[0:]"));
            t.due("120", 120, Desk.template(m, "#".repeat(120)));
        });
        s.test("Template", "A literal is a character with a code from 32 to 126 that is none of # @ { } < > | [ ] and /.",
                t -> {
            for (char sign = 32; sign <= 126; sign++) {
                boolean isLiteral = SPECIAL.indexOf(sign) < 0;
                MailMerge m = new MailMerge();
                boolean isItem = isLiteral || sign == '#' || sign == '@';
                t.due("error of " + sign, isItem ? -1 : "{<[".indexOf(sign) >= 0 ? 1 : 0,
                        Worlds.malformed(m, "" + sign));
                t.due("in the first words: " + sign, isLiteral ? -1 : sign == '|' ? 2 : 1,
                        Worlds.malformed(m, "<" + sign + "|>"));
                t.due("in the other words: " + sign, isLiteral ? -1 : sign == '>' ? 3 : 2,
                        Worlds.malformed(m, "<|" + sign + ">"));
                if (isLiteral) {
                    Desk.template(m, "" + sign);
                    t.due("kind of " + sign, 0, m.item(0, 0));
                }
            }
        });
    }

    private static void forms(Sentences s) {
        s.test("Template", "item = literal | \"#\" | \"@\" | \"{\" field [ \"^\" | \"*\" ] \"}\" | \"<\" { literal } \"|\" "
                + "{ literal } \">\" | \"[\" condition { \"&\" condition } \":\" template \"]\"", t -> {
            String[] good = {"a", "#", "@", "{0}", "{0^}", "{0*}", "<|>", "<a|>", "<|a>", "<ab|cd>", "[0:]", "[0&1:]",
                "[0&1&2:#]", "[0" + "&0".repeat(58) + ":]", "[0:[0:]]", "<" + "a".repeat(117) + "|>",
                "<|" + "a".repeat(117) + ">"};
            int[] kinds = {0, 1, 2, 3, 3, 3, 4, 4, 4, 4, 5, 5, 5, 5, 5, 4, 4};
            for (int i = 0; i < good.length; i++) {
                MailMerge m = new MailMerge();
                t.due("error of " + good[i], -1, Worlds.malformed(m, good[i]));
                t.due("kind of " + good[i], kinds[i], m.item(0, 0));
            }
            Object[][] bad = {{"{}", 1}, {"{0^^}", 3}, {"{0*^}", 3}, {"{0^*}", 3}, {"{01}", 2}, {"{^0}", 1}, {"{0", 2},
                {"{0^", 3}, {"<>", 1}, {"<|", 2}, {"<", 1}, {"<||>", 2}, {"<#|>", 1}, {"<|#>", 2}, {"[:]", 1}, {"[]", 1},
                {"[0]", 2}, {"[01:]", 2}, {"[0&:]", 3}, {"[&0:]", 1}, {"[0&&1:]", 3}, {"[0:", 3}, {"[0:#", 4},
                {"}", 0}, {">", 0}, {"|", 0}, {"]", 0}, {"/", 0}, {"[0:]]", 4}, {"[0:}", 3}, {"[0:>", 3}, {"[0:|", 3},
                {"[0:/", 3}};
            for (Object[] each : bad) {
                t.due("error of " + each[0], each[1], Worlds.malformed(new MailMerge(), (String) each[0]));
            }
        });
        s.test("Template", "condition = [ \"!\" ] ( field | \"g\" digit | \"n\" ( \"<\" | \"=\" | \">\" ) number )", t -> {
            String[] good = {"0", "!0", "g0", "!g9", "n<0", "n=0", "n>0", "!n<0", "!n=0", "!n>0"};
            for (String each : good) {
                t.due("error with " + each, -1, Worlds.malformed(new MailMerge(), "[" + each + ":]"));
                t.due("error with 0 and " + each, -1, Worlds.malformed(new MailMerge(), "[0&" + each + ":]"));
            }
            Object[][] bad = {{"!", 2}, {"!!0", 2}, {"0!", 2}, {"g", 2}, {"g!0", 2}, {"ga", 2}, {"g/", 2}, {"g:", 2},
                {"g00", 3}, {"g10", 3}, {"n", 2}, {"n0", 2}, {"n!0", 2}, {"n<", 3}, {"n<<0", 3}, {"n<=0", 3}, {"n>=0", 3},
                {"n:", 2}, {"n;0", 2}, {"n?0", 2}, {"G0", 1}, {"N=0", 1}, {"a", 1}, {" 0", 1}, {"0 ", 2}, {"00", 2}};
            for (Object[] each : bad) {
                t.due("error with " + each[0], each[1], Worlds.malformed(new MailMerge(), "[" + each[0] + ":]"));
            }
        });
    }

    private static void limitsOfForms(Sentences s) {
        s.test("Template", "A field is a digit from 0 to 4.", t -> {
            for (char digit = 32; digit <= 126; digit++) {
                boolean isField = digit >= '0' && digit <= '4';
                t.due("error of braces with " + digit, isField ? -1 : 1,
                        Worlds.malformed(new MailMerge(), "{" + digit + "}"));
                if (digit != '!' && digit != 'g' && digit != 'n') {
                    t.due("error of a condition with " + digit, isField ? -1 : 1,
                            Worlds.malformed(new MailMerge(), "[" + digit + ":]"));
                }
            }
        });
        s.test("Template", "A number has one or two digits, and no leading zero unless it is 0.", t -> {
            for (int number = 0; number <= 99; number++) {
                t.due("error with " + number, -1, Worlds.malformed(new MailMerge(), "[n=" + number + ":]"));
                MailMerge m = Worlds.one(0, number, "x");
                Desk.template(m, "[n=" + number + ":]");
                t.due("it is " + number, true, m.counts(0, 0));
            }
            Object[][] bad = {{"", 3}, {"00", 4}, {"01", 4}, {"09", 4}, {"100", 5}, {"999", 5}, {"000", 4}, {"-1", 3},
                {"+1", 3}, {"1a", 4}, {"/", 3}, {"1/", 4}, {":", 3}, {"a", 3}};
            for (Object[] each : bad) {
                t.due("error with " + each[0], each[1], Worlds.malformed(new MailMerge(), "[n=" + each[0] + ":]"));
            }
        });
        s.test("Template", "At most 4 items with \"[\" may be open at the same time; a fifth \"[\" is an error at its place.",
                t -> {
            MailMerge m = new MailMerge();
            t.due("four", 4, Desk.template(m, "[0:[1:[2:[3:]]]]"));
            t.due("open at the same time", 4, m.template(2));
            t.due("thirty, of which one is open", 30, Desk.template(m, "[0:]".repeat(30)));
            t.due("a fifth after one is closed", 6, Desk.template(m, "[0:[1:[2:[3:][4:]][4:]]]"));
            t.due("four again after all are closed", 8, Desk.template(m, "[0:[1:[2:[3:]]]]".repeat(2)));
            t.due("a fifth", 12, Worlds.malformed(m, "[0:[1:[2:[3:[4:]]]]]"));
            t.due("its place counts, not what is in it", 12, Worlds.malformed(m, "[0:[1:[2:[3:[/"));
            t.due("behind a closed one", 16, Worlds.malformed(m, "[0:[1:[2:[3:][3:[4:]]]]]"));
            t.due("after all were closed", 28, Worlds.malformed(m, "[0:[1:[2:[3:]]]][0:[1:[2:[3:[4:]]]]]"));
        });
    }

    private static void letters(Sentences s) {
        s.test("Letters", "The letter of a record consists of what the items give, one after the other.", t -> {
            MailMerge m = Worlds.one(0, 7, "Ann");
            t.due("of no items", "", Worlds.letter(m, ""));
            t.due("of each kind", "a7AnnAnncx", Worlds.letter(m, "a#@{0}<b|c>[0:x]"));
            m.setLimit(200);
            t.due("of 120 items", "7".repeat(120), Worlds.letter(m, "#".repeat(120)));
        });
        s.test("Letters", "A literal gives itself.", t -> {
            for (char sign = 32; sign <= 126; sign++) {
                if (SPECIAL.indexOf(sign) < 0) {
                    t.due("a literal", "" + sign, Worlds.letter(Worlds.one(0, 0), "" + sign));
                }
            }
        });
        s.test("Letters", "\"#\" gives the count in decimal.", t -> {
            for (int count = 0; count <= 99; count++) {
                t.due("count " + count, "" + count, Worlds.letter(Worlds.one(0, count), "#"));
            }
        });
        s.test("Letters", "\"<\" gives the literals before \"|\" if the count is 1, and otherwise those behind it.", t -> {
            for (int count = 0; count <= 99; count++) {
                MailMerge m = Worlds.one(0, count);
                t.due("count " + count, count == 1 ? "item" : "items", Worlds.letter(m, "<item|items>"));
                t.due("none before it, count " + count, count == 1 ? "" : "s", Worlds.letter(m, "<|s>"));
                t.due("none behind it, count " + count, count == 1 ? "s" : "", Worlds.letter(m, "<s|>"));
            }
        });
    }

    private static void braces(Sentences s) {
        s.test("Letters", "Braces give the field: as it is,", t -> {
            MailMerge m = Worlds.one(0, 0, "a", "Bb C", "#@{}<>|[] ", "abcdefghijkl", " ");
            t.due("each field", "a,Bb C,#@{}<>|[] ,abcdefghijkl, ", Worlds.letter(m, "{0},{1},{2},{3},{4}"));
        });
        s.test("Letters", "with \"^\" with a capital first letter, if that is a small letter,", t -> {
            String[][] cases = {{"a", "A"}, {"z", "Z"}, {"ann bob", "Ann bob"}, {"zz", "Zz"}, {"A", "A"}, {"Z", "Z"},
                {"aNN", "ANN"}, {"`a", "`a"}, {"{a", "{a"}, {" a", " a"}, {"1st", "1st"}, {"@a", "@a"}, {"[a", "[a"}};
            for (String[] each : cases) {
                t.due("of " + each[0], each[1], Worlds.letter(Worlds.one(0, 0, each[0]), "{0^}"));
            }
        });
        s.test("Letters", "and with \"*\" with capitals for all small letters;", t -> {
            String[][] cases = {{"a", "A"}, {"z", "Z"}, {"ann Bob", "ANN BOB"}, {"1st", "1ST"}, {"A", "A"},
                {"abcdefghijkl", "ABCDEFGHIJKL"}, {"mnopqrstuvwx", "MNOPQRSTUVWX"}, {"`az{", "`AZ{"}, {"12 ", "12 "}};
            for (String[] each : cases) {
                t.due("of " + each[0], each[1], Worlds.letter(Worlds.one(0, 0, each[0]), "{0*}"));
            }
        });
        s.test("Letters", "small letters are a to z.", t -> {
            for (char sign = 32; sign <= 126; sign++) {
                if (sign != '/') {
                    boolean isSmall = sign >= 97 && sign <= 122;
                    String due = "" + (char) (isSmall ? sign - 32 : sign);
                    MailMerge m = Worlds.one(0, 0, "" + sign + sign);
                    t.due("with ^", due + sign, Worlds.letter(m, "{0^}"));
                    t.due("with *", due + due, Worlds.letter(m, "{0*}"));
                }
            }
        });
    }

    private static void conditions(Sentences s) {
        s.test("Letters", "\"[\" gives what the template in it gives if all its conditions are true, and nothing otherwise.",
                t -> {
            MailMerge m = Worlds.one(3, 5, "Ann");
            String[][] cases = {{"a[0:b]c", "abc"}, {"a[1:b]c", "ac"}, {"[0&g3&n=5:b]", "b"}, {"[1&g3&n=5:b]", ""},
                {"[0&g2&n=5:b]", ""}, {"[0&g3&n=4:b]", ""}, {"a[0:]c", "ac"}, {"[0:[g3:[n=5:[!1:x]]]]", "x"},
                {"[0:[g3:[n=5:[1:x]y]z]]", "yz"}, {"[1:[0:x]y]z", "z"}, {"[0:{0}#<a|b>@]", "Ann5bAnn"},
                {"[1:{1}]", ""}, {"[1:[0:{1}]]", ""}};
            for (String[] each : cases) {
                t.due("letter by " + each[0], each[1], Worlds.letter(m, each[0]));
            }
            MailMerge many = Worlds.one(3, 5, "Ann");
            t.due("59 conditions, all true", "", Worlds.letter(many, "[0" + "&0".repeat(58) + ":]"));
            t.due("58 conditions", "x", Worlds.letter(many, "[0" + "&0".repeat(57) + ":x]"));
            t.due("the last one of 58 is false", "", Worlds.letter(many, "[0" + "&0".repeat(56) + "&1:x]"));
            t.due("the first one of 58 is false", "", Worlds.letter(many, "[1" + "&0".repeat(57) + ":x]"));
        });
        s.test("Letters", "A condition is true: with a field, if the field is not empty;", t -> {
            for (int field = 0; field < 5; field++) {
                MailMerge m = Worlds.one(0, 0);
                t.due("all are empty", "", Worlds.letter(m, "[" + field + ":x]"));
                Desk.field(m, 0, field, " ");
                t.due("one character in " + field, "x", Worlds.letter(m, "[" + field + ":x]"));
                t.due("the others are empty", "", Worlds.letter(m, "[" + (field + 1) % 5 + ":x]"));
            }
        });
        s.test("Letters", "with \"g\", if the group is the digit;", t -> {
            for (int group = 0; group <= 9; group++) {
                StringBuilder template = new StringBuilder();
                for (int digit = 0; digit <= 9; digit++) {
                    template.append("[g").append(digit).append(':').append(digit).append(']');
                }
                t.due("group " + group, "" + group, Worlds.letter(Worlds.one(group, 0), template.toString()));
            }
        });
        s.test("Letters", "with \"n\", if the count is less than, equal to, or greater than the number;", t -> {
            for (int count : new int[] {0, 1, 9, 10, 11, 50, 98, 99}) {
                MailMerge m = Worlds.one(0, count);
                for (int number : new int[] {0, 1, 9, 10, 11, 49, 50, 51, 98, 99}) {
                    String due = count < number ? "less" : count == number ? "equal" : "greater";
                    String n = number + ":";
                    t.due(count + " and " + number, due,
                            Worlds.letter(m, "[n<" + n + "less][n=" + n + "equal][n>" + n + "greater]"));
                }
            }
        });
        s.test("Letters", "with \"!\", the other way round.", t -> {
            MailMerge m = Worlds.one(3, 5, "Ann");
            String[][] cases = {{"!0", ""}, {"!1", "x"}, {"!g3", ""}, {"!g2", "x"}, {"!n<5", "x"}, {"!n<6", ""},
                {"!n=5", ""}, {"!n=4", "x"}, {"!n>5", "x"}, {"!n>4", ""}, {"!1&0", "x"}, {"0&!1", "x"}, {"!1&1", ""},
                {"!0&0", ""}, {"!1&!2", "x"}};
            for (String[] each : cases) {
                t.due("if " + each[0], each[1], Worlds.letter(m, "[" + each[0] + ":x]"));
            }
        });
    }

    private static void addressBlocks(Sentences s) {
        s.test("Letters", "\"@\" gives the address block: those of the fields 0 to 4, in this order, that are not empty, with "
                + "\"/\" between two of them, where the country is left out if it is the home country.", t -> {
            String[] texts = {"n", "co", "st", "to", "Peru"};
            for (int mask = 1; mask < 32; mask++) {
                MailMerge m = Worlds.one(0, 0);
                List<String> lines = new ArrayList<>();
                for (int field = 0; field < 5; field++) {
                    if ((mask & 1 << field) != 0) {
                        Desk.field(m, 0, field, texts[field]);
                        lines.add(texts[field]);
                    }
                }
                t.due("fields " + mask, String.join("/", lines), Worlds.letter(m, "@"));
                Desk.home(m, "Chile");
                t.due("another home country, fields " + mask, String.join("/", lines), Worlds.letter(m, "@"));
                Desk.home(m, "Peru");
                lines.remove("Peru");
                t.due("at home, fields " + mask, lines.isEmpty() ? "missing at 0" : String.join("/", lines),
                        Worlds.letter(m, "@"));
                t.due("lines at home, fields " + mask, lines.size(), m.record(0, 3));
            }
            String longest = "abcdefghijkl";
            MailMerge m = Worlds.one(0, 0, longest, longest, longest, longest, longest);
            t.due("of 64 characters", (longest + "/").repeat(4) + longest, Worlds.letter(m, "@"));
        });
    }

    private static void sameTexts(Sentences s) {
        s.test("Letters", "Two texts are the same if they have the same characters, where small letters and their capitals "
                + "count as the same.", t -> {
            String[][] cases = {{"a", "a"}, {"a", "A"}, {"z", "Z"}, {"Peru", "pERU"}, {"a", "b"}, {"a", "aa"},
                {"ab", "a"}, {"`", "@"}, {"{", "["}, {"~", "^"}, {" a", "a"}, {"a ", "a"}, {"0", "P"},
                {"abcdefghijkl", "ABCDEFGHIJKL"}, {"abcdefghijkl", "abcdefghijkk"}, {"abcdefghijkl", "bbcdefghijkl"},
                {"abcdefghijkl", "abcdefghijk"}};
            for (String[] each : cases) {
                boolean areSame = each[0].toUpperCase(Locale.ROOT).equals(each[1].toUpperCase(Locale.ROOT));
                MailMerge m = Worlds.one(0, 0, "x", "", "", "", each[0]);
                Desk.home(m, each[1]);
                t.due(each[0] + " and the home country " + each[1], areSame ? 1 : 2, m.record(0, 3));
                Desk.add(m, 0, 0, "y", "", "", "", each[1]);
                m.setKeys(16);
                t.due(each[0] + " and the key " + each[1], areSame ? "0 0" : "0 1", Worlds.kept(m));
            }
            for (char one = 32; one <= 126; one++) {
                for (char other : new char[] {(char) (one ^ 32), (char) (one + 1)}) {
                    if (one != '/' && other >= 32 && other <= 126 && other != '/') {
                        boolean areSame = ("" + one).toUpperCase(Locale.ROOT).equals(("" + other).toUpperCase(Locale.ROOT));
                        MailMerge m = Worlds.one(0, 0, "" + one);
                        Desk.add(m, 0, 0, "" + other);
                        m.setKeys(1);
                        t.due(one + " and " + other, areSame ? 0 : 1, m.kept(1));
                    }
                }
            }
        });
    }
}
