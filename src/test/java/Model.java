import java.util.ArrayList;
import java.util.LinkedHashSet;
import java.util.List;
import java.util.TreeMap;
import java.util.regex.Matcher;
import java.util.regex.Pattern;

/**
 * The document once more, with the Java library's texts and lists and no thought of speed,
 * so that the class can be compared with it.
 */
final class Model {
    private static final String ITEM = "[a-z_,./|]|<[ngwc]>";
    private static final Pattern[] KINDS = {
        Pattern.compile("[a-z]{1,8}"),
        Pattern.compile("[a-z]{1,8}\\*?"),
        Pattern.compile("(" + ITEM + "|\\{(" + ITEM + ")+\\})+"),
    };
    private static final int[][] RANGES = {{5, 40}, {1, 20}, {1, 6}, {0, 30}, {1, 9}, {1, 20}};

    private static final class P {
        String name;
        int address;
        int form;
        int word = -1;
        boolean out;
        int last = -1;
        int had;

        P twin() {
            P p = new P();
            p.name = name;
            p.address = address;
            p.form = form;
            p.word = word;
            p.out = out;
            p.last = last;
            p.had = had;
            return p;
        }
    }

    private static final class S {
        List<P> persons = new ArrayList<>();
        List<String> words = new ArrayList<>();
        String items = "";
        int[] settings = {20, 5, 4, 7, 3, 4};
        int day;
        int letters;
        int pages;
        int postage;

        S twin() {
            S s = new S();
            for (P p : persons) {
                s.persons.add(p.twin());
            }
            s.words.addAll(words);
            s.items = items;
            s.settings = settings.clone();
            s.day = day;
            s.letters = letters;
            s.pages = pages;
            s.postage = postage;
            return s;
        }
    }

    private static final class L {
        List<Integer> persons = new ArrayList<>();
        String text;
        int lines;
        int pages;
        boolean sent;
    }

    private S now = new S();
    private final List<S> saved = new ArrayList<>();
    private String buffer = "";

    private void save() {
        saved.add(now.twin());
        if (saved.size() > 6) {
            saved.remove(0);
        }
    }

    private boolean complete(int kind) {
        return KINDS[kind].matcher(buffer).matches();
    }

    private void noPerson(int person) {
        if (person < 0 || person >= now.persons.size()) {
            throw new IndexOutOfBoundsException();
        }
    }

    private static void noArgument(boolean good) {
        if (!good) {
            throw new IllegalArgumentException();
        }
    }

    private static void noIndex(boolean good) {
        if (!good) {
            throw new IndexOutOfBoundsException();
        }
    }

    private static void noState(boolean good) {
        if (!good) {
            throw new IllegalStateException();
        }
    }

    private static boolean range(int x, int least, int most) {
        return x >= least && x <= most;
    }

    // ---- the letters

    private int reason(S s, P p, int day) {
        if (p.out) {
            return 1;
        }
        if (p.last >= 0 && day - p.last < s.settings[3]) {
            return 2;
        }
        return p.word < 0 && s.items.contains("<w>") ? 3 : 0;
    }

    private static String list(List<String> parts) {
        if (parts.size() == 1) {
            return parts.get(0);
        }
        int last = parts.size() - 1;
        return String.join(",", parts.subList(0, last)) + "&" + parts.get(last);
    }

    private static String withArticle(String word) {
        String bare = word.replace("*", "");
        if (word.endsWith("*")) {
            return "some_" + bare;
        }
        return ("aeiou".indexOf(bare.charAt(0)) >= 0 ? "an_" : "a_") + bare;
    }

    private static String grammar(List<P> group) {
        LinkedHashSet<Integer> forms = new LinkedHashSet<>();
        for (P p : group) {
            forms.add(p.form);
        }
        if (forms.size() > 1) {
            return "all";
        }
        return "fmx".charAt(group.get(0).form) + (group.size() > 1 ? "s" : "");
    }

    private static String textOf(S s, List<P> group) {
        List<String> names = new ArrayList<>();
        LinkedHashSet<Integer> numbers = new LinkedHashSet<>();
        for (P p : group) {
            names.add(p.name);
            numbers.add(p.word);
        }
        String text = s.items;
        text = group.size() > 1 ? text.replace("{", "").replace("}", "") : text.replaceAll("\\{[^}]*\\}", "");
        text = text.replace("<n>", list(names)).replace("<g>", grammar(group)).replace("<c>", "" + group.size());
        if (text.contains("<w>")) {
            List<String> words = new ArrayList<>();
            for (int number : numbers) {
                words.add(withArticle(s.words.get(number)));
            }
            text = text.replace("<w>", list(words));
        }
        return text;
    }

    private static List<String> cut(String piece, int width) {
        List<String> cuts = new ArrayList<>();
        while (piece.length() > width) {
            cuts.add(piece.substring(0, width));
            piece = piece.substring(width);
        }
        cuts.add(piece);
        return cuts;
    }

    private static List<String> linesOf(String paragraph, int width) {
        List<String> lines = new ArrayList<>();
        for (String piece : paragraph.split("_", -1)) {
            for (String part : cut(piece, width)) {
                int last = lines.size() - 1;
                if (last >= 0 && (lines.get(last) + " " + part).length() <= width) {
                    lines.set(last, lines.get(last) + " " + part);
                } else {
                    lines.add(part);
                }
            }
        }
        return lines;
    }

    private List<L> letters(S s) {
        TreeMap<Integer, List<Integer>> homes = new TreeMap<>();
        for (int i = 0; i < s.persons.size(); i++) {
            if (reason(s, s.persons.get(i), s.day) == 0) {
                homes.computeIfAbsent(s.persons.get(i).address, a -> new ArrayList<>()).add(i);
            }
        }
        TreeMap<Integer, L> byFirst = new TreeMap<>();
        for (List<Integer> home : homes.values()) {
            for (int i = 0; i < home.size(); i += s.settings[2]) {
                L letter = new L();
                letter.persons.addAll(home.subList(i, Math.min(home.size(), i + s.settings[2])));
                byFirst.put(letter.persons.get(0), letter);
            }
        }
        for (L letter : byFirst.values()) {
            List<P> group = new ArrayList<>();
            for (int i : letter.persons) {
                group.add(s.persons.get(i));
            }
            letter.text = textOf(s, group);
            for (String part : letter.text.split("\\|", -1)) {
                int lines = 0;
                for (String paragraph : part.split("/", -1)) {
                    lines += linesOf(paragraph, s.settings[0]).size();
                }
                letter.lines += lines;
                letter.pages += (lines + s.settings[1] - 1) / s.settings[1];
            }
            letter.sent = letter.pages <= s.settings[4];
        }
        return new ArrayList<>(byFirst.values());
    }

    /** Letters, persons, pages and postage of what would be sent. */
    private int[] totals(S s) {
        int[] totals = new int[4];
        for (L letter : letters(s)) {
            if (letter.sent) {
                totals[0]++;
                totals[1] += letter.persons.size();
                totals[2] += letter.pages;
                totals[3] += letter.pages * s.settings[5];
            }
        }
        return totals;
    }

    private int[] totalsIf(int setting, int value) {
        S s = now.twin();
        s.settings[setting] = value;
        return totals(s);
    }

    // ---- the face

    int addPerson(int address, int form) {
        noArgument(range(address, 0, 19) && range(form, 0, 2) && complete(0));
        noState(now.persons.size() < 20);
        save();
        P p = new P();
        p.name = buffer;
        p.address = address;
        p.form = form;
        now.persons.add(p);
        buffer = "";
        return now.persons.size() - 1;
    }

    int addWord() {
        noArgument(complete(1));
        noState(now.words.size() < 10);
        save();
        now.words.add(buffer);
        buffer = "";
        return now.words.size() - 1;
    }

    int take() {
        noArgument(complete(2));
        save();
        now.items = buffer;
        buffer = "";
        return count(2);
    }

    int move(int person, int address) {
        noPerson(person);
        noArgument(range(address, 0, 19));
        save();
        int previous = now.persons.get(person).address;
        now.persons.get(person).address = address;
        return previous;
    }

    int give(int person, int word) {
        noPerson(person);
        noIndex(range(word, -1, now.words.size() - 1));
        save();
        int previous = now.persons.get(person).word;
        now.persons.get(person).word = word;
        return previous;
    }

    int unsubscribe(int person, boolean is) {
        noPerson(person);
        save();
        now.persons.get(person).out = is;
        return count(12);
    }

    int set(int setting, int value) {
        noIndex(range(setting, 0, 5));
        noArgument(range(value, RANGES[setting][0], RANGES[setting][1]));
        save();
        int previous = now.settings[setting];
        now.settings[setting] = value;
        return previous;
    }

    int send() {
        int[] totals = totals(now);
        noState(!now.items.isEmpty() && totals[0] > 0);
        save();
        for (L letter : letters(now)) {
            if (letter.sent) {
                for (int i : letter.persons) {
                    now.persons.get(i).last = now.day;
                    now.persons.get(i).had++;
                }
            }
        }
        now.letters += totals[0];
        now.pages += totals[2];
        now.postage += totals[3];
        return totals[0];
    }

    int pass(int days) {
        noArgument(range(days, 1, 100));
        noState(now.day + days <= 10000);
        save();
        now.day += days;
        return now.day;
    }

    int append(int code) {
        noArgument(range(code, 33, 126));
        noState(buffer.length() < 60);
        buffer += (char) code;
        return buffer.length();
    }

    int clearBuffer() {
        int length = buffer.length();
        buffer = "";
        return length;
    }

    int firstError(int kind) {
        noArgument(range(kind, 0, 2));
        for (int i = 0; i < buffer.length(); i++) {
            Matcher matcher = KINDS[kind].matcher(buffer.substring(0, i + 1));
            if (!matcher.matches() && !matcher.hitEnd()) {
                return i;
            }
        }
        return buffer.length();
    }

    int undo() {
        noState(!saved.isEmpty());
        now = saved.remove(saved.size() - 1);
        return saved.size();
    }

    int person(int person, int what) {
        noPerson(person);
        noArgument(range(what, 0, 8));
        P p = now.persons.get(person);
        List<L> letters = letters(now);
        int in = -1;
        for (int i = 0; i < letters.size(); i++) {
            if (letters.get(i).persons.contains(person)) {
                in = i;
            }
        }
        int reason = reason(now, p, now.day);
        if (reason == 0 && !letters.get(in).sent) {
            reason = 4;
        }
        int[] values = {p.name.length(), p.address, p.form, p.word, p.out ? 1 : 0, p.last, p.had, in, reason};
        return values[what];
    }

    int name(int person, int place) {
        noPerson(person);
        noIndex(range(place, 0, now.persons.get(person).name.length() - 1));
        return now.persons.get(person).name.charAt(place);
    }

    int word(int word, int what) {
        noIndex(range(word, 0, now.words.size() - 1));
        noArgument(range(what, 0, 3) || range(what, 10, 17));
        String text = now.words.get(word);
        String bare = text.replace("*", "");
        int owners = 0;
        for (P p : now.persons) {
            owners += p.word == word ? 1 : 0;
        }
        if (what >= 10) {
            return what - 10 < bare.length() ? bare.charAt(what - 10) : -1;
        }
        int[] values = {bare.length(), text.equals(bare) ? 0 : 1, owners, withArticle(text).indexOf('_')};
        return values[what];
    }

    int letter(int letter, int what) {
        List<L> letters = letters(now);
        noIndex(range(letter, 0, letters.size() - 1));
        noArgument(range(what, 0, 7));
        L l = letters.get(letter);
        int first = l.persons.get(0);
        int[] values = {first, l.persons.size(), now.persons.get(first).address, l.text.length(), l.lines, l.pages,
            l.pages * now.settings[5], l.sent ? 1 : 0};
        return values[what];
    }

    int sign(int letter, int place) {
        List<L> letters = letters(now);
        noIndex(range(letter, 0, letters.size() - 1));
        noIndex(range(place, 0, letters.get(letter).text.length() - 1));
        return letters.get(letter).text.charAt(place);
    }

    int members(int letter) {
        List<L> letters = letters(now);
        noIndex(range(letter, 0, letters.size() - 1));
        int mask = 0;
        for (int i : letters.get(letter).persons) {
            mask += 1 << i;
        }
        return mask;
    }

    int count(int what) {
        noArgument(range(what, 0, 14));
        int out = 0;
        for (P p : now.persons) {
            out += p.out ? 1 : 0;
        }
        int fields = now.items.split("<", -1).length - 1;
        int items = now.items.replaceAll("<.>", "F").replace("}", "").length();
        int[] totals = totals(now);
        int[] values = {now.persons.size(), now.words.size(), fields, now.day, letters(now).size(), totals[0],
            totals[1], totals[2], totals[3], now.letters, now.pages, now.postage, out, items, saved.size()};
        return values[what];
    }

    int setting(int setting) {
        noIndex(range(setting, 0, 5));
        return now.settings[setting];
    }

    int ifSet(int setting, int value, int what) {
        noIndex(range(setting, 0, 5));
        noArgument(range(value, RANGES[setting][0], RANGES[setting][1]) && range(what, 0, 3));
        return totalsIf(setting, value)[what];
    }

    int bestJoin() {
        int best = 1;
        for (int joined = 2; joined <= 6; joined++) {
            int[] there = totalsIf(2, joined);
            int[] here = totalsIf(2, best);
            if (there[1] > here[1] || (there[1] == here[1] && there[3] < here[3])) {
                best = joined;
            }
        }
        return best;
    }

    int narrowest() {
        int[] widest = totalsIf(0, 40);
        for (int width = 5; width < 40; width++) {
            int[] there = totalsIf(0, width);
            if (there[0] == widest[0] && there[2] == widest[2]) {
                return width;
            }
        }
        return 40;
    }

    int readyIn(int person) {
        noPerson(person);
        for (int days = 0; days <= 40; days++) {
            if (reason(now, now.persons.get(person), now.day + days) == 0) {
                return days;
            }
        }
        return -1;
    }

    double share() {
        return now.persons.isEmpty() ? 0.0 : (double) count(6) / count(0);
    }

    long digest() {
        List<Long> values = new ArrayList<>();
        for (int what = 0; what <= 14; what++) {
            values.add((long) count(what));
        }
        for (int setting = 0; setting <= 5; setting++) {
            values.add((long) setting(setting));
        }
        for (int i = 0; i < now.persons.size(); i++) {
            for (int what = 0; what <= 8; what++) {
                values.add((long) person(i, what));
            }
            addText(values, now.persons.get(i).name);
            values.add((long) readyIn(i));
        }
        for (int i = 0; i < now.words.size(); i++) {
            for (int what = 0; what <= 17; what = what == 3 ? 10 : what + 1) {
                values.add((long) word(i, what));
            }
        }
        List<L> letters = letters(now);
        for (int i = 0; i < letters.size(); i++) {
            for (int what = 0; what <= 7; what++) {
                values.add((long) letter(i, what));
            }
            values.add((long) members(i));
            addText(values, letters.get(i).text);
        }
        values.add((long) bestJoin());
        values.add((long) narrowest());
        values.add(Double.doubleToLongBits(share()));
        values.add((long) buffer.length());
        addText(values, buffer);
        long hash = 2377;
        for (long value : values) {
            hash = 31 * hash + value;
        }
        return hash;
    }

    private static void addText(List<Long> values, String text) {
        for (int i = 0; i < text.length(); i++) {
            values.add((long) text.charAt(i));
        }
    }
}
