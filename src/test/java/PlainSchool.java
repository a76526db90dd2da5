import java.util.ArrayList;
import java.util.Arrays;
import java.util.Collections;
import java.util.HashMap;
import java.util.HashSet;
import java.util.List;
import java.util.Map;
import java.util.Set;

/**
 * The document once more, told as plainly as can be: all ways are listed and the best is taken.
 * Only for small inputs; AgainstPlainSchoolTest holds PenSchool against it.
 */
final class PlainSchool {
    static final int NONE = -1;
    static final int RANGE = -2;
    static final int FULL = -3;
    static final int STATE = -4;

    record Sign(String row, int way, int length) {
    }

    record Term(String row, int count) {
    }

    record Candidate(int term, List<Integer> signs) {
    }

    record Note(int spot, List<Integer> signs, int place, boolean all, int tick) {
    }

    record Mark(int pupil, int day, int words, int wrong, int told) {
    }

    record Righting(int mark, int words, int wrong, int told) {
    }

    record Condition(String subject, String relation, int n) {
    }

    record Line(List<Condition> conditions, String act, int n) {
    }

    record Token(char kind, String text, int place) {
    }

    static final class Fault extends RuntimeException {
        private static final long serialVersionUID = 1L;
        final int kind;
        final int place;

        Fault(int kind, int place) {
            this.kind = kind;
            this.place = place;
        }
    }

    static final class Sys {
        String vowels = "";
        int length = 2;
        int turn = 1;
        int lift = 6;
        int sharp = 4;
        int drop = 0;
        int phrase = 3;
        int clauses = 0;
        List<Sign> signs = new ArrayList<>();
    }

    StringBuilder tape = new StringBuilder();
    Sys sys = new Sys();
    List<Line> lines = new ArrayList<>();
    int faultKind = 0;
    int faultPlace = NONE;
    List<Term> terms = new ArrayList<>();
    private final Map<Integer, List<Integer>> outlines = new HashMap<>();
    List<Candidate> candidates = new ArrayList<>();
    List<Candidate> adopted = new ArrayList<>();
    int chosen = 0;
    Set<List<Integer>> joins = new HashSet<>();
    int[][] beside = new int[60][60];
    List<Integer> passage = new ArrayList<>();
    List<Integer> phrases = new ArrayList<>();
    int[] taken = null;
    List<Note> notes = new ArrayList<>();
    List<Integer> dictated = new ArrayList<>();
    List<Integer> back = null;
    List<Integer> order = new ArrayList<>();
    List<Mark> marks = new ArrayList<>();
    List<Righting> rightings = new ArrayList<>();

    int feed(int a, int b, int c, int d, int e) {
        if (tape.length() + 20 > 800) {
            return FULL;
        }
        for (int word : new int[] {a, b, c, d, e}) {
            tape.append((char) (word >>> 24)).append((char) (word >>> 16 & 255));
            tape.append((char) (word >>> 8 & 255)).append((char) (word & 255));
        }
        return tape.length();
    }

    int end(int n) {
        if (n < 0 || n > tape.length()) {
            return NONE;
        }
        tape.setLength(n);
        return n;
    }

    private String takeTape() {
        String text = tape.toString();
        tape.setLength(0);
        return text;
    }

    // ---- texts

    /** The next TOKEN from a place on; kinds: w, n, ; or e at the end, ? for what is none. */
    private static Token tokenAt(String text, int from) {
        int at = from;
        while (at < text.length() && " \n".indexOf(text.charAt(at)) >= 0) {
            at++;
        }
        if (at == text.length()) {
            return new Token('e', "", at);
        }
        String rest = text.substring(at);
        String letters = rest.replaceFirst("(?s)[^a-z].*", "");
        String digits = rest.replaceFirst("(?s)[^0-9].*", "");
        if (!letters.isEmpty()) {
            return new Token(letters.length() > 12 ? '?' : 'w', letters, at);
        }
        if (!digits.isEmpty()) {
            return new Token(digits.length() > 4 ? '?' : 'n', digits, at);
        }
        return new Token(rest.charAt(0) == ';' ? ';' : '?', rest.substring(0, 1), at);
    }

    private static final class Tokens {
        final String text;
        Token now;

        Tokens(String text) {
            this.text = text;
            now = tokenAt(text, 0);
        }

        Token take() {
            Token token = now;
            if (token.kind == 'e') {
                throw new Fault(1, token.place);
            }
            now = tokenAt(text, token.place + token.text.length());
            return token;
        }

        Token word(String... allowed) {
            Token token = take();
            if (token.kind != 'w' || !Arrays.asList(allowed).contains(token.text)) {
                throw new Fault(1, token.place);
            }
            return token;
        }

        int number(int least, int most) {
            Token token = take();
            if (token.kind != 'n') {
                throw new Fault(1, token.place);
            }
            int n = Integer.parseInt(token.text);
            if (n < least || n > most) {
                throw new Fault(2, token.place);
            }
            return n;
        }

        Token row(int most) {
            Token token = take();
            if (token.kind != 'w' || !token.text.matches("[a-p]+")) {
                throw new Fault(1, token.place);
            }
            if (token.text.length() > most) {
                throw new Fault(2, token.place);
            }
            return token;
        }

        void semicolon() {
            Token token = take();
            if (token.kind != ';') {
                throw new Fault(1, token.place);
            }
        }
    }

    private static Sys parseSystem(String text) {
        Sys s = new Sys();
        Set<String> told = new HashSet<>();
        Tokens in = new Tokens(text);
        while (in.now.kind != 'e') {
            Token first = in.word("vowels", "sign", "length", "turn", "lift", "sharp", "drop", "phrase");
            if (!first.text.equals("sign") && !told.add(first.text)) {
                throw new Fault(3, first.place);
            }
            switch (first.text) {
                case "vowels" -> {
                    Token row = in.row(5);
                    if (row.text.chars().distinct().count() < row.text.length()) {
                        throw new Fault(2, row.place);
                    }
                    s.vowels = row.text;
                }
                case "sign" -> {
                    if (s.signs.size() == 30) {
                        throw new Fault(4, first.place);
                    }
                    Token row = in.row(4);
                    if (s.signs.stream().anyMatch(other -> other.row.equals(row.text))) {
                        throw new Fault(3, row.place);
                    }
                    int way = in.number(0, 7);
                    s.signs.add(new Sign(row.text, way, in.number(1, 3)));
                }
                case "length" -> s.length = in.number(0, 9);
                case "turn" -> s.turn = in.number(0, 9);
                case "lift" -> s.lift = in.number(0, 99);
                case "sharp" -> s.sharp = in.number(0, 4);
                case "phrase" -> s.phrase = in.number(1, 8);
                default -> s.drop = List.of("none", "inner", "all").indexOf(in.word("all", "inner", "none").text);
            }
            in.semicolon();
            s.clauses++;
        }
        return s;
    }

    private static List<Line> parsePolicy(String text) {
        List<Line> lines = new ArrayList<>();
        Tokens in = new Tokens(text);
        while (in.now.kind != 'e') {
            Token first = in.word("when");
            if (lines.size() == 8) {
                throw new Fault(4, first.place);
            }
            List<Condition> conditions = new ArrayList<>();
            Token joint;
            do {
                String subject = in.word("mind", "late", "cost", "count", "signs").text;
                String relation = in.word("above", "below", "is").text;
                conditions.add(new Condition(subject, relation, in.number(0, 9999)));
                joint = in.word("and", "do");
                if (joint.text.equals("and") && conditions.size() == 4) {
                    throw new Fault(4, joint.place);
                }
            } while (joint.text.equals("and"));
            String act = in.word("write", "drop", "short", "rest").text;
            int n = act.equals("short") ? in.number(1, 6) : act.equals("rest") ? in.number(1, 50) : 0;
            in.semicolon();
            lines.add(new Line(conditions, act, n));
        }
        return lines;
    }

    private void tellFault(int kind, int place) {
        faultKind = kind;
        faultPlace = place;
    }

    int system() {
        try {
            sys = parseSystem(takeTape());
        } catch (Fault f) {
            tellFault(f.kind, f.place);
            return NONE;
        }
        tellFault(0, NONE);
        outlines.clear();
        candidates.clear();
        adopted.clear();
        chosen = 0;
        taken = null;
        notes.clear();
        back = null;
        order.clear();
        return sys.clauses;
    }

    int policy() {
        try {
            lines = parsePolicy(takeTape());
        } catch (Fault f) {
            tellFault(f.kind, f.place);
            return NONE;
        }
        tellFault(0, NONE);
        return lines.size();
    }

    int fault(int what) {
        return what == 0 ? faultKind : what == 1 ? faultPlace : NONE;
    }

    int rule(int what) {
        if (what >= 10 && what < 10 + sys.vowels.length()) {
            return sys.vowels.charAt(what - 10) - 'a';
        }
        return switch (what) {
            case 0 -> sys.vowels.length();
            case 1 -> sys.length;
            case 2 -> sys.turn;
            case 3 -> sys.lift;
            case 4 -> sys.sharp;
            case 5 -> sys.drop;
            case 6 -> sys.phrase;
            case 7 -> sys.signs.size();
            default -> -9;
        };
    }

    int sign(int s, int what) {
        if (s < 0 || s >= sys.signs.size()) {
            return -9;
        }
        Sign sign = sys.signs.get(s);
        if (what >= 10 && what < 10 + sign.row.length()) {
            return sign.row.charAt(what - 10) - 'a';
        }
        return switch (what) {
            case 0 -> sign.way;
            case 1 -> sign.length;
            case 2 -> sign.row.length();
            default -> -9;
        };
    }

    // ---- terms

    private boolean isVowel(String row, int i) {
        return sys.vowels.indexOf(row.charAt(i)) >= 0;
    }

    private String skeleton(int t) {
        String row = terms.get(t).row;
        StringBuilder kept = new StringBuilder();
        for (int i = 0; i < row.length(); i++) {
            boolean outer = i == 0 || i == row.length() - 1;
            if (!isVowel(row, i) || sys.drop == 0 || sys.drop == 1 && outer) {
                kept.append(row.charAt(i));
            }
        }
        return kept.toString();
    }

    private int place(int t) {
        String row = terms.get(t).row;
        for (int i = 0; i < row.length(); i++) {
            if (isVowel(row, i)) {
                return sys.vowels.indexOf(row.charAt(i)) % 3;
            }
        }
        return 1;
    }

    private int turn(int s, int next) {
        int apart = Math.abs(sys.signs.get(s).way - sys.signs.get(next).way);
        return Math.min(apart, 8 - apart);
    }

    private int cost(List<Integer> signs) {
        int sum = 0;
        for (int s : signs) {
            sum += sys.length * sys.signs.get(s).length;
        }
        for (int i = 0; i + 1 < signs.size(); i++) {
            int turn = turn(signs.get(i), signs.get(i + 1));
            sum += turn <= sys.sharp ? turn * sys.turn : sys.lift;
        }
        return sum;
    }

    private int lifts(List<Integer> signs) {
        int sum = 0;
        for (int i = 0; i + 1 < signs.size(); i++) {
            sum += turn(signs.get(i), signs.get(i + 1)) > sys.sharp ? 1 : 0;
        }
        return sum;
    }

    private static int compareRows(List<Integer> a, List<Integer> b) {
        for (int i = 0; i < a.size() && i < b.size(); i++) {
            if (!a.get(i).equals(b.get(i))) {
                return Integer.compare(a.get(i), b.get(i));
            }
        }
        return Integer.compare(a.size(), b.size());
    }

    private void allDrawings(String rest, List<Integer> sofar, List<List<Integer>> found) {
        if (rest.isEmpty()) {
            found.add(new ArrayList<>(sofar));
            return;
        }
        for (int s = 0; s < sys.signs.size(); s++) {
            String row = sys.signs.get(s).row;
            if (rest.startsWith(row)) {
                sofar.add(s);
                allDrawings(rest.substring(row.length()), sofar, found);
                sofar.remove(sofar.size() - 1);
            }
        }
    }

    private List<Integer> outline(int t) {
        if (!outlines.containsKey(t)) {
            outlines.put(t, bestDrawing(t));
        }
        return outlines.get(t);
    }

    private List<Integer> bestDrawing(int t) {
        String skeleton = skeleton(t);
        List<List<Integer>> found = new ArrayList<>();
        if (!skeleton.isEmpty()) {
            allDrawings(skeleton, new ArrayList<>(), found);
        }
        List<Integer> best = null;
        for (List<Integer> row : found) {
            if (best == null || cost(row) < cost(best) || cost(row) == cost(best)
                    && (row.size() < best.size() || row.size() == best.size() && compareRows(row, best) < 0)) {
                best = row;
            }
        }
        return best;
    }

    private List<Integer> form(int t) {
        for (Candidate c : adopted) {
            if (c.term == t) {
                return c.signs;
            }
        }
        return outline(t);
    }

    private boolean looks(List<Integer> a, int placeA, List<Integer> b, int placeB) {
        if (a == null || b == null || placeA != placeB || a.size() != b.size()) {
            return false;
        }
        for (int i = 0; i < a.size(); i++) {
            Sign p = sys.signs.get(a.get(i));
            Sign q = sys.signs.get(b.get(i));
            if (p.way != q.way || p.length != q.length) {
                return false;
            }
        }
        return true;
    }

    int term(int count) {
        String text = takeTape().replaceAll("^[ \n]+|[ \n]+$", "");
        if (count < 1 || count > 9999) {
            return RANGE;
        }
        if (!text.matches("[a-p]{1,10}")) {
            return NONE;
        }
        if (terms.stream().anyMatch(t -> t.row.equals(text))) {
            return STATE;
        }
        if (terms.size() == 60) {
            return FULL;
        }
        terms.add(new Term(text, count));
        return terms.size() - 1;
    }

    private boolean knows(int t) {
        return t >= 0 && t < terms.size();
    }

    private static int element(List<Integer> row, int i) {
        return row == null || i < 0 || i >= row.size() ? -9 : row.get(i);
    }

    int about(int t, int what) {
        if (!knows(t)) {
            return -9;
        }
        List<Integer> outline = outline(t);
        List<Integer> form = form(t);
        if (what >= 50) {
            return what - 50 < skeleton(t).length() ? skeleton(t).charAt(what - 50) - 'a' : -9;
        }
        if (what >= 30) {
            return element(form, what - 30);
        }
        if (what >= 10) {
            return element(outline, what - 10);
        }
        return switch (what) {
            case 0 -> terms.get(t).count;
            case 1 -> terms.get(t).row.length();
            case 2 -> place(t);
            case 3 -> skeleton(t).length();
            case 4 -> outline == null ? NONE : outline.size();
            case 5 -> outline == null ? NONE : cost(outline);
            case 6 -> form == null ? NONE : form.size();
            case 7 -> form == null ? NONE : cost(form);
            case 8 -> form == null ? NONE : lifts(form);
            default -> -9;
        };
    }

    int alike(int t) {
        if (!knows(t)) {
            return RANGE;
        }
        if (form(t) == null) {
            return NONE;
        }
        int sum = 0;
        for (int u = 0; u < terms.size(); u++) {
            sum += u != t && looks(form(t), place(t), form(u), place(u)) ? 1 : 0;
        }
        return sum;
    }

    // ---- briefs

    int candidate(int t) {
        String text = takeTape();
        if (!knows(t)) {
            return RANGE;
        }
        List<Integer> signs = new ArrayList<>();
        for (char c : text.toCharArray()) {
            signs.add(c - 65);
        }
        boolean known = signs.stream().allMatch(s -> s >= 0 && s < sys.signs.size());
        if (!known || signs.isEmpty() || signs.size() > 3) {
            return NONE;
        }
        if (candidates.size() == 12) {
            return FULL;
        }
        candidates.add(new Candidate(t, signs));
        chosen = 0;
        return candidates.size() - 1;
    }

    private List<Candidate> members(int set) {
        List<Candidate> found = new ArrayList<>();
        for (int i = 0; i < candidates.size(); i++) {
            if ((set >> i & 1) != 0) {
                found.add(candidates.get(i));
            }
        }
        return found;
    }

    private boolean canBeChosen(int set) {
        List<Candidate> members = members(set);
        Set<Integer> owners = new HashSet<>();
        for (Candidate c : members) {
            if (!owners.add(c.term) || outline(c.term) == null) {
                return false;
            }
        }
        for (Candidate c : members) {
            for (Candidate d : members) {
                if (c != d && looks(c.signs, place(c.term), d.signs, place(d.term))) {
                    return false;
                }
            }
            for (int t = 0; t < terms.size(); t++) {
                if (!owners.contains(t) && looks(c.signs, place(c.term), outline(t), place(t))) {
                    return false;
                }
            }
        }
        return true;
    }

    private int saved(int set) {
        int sum = 0;
        for (Candidate c : members(set)) {
            sum += terms.get(c.term).count * (cost(outline(c.term)) - cost(c.signs));
        }
        return sum;
    }

    int choose(int n) {
        if (n < 0 || n > 12) {
            return RANGE;
        }
        int best = 0;
        for (int set = 0; set < 1 << candidates.size(); set++) {
            if (Integer.bitCount(set) > n || !canBeChosen(set)) {
                continue;
            }
            int more = saved(set) - saved(best);
            if (more > 0 || more == 0 && Integer.bitCount(set) < Integer.bitCount(best)) {
                best = set;
            }
        }
        chosen = best;
        return saved(best);
    }

    int chosen() {
        return chosen;
    }

    private boolean isSet(int set) {
        return set >= 0 && set < 1 << candidates.size();
    }

    int saves(int set) {
        return !isSet(set) ? RANGE : canBeChosen(set) ? saved(set) : NONE;
    }

    int adopt(int set) {
        if (!isSet(set)) {
            return RANGE;
        }
        if (!canBeChosen(set)) {
            return NONE;
        }
        adopted = members(set);
        return adopted.size();
    }

    // ---- passages

    int joins(int p, int q, boolean is) {
        if (!knows(p) || !knows(q)) {
            return RANGE;
        }
        return (is ? joins.add(List.of(p, q)) : joins.remove(List.of(p, q))) ? 1 : 0;
    }

    int beside(int p, int q, int points) {
        if (!knows(p) || !knows(q) || points < 0 || points > 999) {
            return RANGE;
        }
        int was = beside[p][q];
        beside[p][q] = points;
        return was;
    }

    int clear() {
        int had = passage.size();
        passage.clear();
        return had;
    }

    int say(int t) {
        if (!knows(t)) {
            return RANGE;
        }
        if (passage.size() == 60) {
            return FULL;
        }
        passage.add(t);
        return passage.size();
    }

    private boolean allHaveForms() {
        return passage.stream().allMatch(t -> form(t) != null);
    }

    private int last(int t) {
        return form(t).get(form(t).size() - 1);
    }

    private void allCuts(int from, List<Integer> sofar, List<List<Integer>> found) {
        if (from == passage.size()) {
            found.add(new ArrayList<>(sofar));
            return;
        }
        for (int n = 1; n <= sys.phrase && from + n <= passage.size(); n++) {
            if (n > 1) {
                int p = passage.get(from + n - 2);
                int q = passage.get(from + n - 1);
                if (!joins.contains(List.of(p, q)) || turn(last(p), form(q).get(0)) > sys.sharp) {
                    return;
                }
            }
            sofar.add(n);
            allCuts(from + n, sofar, found);
            sofar.remove(sofar.size() - 1);
        }
    }

    private int cutCost(List<Integer> cut) {
        int sum = 0;
        for (int t : passage) {
            sum += cost(form(t));
        }
        int at = 0;
        for (int n : cut) {
            for (int i = at; i + 1 < at + n; i++) {
                sum += sys.turn * turn(last(passage.get(i)), form(passage.get(i + 1)).get(0));
            }
            at += n;
        }
        return sum + sys.lift * (cut.size() - 1);
    }

    int phrased() {
        if (passage.isEmpty()) {
            return STATE;
        }
        if (!allHaveForms()) {
            return NONE;
        }
        List<List<Integer>> found = new ArrayList<>();
        allCuts(0, new ArrayList<>(), found);
        List<Integer> best = found.get(0);
        for (List<Integer> cut : found) {
            int more = cutCost(cut) - cutCost(best);
            if (more < 0 || more == 0 && (cut.size() < best.size()
                    || cut.size() == best.size() && compareRows(cut, best) < 0)) {
                best = cut;
            }
        }
        phrases = best;
        return cutCost(best);
    }

    int phrase(int what) {
        if (what == 0 && !phrases.isEmpty()) {
            return phrases.size();
        }
        return what >= 10 && what - 10 < phrases.size() ? phrases.get(what - 10) : NONE;
    }

    // ---- dictation

    private boolean holds(Condition c, int mind, int late, int t) {
        int value = switch (c.subject) {
            case "mind" -> mind;
            case "late" -> late;
            case "cost" -> cost(form(t));
            case "count" -> terms.get(t).count;
            default -> form(t).size();
        };
        return switch (c.relation) {
            case "above" -> value > c.n;
            case "below" -> value < c.n;
            default -> value == c.n;
        };
    }

    private Line lineFor(int mind, int late, int t) {
        for (Line line : lines) {
            if (line.conditions.stream().allMatch(c -> holds(c, mind, late, t))) {
                return line;
            }
        }
        return new Line(List.of(), "write", 0);
    }

    /** Tick by tick. */
    int dictate(int pace, int mind) {
        if (pace < 1 || pace > 99 || mind < 1 || mind > 20) {
            return RANGE;
        }
        if (passage.isEmpty()) {
            return STATE;
        }
        if (!allHaveForms()) {
            return NONE;
        }
        taken = new int[6];
        notes.clear();
        back = null;
        dictated = new ArrayList<>(passage);
        List<Integer> inMind = new ArrayList<>();
        int free = 0;
        boolean resting = false;
        for (int tick = 0; tick < 99999; tick++) {
            if (tick % pace == 0 && tick / pace < dictated.size()) {
                if (inMind.size() < mind) {
                    inMind.add(tick / pace);
                } else {
                    taken[1]++;
                }
            }
            resting = resting && tick < free;
            while (tick == free && !inMind.isEmpty()) {
                int spot = inMind.get(0);
                int t = dictated.get(spot);
                int late = tick - spot * pace;
                Line line = lineFor(inMind.size(), late, t);
                if (line.act.equals("rest")) {
                    resting = true;
                    free = tick + line.n;
                    continue;
                }
                inMind.remove(0);
                if (line.act.equals("drop")) {
                    taken[2]++;
                    continue;
                }
                List<Integer> form = form(t);
                int n = line.act.equals("short") ? Math.min(line.n, form.size()) : form.size();
                notes.add(new Note(spot, form.subList(0, n), place(t), n == form.size(), tick));
                taken[0]++;
                taken[3] += n < form.size() ? 1 : 0;
                taken[4] = Math.max(taken[4], late);
                free = tick + Math.max(1, cost(form.subList(0, n)));
            }
            if (tick == free && inMind.isEmpty() && tick >= (dictated.size() - 1) * pace) {
                return tick;
            }
            taken[5] += resting ? 1 : 0;
            free = Math.max(free, tick + 1);
        }
        taken[1] += inMind.size();
        return 99999;
    }

    int taken(int what) {
        return taken == null || what < 0 || what > 5 ? NONE : taken[what];
    }

    int note(int i, int what) {
        if (i < 0 || i >= notes.size()) {
            return -9;
        }
        Note note = notes.get(i);
        return switch (what) {
            case 0 -> note.spot;
            case 1 -> note.signs.size();
            case 2 -> note.place;
            case 3 -> note.all ? 1 : 0;
            case 4 -> note.tick;
            default -> element(note.signs, what < 10 ? -1 : what - 10);
        };
    }

    int reads(int i, int t) {
        if (i < 0 || i >= notes.size() || !knows(t)) {
            return RANGE;
        }
        Note note = notes.get(i);
        List<Integer> form = form(t);
        if (form == null) {
            return 0;
        }
        if (note.all) {
            return looks(note.signs, note.place, form, place(t)) ? 1 : 0;
        }
        int n = note.signs.size();
        return form.size() > n && looks(note.signs, note.place, form.subList(0, n), place(t)) ? 1 : 0;
    }

    private int points(List<Integer> row) {
        int sum = 0;
        for (int i = 0; i < row.size(); i++) {
            sum += terms.get(row.get(i)).count + (i == 0 ? 0 : beside[row.get(i - 1)][row.get(i)]);
        }
        return sum;
    }

    private void allReadings(List<Integer> sofar, List<List<Integer>> found) {
        if (sofar.size() == notes.size()) {
            found.add(new ArrayList<>(sofar));
            return;
        }
        for (int t = 0; t < terms.size(); t++) {
            if (reads(sofar.size(), t) == 1) {
                sofar.add(t);
                allReadings(sofar, found);
                sofar.remove(sofar.size() - 1);
            }
        }
    }

    /** How many rows readBack() would list. */
    long readings() {
        long product = 1;
        for (int i = 0; i < notes.size() && product < 1000000; i++) {
            long ways = 0;
            for (int t = 0; t < terms.size(); t++) {
                ways += reads(i, t);
            }
            product *= Math.max(1, ways);
        }
        return product;
    }

    int readBack() {
        if (taken == null) {
            return STATE;
        }
        List<List<Integer>> found = new ArrayList<>();
        allReadings(new ArrayList<>(), found);
        if (found.isEmpty()) {
            return NONE;
        }
        // They are listed from the least row on.
        List<Integer> best = found.get(0);
        for (List<Integer> row : found) {
            if (points(row) > points(best)) {
                best = row;
            }
        }
        back = best;
        return points(best);
    }

    int back(int i) {
        return back == null || i < 0 || i >= back.size() ? NONE : back.get(i);
    }

    int wrong() {
        if (back == null) {
            return NONE;
        }
        int[][] d = new int[back.size() + 1][dictated.size() + 1];
        for (int i = 0; i <= back.size(); i++) {
            for (int j = 0; j <= dictated.size(); j++) {
                if (i == 0 || j == 0) {
                    d[i][j] = i + j;
                } else {
                    int same = back.get(i - 1).equals(dictated.get(j - 1)) ? 0 : 1;
                    d[i][j] = Math.min(d[i - 1][j - 1] + same, 1 + Math.min(d[i - 1][j], d[i][j - 1]));
                }
            }
        }
        return d[back.size()][dictated.size()];
    }

    // ---- lessons, pupils

    private int gain(List<Integer> row) {
        int sum = 0;
        for (int n = 1; n <= row.size(); n++) {
            List<Integer> missing = row.subList(n, row.size());
            for (int t = 0; t < terms.size(); t++) {
                List<Integer> form = form(t);
                if (form != null && Collections.disjoint(form, missing)) {
                    sum += terms.get(t).count;
                }
            }
        }
        return sum;
    }

    private void allOrders(List<Integer> left, List<Integer> sofar, List<List<Integer>> found) {
        if (left.isEmpty()) {
            found.add(new ArrayList<>(sofar));
            return;
        }
        for (Integer s : left) {
            List<Integer> rest = new ArrayList<>(left);
            rest.remove(s);
            sofar.add(s);
            allOrders(rest, sofar, found);
            sofar.remove(sofar.size() - 1);
        }
    }

    int lessons(int set) {
        List<Integer> signs = new ArrayList<>();
        for (int s = 0; s < 32; s++) {
            if ((set >>> s & 1) != 0) {
                signs.add(s);
            }
        }
        if (signs.isEmpty() || signs.size() > 10 || signs.get(signs.size() - 1) >= sys.signs.size()) {
            return RANGE;
        }
        List<List<Integer>> found = new ArrayList<>();
        allOrders(signs, new ArrayList<>(), found);
        List<Integer> best = found.get(0);
        int most = gain(best);
        for (List<Integer> row : found) {
            int gain = gain(row);
            if (gain > most) {
                best = row;
                most = gain;
            }
        }
        order = best;
        return most;
    }

    int lesson(int i) {
        return i < 0 || i >= order.size() ? NONE : order.get(i);
    }

    private static boolean within(int n, int most) {
        return n >= 0 && n <= most;
    }

    private boolean canTell(int words, int wrong, int told) {
        boolean falls = marks.stream().anyMatch(m -> m.told > told)
                || rightings.stream().anyMatch(r -> r.told > told);
        return within(words, 300) && within(wrong, 300) && within(told, 999) && !falls;
    }

    int mark(int p, int day, int words, int wrong, int told) {
        if (!within(p, 19) || !within(day, 999) || !canTell(words, wrong, told)) {
            return RANGE;
        }
        if (marks.size() == 100) {
            return FULL;
        }
        marks.add(new Mark(p, day, words, wrong, told));
        return marks.size() - 1;
    }

    int right(int k, int words, int wrong, int told) {
        if (!within(k, marks.size() - 1) || !canTell(words, wrong, told)) {
            return RANGE;
        }
        if (rightings.size() == 100) {
            return FULL;
        }
        rightings.add(new Righting(k, words, wrong, told));
        return (int) rightings.stream().filter(r -> r.mark == k).count();
    }

    int grade(int p, int day, int known) {
        if (!within(p, 19) || !within(day, 999) || !within(known, 999)) {
            return RANGE;
        }
        for (int latest = day; latest >= 0; latest--) {
            for (int k = marks.size() - 1; k >= 0; k--) {
                Mark m = marks.get(k);
                if (m.pupil == p && m.day == latest && m.told <= known) {
                    int words = m.words;
                    int wrong = m.wrong;
                    for (Righting r : rightings) {
                        if (r.mark == k && r.told <= known) {
                            words = r.words;
                            wrong = r.wrong;
                        }
                    }
                    return Math.max(0, words - 4 * wrong);
                }
            }
        }
        return NONE;
    }

    int count(int what) {
        return switch (what) {
            case 0 -> terms.size();
            case 1 -> candidates.size();
            case 2 -> passage.size();
            case 3 -> lines.size();
            case 4 -> marks.size();
            case 5 -> rightings.size();
            case 6 -> tape.length();
            case 7 -> {
                int sum = 0;
                for (int t = 0; t < terms.size(); t++) {
                    sum += form(t) == null ? 0 : 1;
                }
                yield sum;
            }
            case 8 -> adopted.size();
            default -> NONE;
        };
    }
}
