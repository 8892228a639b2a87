import java.util.ArrayList;
import java.util.List;
import java.util.regex.Matcher;
import java.util.regex.Pattern;

/** A second, plain reading of the document, for comparison: each answer straight from its words. */
final class Model {
    /** A sign; of a hold the length is 0. */
    record Mark(int column, int begin, int kind, int length, int direction, int level, int amount) {
    }

    record State(int beats, int leap, List<Mark> marks) {
    }

    private static final int[][] UNITS =
        {{0, 1}, {1, 1}, {1, 0}, {1, -1}, {0, -1}, {-1, -1}, {-1, 0}, {-1, 1}};
    private static final Pattern ITEM = Pattern.compile(
            "(?:([0-5])m([0-8])([lnh])(\\d\\d?)|([0-6])k|6t([+-])([1-8])/(\\d\\d?)"
            + "|([0-6])([re])(\\d\\d?));");

    private int beats = 16;
    private int leap = 1;
    private List<Mark> marks = new ArrayList<>();
    private List<State> states = new ArrayList<>();
    private String text = "";
    private List<Mark> read = new ArrayList<>();

    private static boolean in(int value, int least, int most) {
        return least <= value && value <= most;
    }

    private boolean beat(int value) {
        return in(value, 0, beats - 1);
    }

    private void change() {
        states.add(new State(beats, leap, new ArrayList<>(marks)));
        if (states.size() == 7) {
            states.remove(0);
        }
    }

    int reset(int newBeats) {
        if (!in(newBeats, 4, 48)) {
            return Due.INVALID;
        }
        change();
        int previous = beats;
        beats = newBeats;
        marks = new ArrayList<>();
        return previous;
    }

    /** The end of a mark among others: of a hold the next begin in its column. */
    private int end(Mark mark, List<Mark> all) {
        if (mark.kind() != 1) {
            return mark.begin() + mark.length();
        }
        int end = beats;
        for (Mark other : all) {
            if (other.column() == mark.column() && other.begin() > mark.begin()) {
                end = Math.min(end, other.begin());
            }
        }
        return end;
    }

    /** Whether each beat is covered at most once, looked at beat by beat, with the mark added. */
    private boolean possible(Mark mark, List<Mark> all) {
        int last = mark.kind() == 1 ? mark.begin() : mark.begin() + mark.length() - 1;
        if (last >= beats) {
            return false;
        }
        for (Mark other : all) {
            if (other.column() == mark.column()) {
                for (int t = mark.begin(); t <= last; t++) {
                    boolean covers = t >= other.begin() && t < end(other, all);
                    if (other.begin() == t || covers && other.kind() != 1) {
                        return false;
                    }
                }
            }
        }
        return true;
    }

    private void insert(Mark mark, List<Mark> all) {
        all.add(mark);
        all.sort((a, b) -> a.begin() != b.begin() ? a.begin() - b.begin() : a.column() - b.column());
    }

    private int add(Mark mark) {
        if (!possible(mark, marks)) {
            return Due.NOT_POSSIBLE;
        }
        if (marks.size() == 60) {
            return Due.LIMIT;
        }
        change();
        insert(mark, marks);
        return marks.indexOf(mark);
    }

    private boolean length(int begin, int length) {
        return beat(begin) && length >= 1 && (long) begin + length <= beats;
    }

    int addMove(int column, int begin, int length, int direction, int level) {
        if (!in(column, 0, 5) || !length(begin, length) || !in(direction, 0, 8) || !in(level, 0, 2)) {
            return Due.INVALID;
        }
        return add(new Mark(column, begin, 0, length, direction, level, 0));
    }

    int addHold(int column, int begin) {
        return in(column, 0, 6) && beat(begin) ? add(new Mark(column, begin, 1, 0, 0, 0, 0))
            : Due.INVALID;
    }

    int addTurn(int begin, int length, int amount) {
        return length(begin, length) && in(amount, -8, 8) && amount != 0
            ? add(new Mark(6, begin, 2, length, 0, 0, amount)) : Due.INVALID;
    }

    int addRelease(int column, int begin, int length) {
        return in(column, 0, 6) && length(begin, length)
            ? add(new Mark(column, begin, 3, length, 0, 0, 0)) : Due.INVALID;
    }

    int removeSign(int sign) {
        if (!in(sign, 0, marks.size() - 1)) {
            return Due.INVALID;
        }
        change();
        marks.remove(sign);
        return marks.size();
    }

    private static final int[] OTHER_COLUMN = {1, 0, 3, 2, 5, 4, 6};
    private static final int[] OTHER_DIRECTION = {0, 1, 8, 7, 6, 5, 4, 3, 2};

    private static Mark mirror(Mark m) {
        return new Mark(OTHER_COLUMN[m.column()], m.begin(), m.kind(), m.length(),
            OTHER_DIRECTION[m.direction()], m.level(), -m.amount());
    }

    int copyPhrase(int first, int last, int to, int mirrored, int reversed) {
        if (!beat(first) || !in(last, first + 1, beats) || !beat(to) || !in(mirrored, 0, 1)
                || !in(reversed, 0, 1)) {
            return Due.INVALID;
        }
        List<Mark> copies = new ArrayList<>();
        for (Mark m : marks) {
            if (m.begin() >= first && m.begin() < last && (m.kind() == 1 || end(m, marks) <= last)) {
                int begin = m.begin() + to - first;
                int amount = m.amount();
                if (reversed == 1) {
                    begin = to + last - (m.kind() == 1 ? m.begin() + 1 : end(m, marks));
                    amount = -amount;
                }
                Mark copy = new Mark(m.column(), begin, m.kind(), m.length(), m.direction(),
                    m.level(), amount);
                insert(mirrored == 1 ? mirror(copy) : copy, copies);
            }
        }
        List<Mark> all = new ArrayList<>(marks);
        for (Mark copy : copies) {
            if (!possible(copy, all)) {
                return Due.NOT_POSSIBLE;
            }
            insert(copy, all);
        }
        if (all.size() > 60) {
            return Due.LIMIT;
        }
        change();
        marks = all;
        return copies.size();
    }

    int setLeap(int newLeap) {
        if (!in(newLeap, 0, 8)) {
            return Due.INVALID;
        }
        change();
        int previous = leap;
        leap = newLeap;
        return previous;
    }

    int lay() {
        if (fault() != Due.NOT_FOUND) {
            return Due.NOT_POSSIBLE;
        }
        change();
        marks = new ArrayList<>(read);
        return marks.size();
    }

    int undo() {
        if (states.isEmpty()) {
            return Due.NOT_POSSIBLE;
        }
        State state = states.remove(states.size() - 1);
        beats = state.beats();
        leap = state.leap();
        marks = new ArrayList<>(state.marks());
        return states.size();
    }

    int count(int what) {
        int[] all = {beats, marks.size(), leap, states.size(), text.length()};
        return in(what, 0, 4) ? all[what] : Due.INVALID;
    }

    int sign(int sign, int what) {
        if (!in(sign, 0, marks.size() - 1) || !in(what, 0, 6)) {
            return Due.INVALID;
        }
        Mark m = marks.get(sign);
        int none = Due.NOT_FOUND;
        int[] all = {m.column(), m.begin(), end(m, marks), m.kind(),
            m.kind() == 0 ? m.direction() : none, m.kind() == 0 ? m.level() : none,
            m.kind() == 2 ? m.amount() : none};
        return all[what];
    }

    private Mark covering(int column, int beat) {
        for (Mark m : marks) {
            if (m.column() == column && m.begin() <= beat && beat < end(m, marks)) {
                return m;
            }
        }
        return null;
    }

    int signAt(int column, int beat) {
        if (!in(column, 0, 6) || !beat(beat)) {
            return Due.INVALID;
        }
        Mark m = covering(column, beat);
        return m == null ? Due.NOT_FOUND : marks.indexOf(m);
    }

    int bears(int beat) {
        if (!beat(beat)) {
            return Due.INVALID;
        }
        int feet = 0;
        for (int foot = 0; foot < 2; foot++) {
            Mark m = covering(foot, beat);
            if (m != null && m.kind() < 2) {
                feet += foot + 1;
            }
        }
        return feet;
    }

    int toldTwice(int beat) {
        if (!beat(beat)) {
            return Due.INVALID;
        }
        int legs = 0;
        for (int side = 0; side < 2; side++) {
            Mark m = covering(2 + side, beat);
            if (m != null && m.kind() == 0 && (bears(beat) == 3 || bears(beat) == side + 1)) {
                legs += side + 1;
            }
        }
        return legs;
    }

    /** The beats of the flight that a beat belongs to. */
    private int flight(int beat) {
        int from = beat;
        int to = beat;
        while (from >= 0 && bears(from) == 0) {
            from--;
        }
        while (to < beats && bears(to) == 0) {
            to++;
        }
        return Math.max(0, to - from - 1);
    }

    int isFaulty(int beat) {
        if (!beat(beat)) {
            return Due.INVALID;
        }
        return toldTwice(beat) != 0 || bears(beat) == 0 && flight(beat) > leap ? 1 : 0;
    }

    int nextFault(int beat) {
        if (!beat(beat)) {
            return Due.INVALID;
        }
        for (int t = beat; t < beats; t++) {
            if (isFaulty(t) == 1) {
                return t;
            }
        }
        return Due.NOT_FOUND;
    }

    int beats(int what) {
        if (!in(what, 0, 6)) {
            return Due.INVALID;
        }
        int[] totals = new int[7];
        for (int t = 0; t < beats; t++) {
            totals[0] += isFaulty(t);
            totals[1 + bears(t)]++;
            if (bears(t) == 0) {
                totals[5] = Math.max(totals[5], flight(t));
                totals[6] += t == 0 || bears(t - 1) != 0 ? 1 : 0;
            }
        }
        return totals[what];
    }

    int leastLeap() {
        for (int t = 0; t < beats; t++) {
            if (toldTwice(t) != 0) {
                return Due.NOT_FOUND;
            }
        }
        return beats(5);
    }

    int covered(int column, int kind) {
        if (!in(column, 0, 6) || !in(kind, -1, 3)) {
            return Due.INVALID;
        }
        int total = 0;
        for (int t = 0; t < beats; t++) {
            Mark m = covering(column, t);
            total += m != null && (kind == -1 || m.kind() == kind) ? 1 : 0;
        }
        return total;
    }

    private int facing(int beat) {
        int facing = 0;
        for (Mark m : marks) {
            if (m.kind() == 2 && m.begin() + m.length() <= beat) {
                facing += m.amount();
            }
        }
        return Math.floorMod(facing, 8);
    }

    private boolean stepEnds(int foot, int beat) {
        for (Mark m : marks) {
            if (m.kind() == 0 && m.column() == foot && m.begin() + m.length() == beat) {
                return true;
            }
        }
        return false;
    }

    private int place(int beat, int axis) {
        int place = 0;
        for (Mark m : marks) {
            int end = m.begin() + m.length();
            if (m.kind() == 0 && m.column() < 2 && m.direction() > 0 && end <= beat) {
                int units = stepEnds(1 - m.column(), end) ? 1 : 2;
                place += units * UNITS[(facing(m.begin()) + m.direction() - 1) % 8][axis];
            }
        }
        return place;
    }

    int floor(int beat, int what) {
        if (!in(beat, 0, beats) || !in(what, 0, 2)) {
            return Due.INVALID;
        }
        return what == 2 ? facing(beat) : place(beat, what);
    }

    private int distance(int beat) {
        return Math.max(Math.abs(place(beat, 0)), Math.abs(place(beat, 1)));
    }

    int home() {
        for (int t = 1; t <= beats; t++) {
            for (int before = 0; before < t; before++) {
                if (distance(t) == 0 && distance(before) > 0) {
                    return t;
                }
            }
        }
        return Due.NOT_FOUND;
    }

    int farthest() {
        int greatest = 0;
        for (int t = 0; t <= beats; t++) {
            greatest = Math.max(greatest, distance(t));
        }
        return greatest;
    }

    private boolean same(Mark a, Mark b) {
        if (a == null || b == null) {
            return a == b;
        }
        return a.kind() == b.kind() && a.direction() == b.direction() && a.level() == b.level()
            && a.amount() == b.amount();
    }

    int alike(int first, int last, int to, int mirrored) {
        if (!beat(first) || !in(last, first + 1, beats) || !in(to, 0, beats - (last - first))
                || !in(mirrored, 0, 1)) {
            return Due.INVALID;
        }
        int total = 0;
        for (int i = 0; i < last - first; i++) {
            boolean all = true;
            for (int column = 0; column < 7; column++) {
                Mark other = covering(mirrored == 1 ? OTHER_COLUMN[column] : column, to + i);
                if (mirrored == 1 && other != null) {
                    other = mirror(other);
                }
                all &= same(covering(column, first + i), other);
            }
            total += all ? 1 : 0;
        }
        return total;
    }

    int type(int character) {
        if (!in(character, 32, 126)) {
            return Due.INVALID;
        }
        if (text.length() == 120) {
            return Due.LIMIT;
        }
        text += (char) character;
        return text.length();
    }

    int clearText() {
        int previous = text.length();
        text = "";
        return previous;
    }

    int fault() {
        read = new ArrayList<>();
        int[] ends = new int[7];
        int at = 0;
        Matcher matcher = ITEM.matcher(text);
        while (at < text.length()) {
            matcher.region(at, text.length());
            if (!matcher.lookingAt()) {
                return at;
            }
            Mark m = markOf(matcher, ends);
            int length = m.kind() == 1 ? 1 : m.length();
            ends[m.column()] += length;
            if (length == 0 || ends[m.column()] > beats) {
                return at;
            }
            if (matcher.group(10) == null || matcher.group(10).equals("r")) {
                insert(m, read);
            }
            if (read.size() > 60) {
                return at;
            }
            at = matcher.end();
        }
        return Due.NOT_FOUND;
    }

    private static Mark markOf(Matcher item, int[] ends) {
        if (item.group(1) != null) {
            int column = Integer.parseInt(item.group(1));
            return new Mark(column, ends[column], 0, Integer.parseInt(item.group(4)),
                Integer.parseInt(item.group(2)), "lnh".indexOf(item.group(3)), 0);
        }
        if (item.group(5) != null) {
            int column = Integer.parseInt(item.group(5));
            return new Mark(column, ends[column], 1, 0, 0, 0, 0);
        }
        if (item.group(6) != null) {
            int amount = Integer.parseInt(item.group(6) + item.group(7));
            return new Mark(6, ends[6], 2, Integer.parseInt(item.group(8)), 0, 0, amount);
        }
        int column = Integer.parseInt(item.group(9));
        return new Mark(column, ends[column], 3, Integer.parseInt(item.group(11)), 0, 0, 0);
    }
}
