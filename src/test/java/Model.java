import java.util.ArrayDeque;
import java.util.ArrayList;
import java.util.Arrays;
import java.util.Comparator;
import java.util.Deque;
import java.util.List;
import java.util.Map;
import java.util.TreeMap;
import java.util.regex.Matcher;
import java.util.regex.Pattern;

/**
 * The document told a second time, with the Java library and as differently as may be from the class, so that
 * ModelTest can compare the two over long runs. It is slow and throws where it likes: only tests use it.
 */
final class Model {
    private static final int NONE = -1, UNKNOWN = -1001, OUTSIDE = -1002, NOT = -1003, FULL = -1004;
    private static final Pattern TOKEN = Pattern.compile("[a-z]+|[0-9]+|[^ ]", Pattern.DOTALL);
    /** Of each word, the bounds of its numbers; -1 stands for 12 less the number ahead. */
    private static final Map<String, int[][]> CLAUSES = Map.of(
            "all", new int[][] {},
            "key", new int[][] {{0, 1}, {0, 3}, {0, 11}, {1, -1}, {0, 7}},
            "cell", new int[][] {{0, 1}, {0, 11}, {0, 9999}},
            "delay", new int[][] {{0, 1}, {1, 9}},
            "aim", new int[][] {{0, 3}, {0, 3}, {0, 11}},
            "join", new int[][] {{0, 1}});

    private record Key(int base, int length, int rights) { }

    private record Work(int number, int kind, int key, int offset, int v, int w, int c) {
        boolean plain() {
            return kind <= 1;
        }
    }

    /** type 0: work is the request; else number and value are the answer's. */
    private record Packet(int from, int type, int number, int value, Work work, int due, long sent) { }

    private record Told(int host, int end, int kind, int number, int result, int value) {
        int[] row() {
            return new int[] {host, end, kind, number, result, value};
        }
    }

    private static final class End {
        int state, next, expected, tries, busies, complained;
        final List<Work> open = new ArrayList<>();
        final Deque<Integer> receives = new ArrayDeque<>();
        TreeMap<Integer, Integer> changes = new TreeMap<>();
        int[] aim = {0, 0};
    }

    private final StringBuilder text = new StringBuilder();
    private int[][] cells;
    private Key[][] keys;
    private End[] ends;
    private int[] delays;
    private List<Packet> packets;
    private List<List<Told>> waits;
    private Told taken;
    private int now, lost, changed;
    private long sendings;

    Model() {
        all();
    }

    private void all() {
        cells = new int[2][12];
        keys = new Key[2][4];
        ends = new End[] {new End(), new End(), new End(), new End()};
        delays = new int[] {1, 1};
        packets = new ArrayList<>();
        waits = List.of(new ArrayList<>(), new ArrayList<>());
        taken = null;
        now = 0;
        lost = 0;
        changed = 0;
    }

    int call(String name, int... a) {
        return switch (name) {
            case "write" -> write(a[0]);
            case "erase" -> erase();
            case "fault" -> parse(null);
            case "tell" -> tell();
            case "cell" -> bad(a[0], 1) || bad(a[1], 11) ? UNKNOWN : cells[a[0]][a[1]];
            case "put" -> put(a);
            case "key" -> key(a);
            case "lock" -> lock(a);
            case "door" -> door(a);
            case "join" -> bad(a[0], 1) ? UNKNOWN : joined(a[0]) ? ready() : NOT;
            case "tear" -> tear(a[0]);
            case "delay" -> delay(a[0], a[1]);
            case "aim" -> aim(a);
            case "send" -> post(a[0], 0, a[1], 0, 0);
            case "store" -> post(a[0], 1, a[1], 0, 0);
            case "read" -> post(a[0], 2, 0, 0, a[1]);
            case "add" -> post(a[0], 3, a[1], 0, a[2]);
            case "swap" -> post(a[0], 4, a[1], a[2], a[3]);
            case "receive" -> receive(a[0], a[1]);
            case "step" -> step(a[0]);
            case "tick" -> tick(a[0]);
            case "take" -> take(a[0]);
            case "taken" -> bad(a[0], 5) ? OUTSIDE : taken == null ? NONE : taken.row()[a[0]];
            case "end" -> end(a[0], a[1]);
            case "open" -> open(a);
            case "packet" -> packet(a[0]);
            case "count" -> count(a[0]);
            default -> throw new IllegalArgumentException(name);
        };
    }

    private static boolean bad(int n, int most) {
        return n < 0 || n > most;
    }

    private int write(int letter) {
        if (bad(letter, 255)) {
            return OUTSIDE;
        }
        if (text.length() == 200) {
            return FULL;
        }
        return text.append((char) letter).length();
    }

    private int erase() {
        int had = text.length();
        text.setLength(0);
        return had;
    }

    /** The place of the fault or NONE; the clauses come to the list if there is one. */
    private int parse(List<List<String>> clauses) {
        List<String> tokens = new ArrayList<>();
        List<Integer> places = new ArrayList<>();
        Matcher matcher = TOKEN.matcher(text);
        while (matcher.find()) {
            tokens.add(matcher.group());
            places.add(matcher.start());
        }
        tokens.add("END");
        places.add(text.length());
        int at = 0;
        for (int n = 1;; n++) {
            int[][] bounds = CLAUSES.get(tokens.get(at));
            if (bounds == null) {
                return places.get(at);
            }
            for (int i = 0; i < bounds.length; i++) {
                String token = tokens.get(at + 1 + i);
                int most = bounds[i][1] >= 0 ? bounds[i][1] : 12 - Integer.parseInt(tokens.get(at + i));
                if (!token.matches("[0-9]{1,4}") || Integer.parseInt(token) < bounds[i][0] || Integer.parseInt(token) > most) {
                    return places.get(at + 1 + i);
                }
            }
            int behind = at + 1 + bounds.length;
            if (clauses != null) {
                clauses.add(tokens.subList(at, behind));
            }
            if (tokens.get(behind).equals("END")) {
                return NONE;
            }
            if (!tokens.get(behind).equals(";") || n == 24) {
                return places.get(behind);
            }
            at = behind + 1;
        }
    }

    private int tell() {
        List<List<String>> clauses = new ArrayList<>();
        if (parse(clauses) != NONE) {
            return NOT;
        }
        for (List<String> clause : clauses) {
            int[] n = clause.subList(1, clause.size()).stream().mapToInt(Integer::parseInt).toArray();
            switch (clause.get(0)) {
                case "all" -> all();
                case "key" -> keys[n[0]][n[1]] = new Key(n[2], n[3], n[4]);
                case "cell" -> cells[n[0]][n[1]] = n[2];
                case "delay" -> delays[n[0]] = n[1];
                case "aim" -> ends[n[0]].aim = new int[] {n[1], n[2]};
                default -> joined(n[0]);
            }
        }
        erase();
        return clauses.size();
    }

    private int put(int[] a) {
        if (bad(a[0], 1) || bad(a[1], 11)) {
            return UNKNOWN;
        }
        if (bad(a[2], 9999)) {
            return OUTSIDE;
        }
        int was = cells[a[0]][a[1]];
        cells[a[0]][a[1]] = a[2];
        return was;
    }

    private int key(int[] a) {
        if (bad(a[0], 1) || bad(a[1], 3)) {
            return UNKNOWN;
        }
        if (bad(a[2], 11) || bad(a[3], 12) || a[3] == 0 || (long) a[2] + a[3] > 12 || bad(a[4], 7)) {
            return OUTSIDE;
        }
        keys[a[0]][a[1]] = new Key(a[2], a[3], a[4]);
        return keysOf(a[0]);
    }

    private int keysOf(int host) {
        return (int) Arrays.stream(keys[host]).filter(k -> k != null).count();
    }

    private int lock(int[] a) {
        if (bad(a[0], 1) || bad(a[1], 3)) {
            return UNKNOWN;
        }
        if (keys[a[0]][a[1]] == null) {
            return NOT;
        }
        keys[a[0]][a[1]] = null;
        return keysOf(a[0]);
    }

    private int door(int[] a) {
        if (bad(a[0], 1) || bad(a[1], 3)) {
            return UNKNOWN;
        }
        if (bad(a[2], 2)) {
            return OUTSIDE;
        }
        Key k = keys[a[0]][a[1]];
        return k == null ? NOT : new int[] {k.base, k.length, k.rights}[a[2]];
    }

    private boolean joined(int line) {
        if (ends[2 * line].state == 1 || ends[2 * line + 1].state == 1) {
            return false;
        }
        for (int e = 2 * line; e < 2 * line + 2; e++) {
            int[] aim = ends[e].aim;
            ends[e] = new End();
            ends[e].aim = aim;
            ends[e].state = 1;
        }
        packets.removeIf(p -> p.from / 2 == line);
        return true;
    }

    private int ready() {
        return (int) Arrays.stream(ends).filter(e -> e.state == 1).count();
    }

    private int tear(int e) {
        if (bad(e, 3)) {
            return UNKNOWN;
        }
        if (ends[e].state != 1) {
            return NOT;
        }
        int had = ends[e].open.size() + ends[e].receives.size();
        breaks(e);
        return had;
    }

    private int delay(int line, int d) {
        if (bad(line, 1)) {
            return UNKNOWN;
        }
        if (bad(d, 9) || d == 0) {
            return OUTSIDE;
        }
        int was = delays[line];
        delays[line] = d;
        return was;
    }

    private int aim(int[] a) {
        if (bad(a[0], 3) || bad(a[1], 3)) {
            return UNKNOWN;
        }
        if (bad(a[2], 11)) {
            return OUTSIDE;
        }
        int[] aim = {a[1], a[2]};
        boolean same = Arrays.equals(aim, ends[a[0]].aim);
        ends[a[0]].aim = aim;
        return same ? 0 : 1;
    }

    private int post(int e, int kind, int v, int w, int c) {
        if (bad(e, 3) || bad(c, 11)) {
            return UNKNOWN;
        }
        if (bad(v, 9999) || bad(w, 9999)) {
            return OUTSIDE;
        }
        End end = ends[e];
        if (end.state != 1) {
            return NOT;
        }
        if (end.open.size() == 4 || kind >= 2 && end.open.stream().filter(o -> !o.plain()).count() == 2) {
            return FULL;
        }
        Work work = new Work(end.next++, kind, end.aim[0], end.aim[1], v, w, c);
        end.open.add(work);
        sent(e, 0, work.number, 0, work);
        return work.number;
    }

    private int receive(int e, int c) {
        if (bad(e, 3) || bad(c, 11)) {
            return UNKNOWN;
        }
        if (ends[e].state != 1) {
            return NOT;
        }
        if (ends[e].receives.size() == 3) {
            return FULL;
        }
        ends[e].receives.addLast(c);
        return ends[e].receives.size();
    }

    private void sent(int from, int type, int number, int value, Work work) {
        if (packets.size() == 24) {
            lost++;
        } else {
            packets.add(new Packet(from, type, number, value, work, now + delays[from / 2], sendings++));
        }
    }

    private Packet first() {
        return packets.stream().min(Comparator.comparingInt(Packet::due).thenComparingLong(Packet::sent)).orElse(null);
    }

    private int step(int way) {
        if (bad(way, 2)) {
            return OUTSIDE;
        }
        Packet p = first();
        if (p == null) {
            return NOT;
        }
        packets.remove(p);
        int to = p.from ^ 1;
        if (way == 1) {
            lost++;
            return to;
        }
        now = Math.max(now, p.due);
        if (way == 2) {
            sent(p.from, p.type, p.number, p.value, p.work);
        }
        if (ends[to].state == 1) {
            if (p.type == 0) {
                request(to, p.work);
            } else {
                answer(to, p);
            }
        }
        return to;
    }

    private void request(int e, Work work) {
        End end = ends[e];
        int r = work.number;
        if (r > end.expected) {
            if (end.complained == 0) {
                sent(e, 2, end.expected, 0, null);
            }
            end.complained = 1;
            return;
        }
        boolean old = r < end.expected;
        if (old && work.kind != 2) {
            if (work.plain()) {
                sent(e, 1, r, 0, null);
            } else if (end.changes.containsKey(r)) {
                sent(e, 1, r, end.changes.get(r), null);
            }
            return;
        }
        int told = 0;
        if (work.kind == 0) {
            if (end.receives.isEmpty()) {
                sent(e, 3, r, 0, null);
                return;
            }
            cells[e % 2][end.receives.removeFirst()] = work.v;
            told(e, 5, r, 0, work.v);
        } else {
            Key key = keys[e % 2][work.key];
            int right = new int[] {0, 2, 1, 4, 4}[work.kind];
            int reason = key == null ? 1 : work.offset >= key.length ? 2 : (key.rights & right) != right ? 3 : 0;
            if (reason > 0) {
                sent(e, 4, r, reason, null);
                breaks(e);
                return;
            }
            told = worked(end, e % 2, key.base + work.offset, work);
        }
        if (!old) {
            end.expected = r + 1;
            end.complained = 0;
        }
        sent(e, 1, r, told, null);
    }

    private int worked(End end, int host, int at, Work work) {
        int was = cells[host][at];
        cells[host][at] = switch (work.kind) {
            case 1 -> work.v;
            case 3 -> (was + work.v) % 10000;
            case 4 -> was == work.v ? work.w : was;
            default -> was;
        };
        if (work.kind >= 3) {
            changed++;
            end.changes.put(work.number, was);
            if (end.changes.size() > 2) {
                end.changes.remove(end.changes.firstKey());
            }
        }
        return work.kind == 1 ? 0 : was;
    }

    private void answer(int e, Packet p) {
        End end = ends[e];
        boolean gap = p.type == 2;
        boolean open = end.open.stream().anyMatch(o -> o.number == p.number);
        if (gap ? end.open.isEmpty() || p.number < end.open.get(0).number : !open) {
            return;
        }
        while (!end.open.isEmpty() && end.open.get(0).number < p.number) {
            if (!end.open.get(0).plain()) {
                again(e);
                return;
            }
            toldWork(e, 0, 0);
        }
        if (gap) {
            if (!end.open.isEmpty()) {
                again(e);
            }
        } else if (p.type == 1) {
            Work work = end.open.get(0);
            if (!work.plain()) {
                cells[e % 2][work.c] = p.value;
            }
            toldWork(e, 0, p.value);
        } else if (p.type == 3) {
            if (++end.busies == 4) {
                toldWork(e, 4, 0);
                breaks(e);
            }
        } else {
            toldWork(e, 1, p.value);
            breaks(e);
        }
    }

    private void told(int e, int kind, int number, int result, int value) {
        waits.get(e % 2).add(new Told(e % 2, e, kind, number, result, value));
    }

    private void toldWork(int e, int result, int value) {
        Work work = ends[e].open.remove(0);
        told(e, work.kind, work.number, result, value);
        ends[e].tries = 0;
        ends[e].busies = 0;
    }

    private void again(int e) {
        if (++ends[e].tries == 4) {
            toldWork(e, 3, 0);
            breaks(e);
        } else {
            ends[e].open.forEach(o -> sent(e, 0, o.number, 0, o));
        }
    }

    private void breaks(int e) {
        ends[e].state = 2;
        while (!ends[e].open.isEmpty()) {
            toldWork(e, 2, 0);
        }
        ends[e].receives.forEach(c -> told(e, 5, -1, 2, c));
        ends[e].receives.clear();
    }

    private int tick(int e) {
        if (bad(e, 3)) {
            return UNKNOWN;
        }
        if (ends[e].state != 1 || ends[e].open.isEmpty()) {
            return NOT;
        }
        again(e);
        return ends[e].tries;
    }

    private int take(int host) {
        if (bad(host, 1)) {
            return UNKNOWN;
        }
        if (waits.get(host).isEmpty()) {
            return NONE;
        }
        taken = waits.get(host).remove(0);
        return taken.result;
    }

    private int end(int e, int what) {
        if (bad(e, 3)) {
            return UNKNOWN;
        }
        if (bad(what, 10)) {
            return OUTSIDE;
        }
        End n = ends[e];
        return new int[] {n.state, n.next, n.open.size(), n.expected, n.receives.size(), n.tries, n.busies,
            n.complained, n.changes.size(), n.aim[0], n.aim[1]}[what];
    }

    private int open(int[] a) {
        if (bad(a[0], 3) || bad(a[1], ends[a[0]].open.size() - 1)) {
            return UNKNOWN;
        }
        Work o = ends[a[0]].open.get(a[1]);
        return bad(a[2], 4) ? OUTSIDE : new int[] {o.number, o.kind, o.key, o.offset, o.v}[a[2]];
    }

    private int packet(int what) {
        if (bad(what, 4)) {
            return OUTSIDE;
        }
        Packet p = first();
        return p == null ? NOT : new int[] {p.from ^ 1, p.type, p.number, p.due, p.value}[what];
    }

    private int count(int what) {
        if (bad(what, 8)) {
            return OUTSIDE;
        }
        int sum = Arrays.stream(cells).flatMapToInt(Arrays::stream).sum();
        return new int[] {packets.size(), now, waits.get(0).size(), waits.get(1).size(), ready(), sum, changed,
            text.length(), lost}[what];
    }
}
