import java.util.ArrayList;
import java.util.Collections;
import java.util.List;

/**
 * The document told a second time, in another manner: messages are objects, rows are lists, and a row is a message
 * when reading it loosely and writing it again gives the same row. ModelTest compares the program with it.
 */
final class Model {
    static final int BAD = -1;
    static final int STATE = -2;
    static final List<List<String>> PATHS =
        List.of(List.of("a"), List.of("a", "b"), List.of("cc"), List.of("cc", "d"), List.of("x"));

    static final class Msg {
        int type;
        int code;
        int id;
        int token;
        Integer watch;
        List<String> path = new ArrayList<>();
        Integer block2;
        Integer block1;
        List<Integer> payload = new ArrayList<>();

        Msg(int type, int code, int id, int token) {
            this.type = type;
            this.code = code;
            this.id = id;
            this.token = token;
        }

        List<Integer> written() {
            List<Integer> out = new ArrayList<>(List.of(64 + 16 * type + (code == 0 ? 0 : 1), code, id / 256, id % 256));
            if (code == 0) {
                return out;
            }
            out.add(token);
            int before = 0;
            if (watch != null) {
                before = option(out, before, 6, digits(watch));
            }
            for (String segment : path) {
                List<Integer> value = new ArrayList<>();
                segment.chars().forEach(value::add);
                before = option(out, before, 11, value);
            }
            if (block2 != null) {
                before = option(out, before, 23, digits(block2));
            }
            if (block1 != null) {
                option(out, before, 27, digits(block1));
            }
            if (!payload.isEmpty()) {
                out.add(255);
                out.addAll(payload);
            }
            return out;
        }

        private static int option(List<Integer> out, int before, int number, List<Integer> value) {
            int d = number - before;
            if (d < 13) {
                out.add(16 * d + value.size());
            } else {
                out.add(13 * 16 + value.size());
                out.add(d - 13);
            }
            out.addAll(value);
            return number;
        }

        private static List<Integer> digits(int number) {
            List<Integer> value = new ArrayList<>();
            for (int rest = number; rest > 0; rest /= 256) {
                value.add(0, rest % 256);
            }
            return value;
        }

        /** The message that a row is, or null. */
        static Msg read(List<Integer> row) {
            Msg m = loose(row);
            return m != null && m.isGood() && m.written().equals(row) ? m : null;
        }

        private boolean isGood() {
            return path.size() <= 2 && path.stream().allMatch(s -> s.length() <= 12) && (watch == null || watch <= 65535)
                && isGoodBlock(block2) && isGoodBlock(block1) && payload.size() <= 32;
        }

        private static boolean isGoodBlock(Integer b) {
            return b == null || (b <= 1023 && b % 8 <= 1);
        }

        private static Msg loose(List<Integer> row) {
            if (row.size() < 4 || row.get(0) < 64 || row.get(0) > 127) {
                return null;
            }
            Msg m = new Msg((row.get(0) - 64) / 16, row.get(1), row.get(2) * 256 + row.get(3), 0);
            if (m.code == 0 || row.size() == 4) {
                return m.code == 0 ? m : null;
            }
            m.token = row.get(4);
            int i = 5;
            int number = 0;
            while (i < row.size() && row.get(i) != 255) {
                int d = row.get(i) / 16;
                int n = row.get(i) % 16;
                i++;
                if (d == 13 && i < row.size()) {
                    d = 13 + row.get(i);
                    i++;
                }
                if (i + n > row.size()) {
                    return null;
                }
                number += d;
                m.set(number, row.subList(i, i + n));
                i += n;
            }
            if (i < row.size()) {
                m.payload.addAll(row.subList(i + 1, row.size()));
            }
            return m;
        }

        private void set(int number, List<Integer> value) {
            int sum = 0;
            StringBuilder text = new StringBuilder();
            for (int b : value) {
                sum = Math.min(sum * 256 + b, 1 << 20);
                text.append((char) b);
            }
            switch (number) {
                case 6 -> watch = sum;
                case 11 -> path.add(text.toString());
                case 23 -> block2 = sum;
                case 27 -> block1 = sum;
                default -> { }
            }
        }
    }

    static final class Datagram {
        final List<Integer> row;
        final int end;

        Datagram(List<Integer> row, int end) {
            this.row = new ArrayList<>(row);
            this.end = end;
        }
    }

    static final class Waiting {
        final Msg m;
        int left = 4;
        int span = 4;
        int repeats = 0;

        Waiting(Msg m) {
            this.m = m;
        }
    }

    static final class Use {
        int state = 1;
        int token;
        int path;
        int szx;
        int num = 0;
        List<Integer> body = new ArrayList<>();
        boolean puts;
        boolean toWatch;
        boolean first = true;
        boolean watches = false;
        int last = 0;
        int reason = 0;
        Waiting pending;

        int size() {
            return 16 << szx;
        }
    }

    static final class Watcher {
        int token;
        int resource;
        int szx;
        boolean changed = false;
        Waiting pending = null;
    }

    static final class Answer {
        int id;
        List<Integer> row;
        int time;
    }

    final List<Datagram> line = new ArrayList<>();
    int time = 0;
    int clientId = 1;
    int serverId = 1;
    final Use[] slots = new Use[2];
    final int[] uses = new int[2];
    final List<List<Integer>> contents = new ArrayList<>();
    final List<List<Integer>> parts = new ArrayList<>();
    final List<Watcher> watchers = new ArrayList<>();
    final List<Answer> memory = new ArrayList<>();
    int seen = 0;
    int handled = 0;

    Model() {
        for (int r = 0; r < 4; r++) {
            contents.add(new ArrayList<>());
            parts.add(new ArrayList<>());
        }
    }

    private static List<Integer> made(int length, int seed) {
        List<Integer> bytes = new ArrayList<>();
        for (int i = 0; i < length; i++) {
            bytes.add(Math.floorMod((long) seed + 5L * i, 256));
        }
        return bytes;
    }

    private void send(List<Integer> row, int end) {
        if (line.size() != 16) {
            line.add(new Datagram(row, end));
        }
    }

    private Use begin(int slot, int path, int szx, boolean puts, boolean watch) {
        Use u = new Use();
        uses[slot]++;
        u.token = (2 * uses[slot] + slot) % 256;
        u.path = path;
        u.szx = szx;
        u.puts = puts;
        u.toWatch = watch;
        slots[slot] = u;
        return u;
    }

    int get(int slot, int path, int szx, boolean watch) {
        if (slot < 0 || slot > 1 || path < 0 || path > 4 || szx < 0 || szx > 1) {
            return BAD;
        }
        if (slots[slot] != null) {
            return STATE;
        }
        Use u = begin(slot, path, szx, false, watch);
        ask(u);
        return u.token;
    }

    int put(int slot, int path, int szx, int length, int seed) {
        if (slot < 0 || slot > 1 || path < 0 || path > 4 || szx < 0 || szx > 1 || length < 0 || length > 80) {
            return BAD;
        }
        if (slots[slot] != null) {
            return STATE;
        }
        Use u = begin(slot, path, szx, true, false);
        u.body = made(length, seed);
        ask(u);
        return u.token;
    }

    private void ask(Use u) {
        Msg m = new Msg(0, u.puts ? 3 : 1, clientId, u.token);
        clientId = (clientId + 1) % 65536;
        m.path.addAll(PATHS.get(u.path));
        if (u.puts) {
            int from = u.num * u.size();
            int to = Math.min(u.body.size(), from + u.size());
            m.block1 = 16 * u.num + (to < u.body.size() ? 8 : 0) + u.szx;
            m.payload.addAll(u.body.subList(from, to));
        } else {
            m.block2 = 16 * u.num + u.szx;
            if (u.toWatch && u.first) {
                m.watch = 0;
            }
        }
        u.first = false;
        u.state = 1;
        u.pending = new Waiting(m);
        send(m.written(), 1);
    }

    int free(int slot) {
        if (slot != 0 && slot != 1) {
            return BAD;
        }
        if (slots[slot] == null) {
            return STATE;
        }
        slots[slot] = null;
        return 0;
    }

    int change(int resource, int length, int seed) {
        if (resource < 0 || resource > 3 || length < 0 || length > 64) {
            return BAD;
        }
        contents.set(resource, made(length, seed));
        tellAll(resource);
        return 0;
    }

    private void tellAll(int resource) {
        for (Watcher w : watchers) {
            if (w.resource == resource) {
                tell(w);
            }
        }
    }

    private void tell(Watcher w) {
        if (w.pending != null) {
            w.changed = true;
            return;
        }
        w.changed = false;
        seen = (seen + 1) % 65536;
        Msg m = new Msg(0, 69, serverId, w.token);
        serverId = (serverId + 1) % 65536;
        m.watch = seen;
        addBlock(m, contents.get(w.resource), 0, w.szx);
        w.pending = new Waiting(m);
        send(m.written(), 0);
    }

    private static void addBlock(Msg m, List<Integer> bytes, int num, int szx) {
        int size = 16 << szx;
        int from = Math.min(num * size, bytes.size());
        int to = Math.min(from + size, bytes.size());
        m.payload.addAll(bytes.subList(from, to));
        m.block2 = 16 * num + (bytes.size() > to ? 8 : 0) + szx;
    }

    /** Whether it is given up. */
    private boolean passes(Waiting p, int end) {
        p.left--;
        if (p.left != 0) {
            return false;
        }
        if (p.repeats == 3) {
            return true;
        }
        send(p.m.written(), end);
        p.repeats++;
        p.span *= 2;
        p.left = p.span;
        return false;
    }

    int tick() {
        time++;
        for (Use u : slots) {
            if (u != null && u.pending != null && passes(u.pending, 1)) {
                u.pending = null;
                u.state = 3;
            }
        }
        for (Watcher w : new ArrayList<>(watchers)) {
            if (w.pending != null && passes(w.pending, 0)) {
                watchers.remove(w);
            }
        }
        return time;
    }

    private boolean has(int k) {
        return k >= 0 && k < line.size();
    }

    int deliver(int k) {
        if (!has(k)) {
            return BAD;
        }
        Datagram d = line.remove(k);
        Msg m = Msg.read(d.row);
        if (m != null && d.end == 0) {
            toClient(m);
        } else if (m != null) {
            toServer(m);
        }
        return line.size();
    }

    int lose(int k) {
        if (!has(k)) {
            return BAD;
        }
        line.remove(k);
        return line.size();
    }

    int repeat(int k) {
        if (!has(k)) {
            return BAD;
        }
        send(line.get(k).row, line.get(k).end);
        return line.size();
    }

    boolean spoil(int k, int i, int bits) {
        if (!has(k) || i < 0 || i >= line.get(k).row.size() || bits < 0 || bits > 255) {
            return false;
        }
        line.get(k).row.set(i, line.get(k).row.get(i) ^ bits);
        return true;
    }

    int waiting() {
        return line.size();
    }

    int datagram(int k, int i) {
        if (!has(k) || i < -2 || i >= line.get(k).row.size()) {
            return BAD;
        }
        return i == -1 ? line.get(k).row.size() : i == -2 ? line.get(k).end : line.get(k).row.get(i);
    }

    int slot(int slot, int what) {
        if (slot < 0 || slot > 1 || what < 0 || what > 6) {
            return BAD;
        }
        Use u = slots[slot];
        if (u == null) {
            return 0;
        }
        int[] all = {u.state, u.token, u.num, u.body.size(), u.watches ? 1 : 0, u.watches ? u.last : 0,
            u.state == 4 ? u.reason : 0};
        return all[what];
    }

    int body(int slot, int i) {
        if (slot < 0 || slot > 1 || slots[slot] == null || i < 0 || i >= slots[slot].body.size()) {
            return BAD;
        }
        return slots[slot].body.get(i);
    }

    int content(int resource, int i) {
        if (resource < 0 || resource > 3 || i < -1 || i >= contents.get(resource).size()) {
            return BAD;
        }
        return i == -1 ? contents.get(resource).size() : contents.get(resource).get(i);
    }

    int server(int what) {
        return switch (what) {
            case 0 -> handled;
            case 1 -> watchers.size();
            case 2 -> seen;
            case 3 -> parts.stream().mapToInt(List::size).sum();
            default -> BAD;
        };
    }

    private void toClient(Msg m) {
        if (m.type == 2) {
            for (Use u : slots) {
                if (u != null && u.state == 1 && m.code != 0 && u.pending.m.id == m.id && u.token == m.token) {
                    answered(u, m);
                    return;
                }
            }
        } else if (m.type == 0 && m.code == 69) {
            Use watching = null;
            for (Use u : slots) {
                watching = u != null && u.watches && u.token == m.token ? u : watching;
            }
            send(new Msg(watching == null ? 3 : 2, 0, m.id, 0).written(), 1);
            if (watching != null) {
                news(watching, m);
            }
        }
    }

    private void answered(Use u, Msg m) {
        boolean hadMore = u.pending.m.block1 != null && u.pending.m.block1 / 8 % 2 == 1;
        u.pending = null;
        if (m.code == 69 && !u.puts && m.block2 != null && m.block2 / 16 == u.num && m.block2 % 8 == u.szx
            && u.num * u.size() + m.payload.size() <= 64) {
            while (u.body.size() > u.num * u.size()) {
                u.body.remove(u.body.size() - 1);
            }
            u.body.addAll(m.payload);
            if (m.watch != null && u.toWatch) {
                u.watches = true;
                u.last = m.watch;
            }
            if (m.block2 / 8 % 2 == 1) {
                u.num++;
                ask(u);
            } else {
                u.state = 2;
            }
        } else if (m.code == 95 && u.puts && hadMore) {
            u.num++;
            ask(u);
        } else if (m.code == 68 && u.puts) {
            u.state = 2;
        } else {
            u.state = 4;
            u.reason = m.code;
        }
    }

    private void news(Use u, Msg m) {
        if (m.watch == null || m.block2 == null || m.block2 / 16 != 0 || m.block2 % 8 != u.szx) {
            return;
        }
        int difference = Math.floorMod(m.watch - u.last, 65536);
        if (difference < 1 || difference > 32767) {
            return;
        }
        u.last = m.watch;
        u.pending = null;
        u.body = new ArrayList<>(m.payload);
        u.num = 0;
        if (m.block2 / 8 % 2 == 1) {
            u.num = 1;
            ask(u);
        } else {
            u.state = 2;
        }
    }

    private void toServer(Msg m) {
        if (m.type == 0 && (m.code == 1 || m.code == 3)) {
            for (Answer a : memory) {
                if (a.id == m.id && time - a.time < 100) {
                    send(a.row, 0);
                    return;
                }
            }
            handled++;
            Msg answer = handle(m);
            memory.removeIf(a -> a.id == m.id);
            if (memory.size() == 4) {
                memory.remove(0);
            }
            Answer a = new Answer();
            a.id = m.id;
            a.row = Collections.unmodifiableList(answer.written());
            a.time = time;
            memory.add(a);
            send(a.row, 0);
        } else if (m.code == 0 && (m.type == 2 || m.type == 3)) {
            for (Watcher w : watchers) {
                if (w.pending != null && w.pending.m.id == m.id) {
                    w.pending = null;
                    if (m.type == 3) {
                        watchers.remove(w);
                    } else if (w.changed) {
                        tell(w);
                    }
                    return;
                }
            }
        }
    }

    private Msg handle(Msg m) {
        Msg answer = new Msg(2, 130, m.id, m.token);
        int resource = PATHS.subList(0, 4).indexOf(m.path);
        if (resource < 0) {
            answer.code = 132;
        } else if (m.code == 1 && m.block2 != null) {
            handleGet(m, resource, answer);
        } else if (m.code == 3 && m.block1 != null) {
            answer.code = handlePut(m, resource);
            answer.block1 = m.block1;
        }
        return answer;
    }

    private void handleGet(Msg m, int resource, Msg answer) {
        int num = m.block2 / 16;
        int szx = m.block2 % 8;
        List<Integer> bytes = contents.get(resource);
        if (num != 0 && num * (16 << szx) >= bytes.size()) {
            return;
        }
        answer.code = 69;
        addBlock(answer, bytes, num, szx);
        if (num != 0 || m.watch == null) {
            return;
        }
        int place = -1;
        for (int w = 0; w < watchers.size(); w++) {
            place = watchers.get(w).token == m.token ? w : place;
        }
        if (m.watch == 0 && (place >= 0 || watchers.size() < 2)) {
            Watcher w = new Watcher();
            w.token = m.token;
            w.resource = resource;
            w.szx = szx;
            if (place >= 0) {
                watchers.set(place, w);
            } else {
                watchers.add(w);
            }
            seen = (seen + 1) % 65536;
            answer.watch = seen;
        } else if (m.watch == 1 && place >= 0) {
            watchers.remove(place);
        }
    }

    private int handlePut(Msg m, int resource) {
        int num = m.block1 / 16;
        List<Integer> part = parts.get(resource);
        if (num == 0) {
            part.clear();
        }
        if (num * (16 << m.block1 % 8) != part.size()) {
            return 136;
        }
        if (part.size() + m.payload.size() > 64) {
            part.clear();
            return 141;
        }
        part.addAll(m.payload);
        if (m.block1 / 8 % 2 == 1) {
            return 95;
        }
        contents.set(resource, new ArrayList<>(part));
        part.clear();
        tellAll(resource);
        return 68;
    }
}
