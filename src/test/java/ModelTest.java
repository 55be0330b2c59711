import java.util.ArrayList;
import java.util.List;
import java.util.Map;
import java.util.Random;
import java.util.TreeMap;

/** Runs of calls, the same in every run of this test, in which the program must answer as the model does. */
public final class ModelTest {
    private static final int RUNS = 4000;
    private static final int CALLS = 400;
    private static final int[] CODES = {0, 1, 1, 1, 3, 3, 3, 68, 69, 69, 69, 69, 95, 95, 130, 132, 136, 141};
    private static final String[] SEGMENTS = {"a", "b", "cc", "d", "x", "", "c", "ccd", "abcdefghijkl"};
    private static final int[] WATCHES = {0, 0, 0, 1, 1, 2, 3, 5, 9, 255, 256, 32767, 32768, 32769, 65535, 65536};

    private final Random random;
    private final ObservedBlocks x = new ObservedBlocks();
    private final Model model = new Model();
    private final Map<String, Integer> met;
    private final StringBuilder calls = new StringBuilder();
    private boolean right = true;

    private ModelTest(int seed, Map<String, Integer> met) {
        random = new Random(seed);
        this.met = met;
    }

    public static void main(String[] args) {
        Map<String, Integer> met = new TreeMap<>();
        for (int seed = 0; seed < RUNS; seed++) {
            ModelTest run = new ModelTest(seed, met);
            run.run(seed % 4);
            if (!run.right) {
                System.out.println("the run with seed " + seed + ":");
                System.out.println(run.calls);
                System.exit(1);
            }
        }
        System.out.println(met);
        // Runs that never meet a case would say nothing of it.
        for (String what : new String[] {"slot state 2", "slot state 3", "slot state 4", "watching", "two watchers",
            "changed", "part", "answer 68", "answer 69", "answer 95", "answer 130", "answer 132", "answer 136",
            "answer 141", "from memory", "full line", "given up watcher", "news", "rst"}) {
            if (met.getOrDefault(what, 0) < 20) {
                System.out.println("met too seldom: " + what + " " + met.get(what));
                System.exit(1);
            }
        }
    }

    private void run(int kind) {
        for (int n = 0; n < CALLS && right; n++) {
            step(kind);
            if (n % 8 == 0) {
                compareAll();
            }
        }
        compareAll();
    }

    private int any(int bound) {
        return random.nextInt(bound);
    }

    /** Mostly a number of the range, now and then one beside it. */
    private int about(int bound) {
        return any(60) == 0 ? (any(2) == 0 ? -1 - any(3) : bound + any(3)) : any(Math.max(1, bound));
    }

    private int someDatagram() {
        return any(3) == 0 ? about(model.waiting()) : any(40) == 0 ? -1 : 0;
    }

    private void same(String call, long got, long want) {
        calls.append(call).append(" -> ").append(got).append('\n');
        if (got != want) {
            calls.append("due is ").append(want).append('\n');
            right = false;
        }
    }

    private void step(int kind) {
        int choice = any(100);
        if (choice < 8) {
            int s = about(2), p = any(3) == 0 ? about(5) : any(2), z = about(2);
            boolean w = any(3) != 0;
            same("get(" + s + ", " + p + ", " + z + ", " + w + ")", x.get(s, p, z, w), model.get(s, p, z, w));
        } else if (choice < 14) {
            int s = about(2), p = any(3) == 0 ? about(5) : any(2), z = about(2), l = about(81), b = random.nextInt();
            same("put(" + s + ", " + p + ", " + z + ", " + l + ", " + b + ")", x.put(s, p, z, l, b), model.put(s, p, z, l, b));
        } else if (choice < 20) {
            free(about(2), kind);
        } else if (choice < 28) {
            int r = any(3) == 0 ? about(4) : any(2), l = about(65), b = random.nextInt();
            same("change(" + r + ", " + l + ", " + b + ")", x.change(r, l, b), model.change(r, l, b));
        } else if (choice < (kind == 3 ? 60 : 40)) {
            ticks(kind);
        } else if (choice < 84) {
            deliver(someDatagram());
        } else if (choice < 87) {
            int k = someDatagram();
            same("lose(" + k + ")", x.lose(k), model.lose(k));
        } else if (choice < 91) {
            int k = someDatagram();
            same("repeat(" + k + ")", x.repeat(k), model.repeat(k));
        } else if (kind == 0) {
            deliver(someDatagram());
        } else if (choice < 94) {
            int k = someDatagram();
            int i = about(Math.max(1, model.datagram(k, -1)));
            spoil(k, i, any(2) == 0 ? 1 << any(8) : about(256));
        } else if (model.waiting() > 0) {
            craft(any(model.waiting()));
        }
    }

    private void free(int s, int kind) {
        // A slot at work is mostly left to it.
        if (s == 0 || s == 1) {
            int state = model.slot(s, 0);
            if ((state == 1 || model.slot(s, 4) == 1) && any(kind == 2 ? 2 : 6) != 0) {
                return;
            }
        }
        same("free(" + s + ")", x.free(s), model.free(s));
    }

    private void ticks(int kind) {
        int count = kind == 3 && any(12) == 0 ? 40 : 1 + any(3);
        for (int n = 0; n < count; n++) {
            int watchers = model.server(1);
            same("tick()", x.tick(), model.tick());
            if (model.server(1) < watchers) {
                meet("given up watcher");
            }
        }
    }

    private void deliver(int k) {
        int handled = model.server(0);
        int waiting = model.waiting();
        int end = model.datagram(k, -2);
        int[] last = {model.slot(0, 5), model.slot(1, 5)};
        same("deliver(" + k + ")", x.deliver(k), model.deliver(k));
        int newest = model.waiting() - 1;
        if (end == 1 && model.waiting() >= waiting && newest >= 0) {
            meet(model.server(0) == handled ? "from memory" : "answer " + model.datagram(newest, 1));
        }
        if (end == 0 && (model.slot(0, 5) != last[0] || model.slot(1, 5) != last[1])) {
            meet("news");
        }
        if (end == 0 && newest >= 0 && model.datagram(newest, 0) == 112) {
            meet("rst");
        }
    }

    private void spoil(int k, int i, int bits) {
        same("spoil(" + k + ", " + i + ", " + bits + ")", x.spoil(k, i, bits) ? 1 : 0, model.spoil(k, i, bits) ? 1 : 0);
    }

    /** Datagram k becomes another message, or nearly one, of as many bytes. */
    private void craft(int k) {
        int length = model.datagram(k, -1);
        for (int n = 0; n < 60; n++) {
            List<Integer> row = message().written();
            int room = length - row.size() - 1;
            if (room >= 1) {
                row.add(255);
                for (int i = 0; i < room; i++) {
                    row.add(any(256));
                }
            }
            if (row.size() == length) {
                for (int i = 0; i < length; i++) {
                    if (!row.get(i).equals(model.datagram(k, i))) {
                        spoil(k, i, row.get(i) ^ model.datagram(k, i));
                    }
                }
                if (any(6) == 0) {
                    spoil(k, any(length), 1 << any(8));
                }
                return;
            }
        }
    }

    private Model.Msg message() {
        int type = any(8) == 0 ? any(4) : any(2) * 2;
        int code = any(20) == 0 ? any(256) : CODES[any(CODES.length)];
        Model.Msg m = new Model.Msg(type, code, someId(), someToken());
        if (any(3) == 0) {
            int near = model.server(2) + any(4) - 1;
            m.watch = any(2) == 0 ? WATCHES[any(WATCHES.length)] : Math.max(0, near);
        }
        if (any(3) != 0) {
            m.path.addAll(Model.PATHS.get(any(5)));
        } else {
            for (int n = any(4); n > 0; n--) {
                m.path.add(SEGMENTS[any(SEGMENTS.length)]);
            }
        }
        if (any(2) == 0) {
            m.block2 = someBlock();
        }
        if (any(2) == 0) {
            m.block1 = someBlock();
        }
        return m;
    }

    private int someId() {
        if (any(20) == 0) {
            return any(65536);
        }
        boolean ofClient = any(3) != 0;
        return Math.max(0, (ofClient ? model.clientId : model.serverId) - any(6));
    }

    private int someToken() {
        int slot = any(2);
        if (any(10) == 0) {
            return any(256);
        }
        return model.slots[slot] != null ? model.slots[slot].token : 2 + any(8);
    }

    private int someBlock() {
        if (any(20) == 0) {
            return any(1100);
        }
        return 16 * (any(2) == 0 ? 0 : any(6)) + 8 * any(2) + any(any(8) == 0 ? 4 : 2);
    }

    private void meet(String what) {
        met.merge(what, 1, Integer::sum);
    }

    private void compareAll() {
        if (!right) {
            return;
        }
        StringBuilder got = new StringBuilder();
        StringBuilder want = new StringBuilder();
        for (int i = -1; i < 5; i++) {
            got.append(x.server(i)).append(' ');
            want.append(model.server(i)).append(' ');
        }
        for (int s = -1; s < 3; s++) {
            for (int i = -1; i < 8; i++) {
                got.append(x.slot(s, i)).append(' ');
                want.append(model.slot(s, i)).append(' ');
            }
            for (int i = -1; i < 82; i++) {
                got.append(x.body(s, i)).append(' ');
                want.append(model.body(s, i)).append(' ');
            }
        }
        for (int r = -1; r < 5; r++) {
            for (int i = -2; i < 66; i++) {
                got.append(x.content(r, i)).append(' ');
                want.append(model.content(r, i)).append(' ');
            }
        }
        got.append(x.waiting()).append(' ');
        want.append(model.waiting()).append(' ');
        for (int k = -1; k <= model.waiting(); k++) {
            for (int i = -3; i < 48; i++) {
                got.append(x.datagram(k, i)).append(' ');
                want.append(model.datagram(k, i)).append(' ');
            }
        }
        if (!got.toString().equals(want.toString())) {
            right = false;
            calls.append("then all that can be seen is\n").append(got).append("\nand due is\n").append(want).append('\n');
        }
        meetState();
    }

    private void meetState() {
        List<String> now = new ArrayList<>();
        for (int s = 0; s < 2; s++) {
            now.add("slot state " + model.slot(s, 0));
            if (model.slot(s, 4) == 1) {
                now.add("watching");
            }
        }
        if (model.server(1) == 2) {
            now.add("two watchers");
        }
        if (model.watchers.stream().anyMatch(w -> w.changed)) {
            now.add("changed");
        }
        if (model.server(3) > 0) {
            now.add("part");
        }
        if (model.waiting() == 16) {
            now.add("full line");
        }
        now.forEach(this::meet);
    }
}
