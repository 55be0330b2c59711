import java.util.Arrays;
import java.util.function.Supplier;

/** What the tests share: comparing answers, and making datagrams with any bytes by spoiling others. */
final class Checks {
    static final int TO_CLIENT = 0;
    static final int TO_SERVER = 1;

    private int wrong = 0;
    private String sentence = "";

    /** The sentence of the document that the calls from here on look at; each answer that is not as due tells it. */
    void says(String words) {
        sentence = "'" + words + "': ";
    }

    void due(String what, long got, long want) {
        if (got != want) {
            wrong++;
            System.out.println(sentence + what + " answered " + got + ", due is " + want);
        }
    }

    void due(String what, boolean got, boolean want) {
        due(what, got ? 1 : 0, want ? 1 : 0);
    }

    void dueRow(String what, int[] got, int... want) {
        if (!Arrays.equals(got, want)) {
            wrong++;
            System.out.println(sentence + what + " is " + Arrays.toString(got) + ", due is " + Arrays.toString(want));
        }
    }

    /** The whole datagram k must be this row, for this end. */
    void dueDatagram(String what, ObservedBlocks x, int k, int end, int... want) {
        due(what + ": where it goes", x.datagram(k, -2), end);
        dueRow(what, rowOf(x, k), want);
    }

    void dueSlot(String what, ObservedBlocks x, int slot, int... want) {
        int[] got = new int[want.length];
        for (int i = 0; i < want.length; i++) {
            got[i] = x.slot(slot, i);
        }
        dueRow(what, got, want);
    }

    void dueServer(String what, ObservedBlocks x, int... want) {
        int[] got = new int[want.length];
        for (int i = 0; i < want.length; i++) {
            got[i] = x.server(i);
        }
        dueRow(what, got, want);
    }

    void finish(String test) {
        System.out.println(test + ": " + (wrong == 0 ? "all answers are as due" : wrong + " answers are not as due"));
        if (wrong != 0) {
            System.exit(1);
        }
    }

    static int[] rowOf(ObservedBlocks x, int k) {
        int[] row = new int[Math.max(0, x.datagram(k, -1))];
        for (int i = 0; i < row.length; i++) {
            row[i] = x.datagram(k, i);
        }
        return row;
    }

    static int[] join(int[] head, int... tail) {
        int[] all = Arrays.copyOf(head, head.length + tail.length);
        System.arraycopy(tail, 0, all, head.length, tail.length);
        return all;
    }

    static int[] row(int... bytes) {
        return bytes;
    }

    /** The bytes that put and change make. */
    static int[] made(int from, int to, int seed) {
        int[] bytes = new int[to - from];
        for (int i = from; i < to; i++) {
            bytes[i - from] = (seed + 5 * i) & 255;
        }
        return bytes;
    }

    static int[] payload(int... bytes) {
        return join(row(255), bytes);
    }

    /** Datagram k gets these bytes; it must have as many already. */
    static void write(ObservedBlocks x, int k, int... row) {
        if (x.datagram(k, -1) != row.length) {
            throw new IllegalStateException("datagram has " + x.datagram(k, -1) + " bytes, not " + row.length);
        }
        for (int i = 0; i < row.length; i++) {
            int bits = x.datagram(k, i) ^ row[i];
            if (bits != 0 && !x.spoil(k, i, bits)) {
                throw new IllegalStateException("not spoiled");
            }
        }
    }

    /** A datagram for the server with these bytes (8 .. 46 of them) is the last of the line; slot 1 must be free and is. */
    static void sendToServer(ObservedBlocks x, int... row) {
        int n = row.length;
        if (n == 8) {
            x.get(1, 0, 0, false);
        } else if (n == 9) {
            x.put(1, 0, 0, 0, 0);
        } else if (n == 10) {
            x.put(1, 0, 1, 0, 0);
        } else if (n <= 26) {
            x.put(1, 0, 0, n - 10, 0);
        } else if (n <= 43) {
            x.put(1, 0, 1, n - 11, 0);
        } else if (n <= 45) {
            x.put(1, 1, 1, n - 13, 0);
        } else {
            x.put(1, 3, 1, 32, 0);
        }
        x.free(1);
        write(x, x.waiting() - 1, row);
    }

    static void bringToServer(ObservedBlocks x, int... row) {
        sendToServer(x, row);
        x.deliver(x.waiting() - 1);
    }

    /** A put under path a with token 9 comes to the server. */
    static void bringPut(ObservedBlocks x, int id, int block, int... bytes) {
        int[] head = block == 0 ? row(65, 3, 0, id, 9, 177, 97, 208, 3) : row(65, 3, 0, id, 9, 177, 97, 209, 3, block);
        bringToServer(x, bytes.length == 0 ? head : join(head, payload(bytes)));
    }

    /** The code of what was sent last. */
    static int lastCode(ObservedBlocks x) {
        return x.datagram(x.waiting() - 1, 1);
    }

    /** Slot 0 (token 2) watches path a with SZX 0; nothing is under way. */
    static ObservedBlocks watched() {
        ObservedBlocks x = new ObservedBlocks();
        x.get(0, 0, 0, true);
        deliverAll(x);
        return x;
    }

    /** A datagram of 8 bytes or of 10 .. 41 comes to the client; slot 1 must be free and is; resource 2 is used up for it. */
    static void bringToClient(ObservedBlocks x, int id, int... row) {
        x.change(2, row.length == 8 ? 0 : row.length - 9, 0);
        // an ID that the server does not remember yet
        sendToServer(x, 65, 1, id >> 8, id & 255, 9, 178, 99, 99, 193, 1);
        x.deliver(x.waiting() - 1);
        write(x, x.waiting() - 1, row);
        x.deliver(x.waiting() - 1);
    }

    /** All that can be seen of an object. It is made anew for each part, for one object has 512 calls and no more. */
    static int[] picture(Supplier<ObservedBlocks> made) {
        int[] all = {};
        ObservedBlocks x = made.get();
        for (int what = 0; what < 4; what++) {
            all = join(all, x.server(what));
        }
        for (int s = 0; s < 2; s++) {
            for (int what = 0; what < 7; what++) {
                all = join(all, x.slot(s, what));
            }
            ObservedBlocks y = made.get();
            for (int i = 0; i <= 80; i++) {
                all = join(all, y.body(s, i));
            }
        }
        for (int r = 0; r < 4; r++) {
            ObservedBlocks y = made.get();
            for (int i = -1; i <= 64; i++) {
                all = join(all, y.content(r, i));
            }
        }
        for (int k = 0; k < x.waiting(); k++) {
            ObservedBlocks y = made.get();
            for (int i = -2; i <= 46; i++) {
                all = join(all, y.datagram(k, i));
            }
        }
        return all;
    }

    /** The line gets 16 datagrams, the first one again and again; it must have one. */
    static void fillLine(ObservedBlocks x) {
        for (int n = x.waiting(); n < 16; n++) {
            x.repeat(0);
        }
    }

    static void emptyLine(ObservedBlocks x) {
        for (int n = x.waiting(); n > 0; n--) {
            x.lose(0);
        }
    }

    static void deliverAll(ObservedBlocks x) {
        for (int n = 0; n < 100 && x.waiting() > 0; n++) {
            x.deliver(0);
        }
    }

    static void ticks(ObservedBlocks x, int count) {
        for (int n = 0; n < count; n++) {
            x.tick();
        }
    }
}
