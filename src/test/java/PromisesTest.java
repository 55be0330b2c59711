/** For each promise by its number: ordinary calls, the edges that the document names, and wrong ones. */
public final class PromisesTest {
    private static final int BAD = -1;
    private static final int STATE = -2;
    private static final int MIN = Integer.MIN_VALUE;
    private static final int MAX = Integer.MAX_VALUE;
    private static final Checks c = new Checks();

    public static void main(String[] args) {
        promise1NewObject();
        promise2Get();
        promise3Put();
        promise4Free();
        promise5Change();
        promise6Tick();
        promise7Deliver();
        promise8Lose();
        promise9Repeat();
        promise10Spoil();
        promise11Waiting();
        promise12Datagram();
        promise13Slot();
        promise14Body();
        promise15Content();
        promise16Server();
        c.finish("PromisesTest");
    }

    private static void promise1NewObject() {
        ObservedBlocks x = new ObservedBlocks();
        c.due("1: waiting()", x.waiting(), 0);
        for (int s = 0; s < 2; s++) {
            c.dueSlot("1: slot " + s, x, s, 0, 0, 0, 0, 0, 0, 0);
            c.due("1: body", x.body(s, 0), BAD);
        }
        for (int r = 0; r < 4; r++) {
            c.due("1: content", x.content(r, -1), 0);
        }
        c.dueServer("1: server", x, 0, 0, 0, 0);
        c.due("1: tick()", x.tick(), 1);
        c.due("1: waiting() after a tick", x.waiting(), 0);
        ObservedBlocks other = new ObservedBlocks();
        other.change(0, 9, 9);
        c.due("1: two objects share nothing", x.content(0, -1), 0);
    }

    private static void promise2Get() {
        ObservedBlocks x = new ObservedBlocks();
        c.due("2: get(0, 0, 0, false)", x.get(0, 0, 0, false), 2);
        c.dueDatagram("2: path a", x, 0, 1, 65, 1, 0, 1, 2, 177, 97, 192);
        c.dueSlot("2: asking", x, 0, 1, 2, 0, 0, 0, 0, 0);
        c.due("2: get(1, 3, 1, true)", x.get(1, 3, 1, true), 3);
        c.dueDatagram("2: path cc, d, to watch", x, 1, 1, 65, 1, 0, 2, 3, 96, 82, 99, 99, 1, 100, 193, 1);
        c.dueSlot("2: it does not watch as yet", x, 1, 1, 3, 0, 0, 0, 0, 0);
        c.due("2: slot not free", x.get(0, 0, 0, false), STATE);
        c.due("2: slot not free", x.get(1, 4, 1, true), STATE);
        c.due("2: a wrong number goes before a slot not free", x.get(0, 5, 0, false), BAD);
        c.due("2: refused calls send nothing", x.waiting(), 2);

        ObservedBlocks y = new ObservedBlocks();
        int[][] wrong = {{2, 0, 0}, {-1, 0, 0}, {0, 5, 0}, {0, -1, 0}, {0, 0, 2}, {0, 0, -1}, {MIN, 0, 0}, {0, MAX, 0}, {1, 0, MIN}};
        for (int[] w : wrong) {
            c.due("2: get with a wrong number", y.get(w[0], w[1], w[2], true), BAD);
        }
        c.due("2: waiting()", y.waiting(), 0);
        c.due("2: refused calls are no use of the slot", y.get(0, 1, 1, false), 2);
        c.dueDatagram("2: path a, b", y, 0, 1, 65, 1, 0, 1, 2, 177, 97, 1, 98, 193, 1);
        c.due("2: get(1, 4, 0, true)", y.get(1, 4, 0, true), 3);
        c.dueDatagram("2: path x", y, 1, 1, 65, 1, 0, 2, 3, 96, 81, 120, 192);
        y.free(1);
        c.due("2: the second use", y.get(1, 2, 0, false), 5);
        c.dueDatagram("2: path cc", y, 2, 1, 65, 1, 0, 3, 5, 178, 99, 99, 192);

        ObservedBlocks z = new ObservedBlocks();
        for (int use = 1; use <= 130; use++) {
            c.due("2: use " + use, z.get(1, 0, 0, false), (2 * use + 1) % 256);
            z.lose(0);
            z.free(1);
        }
        z.get(0, 0, 0, false);
        c.due("2: IDs go on", z.datagram(0, 3), 131);
    }

    private static void promise3Put() {
        ObservedBlocks x = new ObservedBlocks();
        c.due("3: put(1, 1, 0, 18, 250)", x.put(1, 1, 0, 18, 250), 3);
        int[] head = {65, 3, 0, 1, 3, 177, 97, 1, 98, 209, 3, 8};
        c.dueDatagram("3: first block", x, 0, 1, Checks.join(head, Checks.payload(Checks.made(0, 16, 250))));
        c.dueSlot("3: asking", x, 1, 1, 3, 0, 18, 0, 0, 0);
        c.due("3: lowest eight bits", x.body(1, 17), (250 + 85) & 255);
        c.due("3: slot not free", x.put(1, 1, 0, 18, 250), STATE);
        c.due("3: a wrong number goes before a slot not free", x.put(1, 1, 0, 81, 250), BAD);
        c.due("3: put(0, 0, 0, 0, 7)", x.put(0, 0, 0, 0, 7), 2);
        c.dueDatagram("3: no byte", x, 1, 1, 65, 3, 0, 2, 2, 177, 97, 208, 3);
        x.deliver(0);
        x.deliver(1);
        int[] second = {65, 3, 0, 3, 3, 177, 97, 1, 98, 209, 3, 16};
        c.dueDatagram("3: last block", x, 1, 1, Checks.join(second, Checks.payload(Checks.made(16, 18, 250))));
        c.due("3: NUM", x.slot(1, 2), 1);
        Checks.deliverAll(x);
        c.dueSlot("3: done", x, 1, 2, 3, 1, 18, 0, 0, 0);
        c.due("3: content", x.content(1, -1), 18);
        c.due("3: content of the empty put", x.content(0, -1), 0);

        ObservedBlocks y = new ObservedBlocks();
        int[][] wrong = {{2, 0, 0, 1}, {-1, 0, 0, 1}, {0, 5, 0, 1}, {0, -1, 0, 1}, {0, 0, 2, 1}, {0, 0, -1, 1}, {0, 0, 0, 81},
            {0, 0, 0, -1}, {0, 0, 0, MIN}, {0, 0, 0, MAX}};
        for (int[] w : wrong) {
            c.due("3: put with a wrong number", y.put(w[0], w[1], w[2], w[3], 1), BAD);
        }
        c.due("3: nothing was sent", y.waiting(), 0);
        c.due("3: 80 bytes, a seed below 0", y.put(0, 3, 1, 80, -1), 2);
        c.due("3: body(0, 0)", y.body(0, 0), 255);
        c.due("3: body(0, 79)", y.body(0, 79), (-1 + 395) & 255);
        int[] full = {65, 3, 0, 1, 2, 178, 99, 99, 1, 100, 209, 3, 9};
        c.dueDatagram("3: the longest", y, 0, 1, Checks.join(full, Checks.payload(Checks.made(0, 32, -1))));
        c.due("3: seed at the end of its range", y.put(1, 0, 1, 32, MAX), 3);
        c.due("3: wraps around", y.body(1, 1), 4);
        int[] whole = {65, 3, 0, 2, 3, 177, 97, 209, 3, 1};
        c.dueDatagram("3: just one block", y, 1, 1, Checks.join(whole, Checks.payload(Checks.made(0, 32, MAX))));
        y.deliver(0);
        y.deliver(1);
        y.deliver(1);
        y.deliver(1);
        Checks.deliverAll(y);
        c.dueSlot("3: 80 bytes are too many for the server", y, 0, 4, 2, 2, 80, 0, 0, 141);
    }

    private static void promise4Free() {
        ObservedBlocks x = new ObservedBlocks();
        c.due("4: free slot", x.free(0), STATE);
        c.due("4: free slot", x.free(1), STATE);
        for (int s : new int[] {-1, 2, MIN, MAX}) {
            c.due("4: free(" + s + ")", x.free(s), BAD);
        }
        x.change(0, 20, 1);
        x.get(0, 0, 0, true);
        x.get(1, 0, 0, false);
        c.due("4: asking", x.free(0), 0);
        c.dueSlot("4: free", x, 0, 0, 0, 0, 0, 0, 0, 0);
        c.due("4: body", x.body(0, 0), BAD);
        c.due("4: free again", x.free(0), STATE);
        c.due("4: the other slot", x.slot(1, 0), 1);
        c.due("4: its datagram goes on", x.waiting(), 2);
        Checks.ticks(x, 4);
        c.due("4: its request is not sent again", x.waiting(), 3);
        x.deliver(0);
        x.deliver(2);
        c.dueSlot("4: its answer is ignored", x, 0, 0, 0, 0, 0, 0, 0, 0);
        c.due("4: the next use", x.get(0, 0, 0, true), 4);
        Checks.deliverAll(x);
        c.due("4: it watches", x.slot(0, 4), 1);
        c.due("4: watching", x.free(0), 0);
        c.dueSlot("4: free", x, 0, 0, 0, 0, 0, 0, 0, 0);
        x.change(0, 1, 1);
        x.deliver(x.waiting() - 1);
        c.due("4: it watches no more", x.datagram(x.waiting() - 1, 0), 112);
    }

    private static void promise5Change() {
        ObservedBlocks x = new ObservedBlocks();
        c.due("5: change(2, 64, 300)", x.change(2, 64, 300), 0);
        c.due("5: length", x.content(2, -1), 64);
        c.due("5: first", x.content(2, 0), 44);
        c.due("5: last", x.content(2, 63), (300 + 315) & 255);
        c.due("5: nobody is told", x.waiting(), 0);
        c.due("5: change(2, 0, 1)", x.change(2, 0, 1), 0);
        c.due("5: length", x.content(2, -1), 0);
        int[][] wrong = {{4, 1}, {-1, 1}, {0, 65}, {0, -1}, {MIN, 1}, {MAX, 1}, {0, MIN}, {0, MAX}};
        for (int[] w : wrong) {
            c.due("5: change with a wrong number", x.change(w[0], w[1], 0), BAD);
        }
        c.due("5: nothing has changed", x.content(0, -1), 0);
        x.get(0, 2, 1, true);
        Checks.deliverAll(x);
        x.change(3, 5, 5);
        c.due("5: another resource", x.waiting(), 0);
        x.change(2, 33, -3);
        int[] head = {65, 69, 0, 1, 2, 97, 2, 209, 4, 9};
        c.dueDatagram("5: told", x, 0, 0, Checks.join(head, Checks.payload(Checks.made(0, 32, -3))));
        c.due("5: SEEN", x.server(2), 2);
    }

    private static void promise6Tick() {
        ObservedBlocks x = new ObservedBlocks();
        x.get(1, 0, 0, false);
        x.tick();
        x.get(0, 0, 0, false);
        int[] due = {4, 5, 12, 13, 28, 29};
        int sent = 2;
        int next = 0;
        for (int t = 2; t <= 61; t++) {
            c.due("6: tick()", x.tick(), t);
            if (next < due.length && t == due[next]) {
                sent++;
                c.due("6: which is sent again", x.datagram(sent - 1, 4), next % 2 == 0 ? 3 : 2);
                next++;
            }
            c.due("6: waiting() at " + t, x.waiting(), sent);
            c.due("6: slot 1 at " + t, x.slot(1, 0), t < 60 ? 1 : 3);
            c.due("6: slot 0 at " + t, x.slot(0, 0), t < 61 ? 1 : 3);
        }
        Checks.ticks(x, 40);
        c.due("6: nothing is sent any more", x.waiting(), sent);

        ObservedBlocks y = new ObservedBlocks();
        y.get(1, 0, 1, true);
        Checks.deliverAll(y);
        y.get(0, 0, 0, true);
        Checks.deliverAll(y);
        y.free(1);
        y.change(0, 1, 1);
        y.get(1, 2, 0, false);
        y.free(0);
        y.get(0, 2, 0, false);
        Checks.ticks(y, 4);
        c.due("6: all four go again", y.waiting(), 8);
        int[] tokens = {4, 5, 3, 2};
        for (int i = 0; i < 4; i++) {
            c.due("6: slot 0, slot 1, then the watchers in their order", y.datagram(4 + i, 4), tokens[i]);
        }
        ObservedBlocks z = new ObservedBlocks();
        z.change(0, 17, 1);
        z.get(0, 0, 0, false);
        Checks.ticks(z, 30);
        z.deliver(0);
        while (z.waiting() > 1) {
            z.lose(0);
        }
        z.deliver(0);
        c.due("6: the next request", z.waiting(), 1);
        int[] again = {4, 12, 28};
        for (int t = 1; t < 60; t++) {
            z.tick();
            int count = 1;
            for (int sentAgain : again) {
                count += t >= sentAgain ? 1 : 0;
            }
            c.due("6: a new request begins with no repeats and a span of 4", z.waiting(), count);
            c.due("6: asking", z.slot(0, 0), 1);
        }
        z.tick();
        c.due("6: failed", z.slot(0, 0), 3);

        Checks.ticks(y, 55);
        c.due("6: watchers at 59", y.server(1), 2);
        Checks.ticks(y, 1);
        c.due("6: both are given up at 60", y.server(1), 0);
    }

    private static void promise7Deliver() {
        ObservedBlocks x = new ObservedBlocks();
        c.due("7: none", x.deliver(0), BAD);
        x.get(0, 0, 0, false);
        x.put(1, 1, 0, 3, 1);
        for (int k : new int[] {-1, 2, 16, MIN, MAX}) {
            c.due("7: deliver(" + k + ")", x.deliver(k), BAD);
        }
        c.due("7: out of order", x.deliver(1), 2);
        c.due("7: handled", x.content(1, -1), 3);
        c.dueDatagram("7: what was before it stays", x, 0, 1, 65, 1, 0, 1, 2, 177, 97, 192);
        c.dueDatagram("7: the answer", x, 1, 0, 97, 68, 0, 2, 3, 208, 14);
        c.due("7: to the client", x.deliver(1), 1);
        c.due("7: done", x.slot(1, 0), 2);
        x.spoil(0, 0, 128);
        c.due("7: no message", x.deliver(0), 0);
        c.due("7: it was not handled", x.server(0), 1);
    }

    private static void promise8Lose() {
        ObservedBlocks x = new ObservedBlocks();
        c.due("8: none", x.lose(0), BAD);
        x.get(0, 0, 0, false);
        x.get(1, 2, 1, false);
        x.repeat(0);
        for (int k : new int[] {-1, 3, MIN, MAX}) {
            c.due("8: lose(" + k + ")", x.lose(k), BAD);
        }
        c.due("8: lose(1)", x.lose(1), 2);
        c.due("8: the others stay", x.datagram(0, 4), 2);
        c.due("8: in their order", x.datagram(1, 4), 2);
        c.due("8: lose(1)", x.lose(1), 1);
        c.due("8: lose(0)", x.lose(0), 0);
        c.due("8: nothing came", x.server(0), 0);
        c.due("8: slot", x.slot(1, 0), 1);
    }

    private static void promise9Repeat() {
        ObservedBlocks x = new ObservedBlocks();
        c.due("9: none", x.repeat(0), BAD);
        x.get(0, 0, 0, false);
        x.get(1, 2, 1, false);
        for (int k : new int[] {-1, 2, MIN, MAX}) {
            c.due("9: repeat(" + k + ")", x.repeat(k), BAD);
        }
        x.spoil(0, 7, 15);
        c.due("9: repeat(0)", x.repeat(0), 3);
        c.dueDatagram("9: as it is", x, 2, 1, 65, 1, 0, 1, 2, 177, 97, 207);
        x.spoil(0, 7, 15);
        c.due("9: they are two", x.datagram(2, 7), 207);
        x.deliver(0);
        c.due("9: an answer too", x.repeat(2), 4);
        c.due("9: where it goes", x.datagram(3, -2), 0);
        for (int n = 5; n <= 16; n++) {
            c.due("9: repeat(0)", x.repeat(0), n);
        }
        c.due("9: a full line", x.repeat(0), 16);
        c.due("9: a full line", x.repeat(15), 16);
        c.due("9: none such", x.repeat(16), BAD);
        Checks.ticks(x, 4);
        c.due("9: what is sent to a full line is lost", x.waiting(), 16);
        x.lose(0);
        Checks.ticks(x, 8);
        c.due("9: slot 0 goes first, slot 1 is lost", x.waiting(), 16);
        c.due("9: slot 0", x.datagram(15, 4), 2);
    }

    private static void promise10Spoil() {
        ObservedBlocks x = new ObservedBlocks();
        c.due("10: none", x.spoil(0, 0, 1), false);
        x.get(0, 0, 0, false);
        c.due("10: spoil(0, 0, 255)", x.spoil(0, 0, 255), true);
        c.due("10: byte", x.datagram(0, 0), 65 ^ 255);
        c.due("10: spoil(0, 0, 255)", x.spoil(0, 0, 255), true);
        c.due("10: byte", x.datagram(0, 0), 65);
        c.due("10: bits 0", x.spoil(0, 7, 0), true);
        c.due("10: byte", x.datagram(0, 7), 192);
        int[][] wrong = {{1, 0, 1}, {-1, 0, 1}, {0, 8, 1}, {0, -1, 1}, {0, -2, 1}, {0, 0, 256}, {0, 0, -1}, {MIN, 0, 1}, {MAX, 0, 1},
            {0, MIN, 1}, {0, MAX, 1}, {0, 0, MIN}, {0, 0, MAX}};
        for (int[] w : wrong) {
            c.due("10: spoil with a wrong number", x.spoil(w[0], w[1], w[2]), false);
        }
        c.dueDatagram("10: nothing has changed", x, 0, 1, 65, 1, 0, 1, 2, 177, 97, 192);
        x.spoil(0, 6, 2);
        Checks.ticks(x, 4);
        c.dueDatagram("10: what is sent again is whole", x, 1, 1, 65, 1, 0, 1, 2, 177, 97, 192);
    }

    private static void promise11Waiting() {
        ObservedBlocks x = new ObservedBlocks();
        c.due("11: waiting()", x.waiting(), 0);
        x.get(0, 0, 0, false);
        c.due("11: waiting()", x.waiting(), 1);
        for (int n = 2; n <= 20; n++) {
            x.repeat(0);
            c.due("11: waiting()", x.waiting(), Math.min(n, 16));
        }
        x.lose(3);
        c.due("11: waiting()", x.waiting(), 15);
        x.deliver(3);
        c.due("11: waiting()", x.waiting(), 15);
    }

    private static void promise12Datagram() {
        ObservedBlocks x = new ObservedBlocks();
        c.due("12: none", x.datagram(0, -1), BAD);
        c.due("12: none", x.datagram(0, -2), BAD);
        x.put(0, 2, 0, 2, 200);
        int[] row = {65, 3, 0, 1, 2, 178, 99, 99, 208, 3, 255, 200, 205};
        c.due("12: how many", x.datagram(0, -1), row.length);
        c.due("12: where", x.datagram(0, -2), 1);
        for (int i = 0; i < row.length; i++) {
            c.due("12: byte " + i, x.datagram(0, i), row[i]);
        }
        for (int i : new int[] {row.length, 47, 48, 64, -3, MIN, MAX}) {
            c.due("12: datagram(0, " + i + ")", x.datagram(0, i), BAD);
        }
        for (int k : new int[] {-1, 1, 15, 16, MIN, MAX}) {
            c.due("12: datagram(" + k + ", 0)", x.datagram(k, 0), BAD);
            c.due("12: datagram(" + k + ", -1)", x.datagram(k, -1), BAD);
            c.due("12: datagram(" + k + ", -2)", x.datagram(k, -2), BAD);
        }
        x.deliver(0);
        c.due("12: to the client", x.datagram(0, -2), 0);
        c.due("12: a shorter one in the same place", x.datagram(0, 7), BAD);
    }

    private static void promise13Slot() {
        ObservedBlocks x = new ObservedBlocks();
        int[][] wrong = {{2, 0}, {-1, 0}, {0, 7}, {0, -1}, {MIN, 0}, {MAX, 0}, {1, MIN}, {1, MAX}};
        for (int[] w : wrong) {
            c.due("13: slot with a wrong number", x.slot(w[0], w[1]), BAD);
        }
        x.change(1, 64, 1);
        x.get(0, 1, 0, true);
        x.get(1, 4, 1, false);
        c.dueSlot("13: asking", x, 0, 1, 2, 0, 0, 0, 0, 0);
        Checks.deliverAll(x);
        c.dueSlot("13: done and watching", x, 0, 2, 2, 3, 64, 1, 1, 0);
        c.dueSlot("13: refused", x, 1, 4, 3, 0, 0, 0, 0, 132);
        for (int[] w : wrong) {
            c.due("13: slot with a wrong number", x.slot(w[0], w[1]), BAD);
        }
        x.free(1);
        x.put(1, 0, 0, 40, 1);
        c.dueSlot("13: nothing is left of the use before", x, 1, 1, 5, 0, 40, 0, 0, 0);
        Checks.ticks(x, 60);
        c.dueSlot("13: failed", x, 1, 3, 5, 0, 40, 0, 0, 0);
        x.free(0);
        x.get(0, 0, 0, false);
        c.dueSlot("13: nothing is left of the use before", x, 0, 1, 4, 0, 0, 0, 0, 0);
    }

    private static void promise14Body() {
        ObservedBlocks x = new ObservedBlocks();
        c.due("14: free", x.body(0, 0), BAD);
        x.put(0, 0, 0, 80, 3);
        for (int i = 0; i < 80; i++) {
            c.due("14: body(0, " + i + ")", x.body(0, i), (3 + 5 * i) & 255);
        }
        for (int i : new int[] {80, -1, -2, MIN, MAX}) {
            c.due("14: body(0, " + i + ")", x.body(0, i), BAD);
        }
        for (int s : new int[] {-1, 1, 2, MIN, MAX}) {
            c.due("14: body(" + s + ", 0)", x.body(s, 0), BAD);
        }
        x.free(0);
        c.due("14: free", x.body(0, 0), BAD);
        x.get(0, 1, 0, false);
        c.due("14: empty", x.body(0, 0), BAD);
        x.change(1, 17, 9);
        x.deliver(1);
        x.deliver(1);
        c.due("14: first block", x.body(0, 15), 84);
        c.due("14: no more as yet", x.body(0, 16), BAD);
        Checks.deliverAll(x);
        c.due("14: second block", x.body(0, 16), 89);
        c.due("14: end", x.body(0, 17), BAD);
    }

    private static void promise15Content() {
        ObservedBlocks x = new ObservedBlocks();
        for (int r = 0; r < 4; r++) {
            c.due("15: length", x.content(r, -1), 0);
            c.due("15: none", x.content(r, 0), BAD);
            x.change(r, 61 + r, r);
            c.due("15: length", x.content(r, -1), 61 + r);
            c.due("15: first", x.content(r, 0), r);
            c.due("15: last", x.content(r, 60 + r), (r + 5 * (60 + r)) & 255);
            c.due("15: none", x.content(r, 61 + r), BAD);
            c.due("15: none", x.content(r, -2), BAD);
            c.due("15: none", x.content(r, MIN), BAD);
            c.due("15: none", x.content(r, MAX), BAD);
        }
        for (int r : new int[] {-1, 4, MIN, MAX}) {
            c.due("15: content(" + r + ", 0)", x.content(r, 0), BAD);
            c.due("15: content(" + r + ", -1)", x.content(r, -1), BAD);
        }
        x.put(0, 2, 1, 40, 7);
        x.deliver(0);
        c.due("15: a part is no content", x.content(2, -1), 63);
        Checks.deliverAll(x);
        c.due("15: put", x.content(2, -1), 40);
        c.due("15: put", x.content(2, 39), 202);
        c.due("15: none", x.content(2, 40), BAD);
    }

    private static void promise16Server() {
        ObservedBlocks x = new ObservedBlocks();
        for (int what : new int[] {-1, 4, MIN, MAX}) {
            c.due("16: server(" + what + ")", x.server(what), BAD);
        }
        x.put(0, 0, 0, 40, 1);
        x.put(1, 3, 1, 40, 1);
        x.deliver(0);
        x.deliver(0);
        c.dueServer("16: two parts", x, 2, 0, 0, 48);
        x.free(0);
        x.get(0, 1, 0, true);
        Checks.deliverAll(x);
        c.dueServer("16: a watcher; a part stays", x, 4, 1, 1, 16);
        x.change(1, 1, 1);
        c.dueServer("16: SEEN grows", x, 4, 1, 2, 16);
        x.get(0, 4, 0, false);
        x.free(1);
        x.get(1, 4, 0, false);
        Checks.deliverAll(x);
        c.dueServer("16: a refused request is handled too", x, 5, 1, 2, 16);
    }
}
