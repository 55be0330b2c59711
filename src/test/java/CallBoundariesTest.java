/** The boundary cases of the calls: each promise's own, and that a call that is refused changes nothing. */
public final class CallBoundariesTest {
    private static final int BAD = -1;
    private static final int STATE = -2;
    private static final int MIN = Integer.MIN_VALUE;
    private static final int MAX = Integer.MAX_VALUE;
    private static final int[] NO_SLOTS = {MIN, -2, -1, 2, 3, MAX};
    private static final Checks c = new Checks();

    public static void main(String[] args) {
        refusedCallsChangeNothing();
        refusedCallsOfANewObject();
        promise1();
        promise2Bad();
        promise2State();
        promise2Edges();
        promise3Length();
        promise3Bytes();
        promise3BadAndState();
        promise4BadAndState();
        promise4WhateverItDid();
        promise5Length();
        promise5Bad();
        promise5Told();
        promise6Order();
        promise6Time();
        promise7Bad();
        promise7HowManyThen();
        promise8Bad();
        promise8Lost();
        promise9Bad();
        promise9AsItIs();
        promise10False();
        promise10Bits();
        promise11Edges();
        promise12Bad();
        promise12Edges();
        promise13Bad();
        promise13Last();
        promise13Reason();
        promise13Free();
        promise14Bad();
        promise15Bad();
        promise16Bad();
        promise16Edges();
        c.finish("CallBoundariesTest");
    }

    /** A slot that watches and asks, one that is free, a watcher that is told and CHANGED, a part, a memory. */
    private static ObservedBlocks busy() {
        ObservedBlocks x = new ObservedBlocks();
        x.change(0, 40, 1);
        x.get(0, 0, 0, true);
        x.put(1, 2, 1, 50, 3);
        x.deliver(1);
        x.deliver(0);
        x.deliver(1);
        x.free(1);
        x.tick();
        x.change(0, 20, 2);
        x.change(0, 30, 3);
        x.tick();
        return x;
    }

    /** Brings about what shows IDs, uses, the memory and what is pending. */
    private static ObservedBlocks later(ObservedBlocks x) {
        Checks.ticks(x, 9);
        x.get(1, 0, 0, true);
        Checks.deliverAll(x);
        x.change(0, 3, 3);
        x.change(2, 3, 3);
        return x;
    }

    private static ObservedBlocks muchLater(ObservedBlocks x) {
        later(x);
        Checks.ticks(x, 30);
        return x;
    }

    private static ObservedBlocks refuseAll(ObservedBlocks x, boolean slot0IsFree, boolean slot1IsFree) {
        for (int s : NO_SLOTS) {
            c.due("get", x.get(s, 0, 0, true), BAD);
            c.due("put", x.put(s, 0, 0, 1, 1), BAD);
            c.due("free", x.free(s), BAD);
            c.due("slot", x.slot(s, 0), BAD);
            c.due("body", x.body(s, 0), BAD);
        }
        for (int s = 0; s < 2; s++) {
            boolean isFree = s == 0 ? slot0IsFree : slot1IsFree;
            c.due("get with a wrong path", x.get(s, 5, 0, true), BAD);
            c.due("get with a wrong szx", x.get(s, 0, 2, true), BAD);
            c.due("put with a wrong length", x.put(s, 0, 0, 81, 1), BAD);
            c.due("slot with a wrong what", x.slot(s, 7), BAD);
            c.due("body of none", x.body(s, 80), BAD);
            if (isFree) {
                c.due("free", x.free(s), STATE);
            } else {
                c.due("get", x.get(s, 0, 0, true), STATE);
                c.due("put", x.put(s, 0, 0, 1, 1), STATE);
            }
        }
        for (int k : new int[] {MIN, -1, x.waiting(), 16, MAX}) {
            c.due("deliver", x.deliver(k), BAD);
            c.due("lose", x.lose(k), BAD);
            c.due("repeat", x.repeat(k), BAD);
            c.due("spoil", x.spoil(k, 0, 1), false);
            c.due("datagram", x.datagram(k, 0), BAD);
        }
        c.due("spoil of no byte", x.spoil(0, 47, 1), false);
        c.due("spoil with wrong bits", x.spoil(0, 0, 256), false);
        c.due("change of no resource", x.change(4, 1, 1), BAD);
        c.due("change with a wrong length", x.change(0, 65, 1), BAD);
        c.due("content", x.content(4, -1), BAD);
        c.due("server", x.server(4), BAD);
        return x;
    }

    private static void refusedCallsChangeNothing() {
        c.says("A call that is refused changes nothing");
        c.dueRow("all that can be seen",
            Checks.picture(() -> refuseAll(busy(), false, true)), Checks.picture(CallBoundariesTest::busy));
        c.dueRow("all that can be seen later",
            Checks.picture(() -> later(refuseAll(busy(), false, true))), Checks.picture(() -> later(busy())));
        c.dueRow("all that can be seen much later",
            Checks.picture(() -> muchLater(refuseAll(busy(), false, true))), Checks.picture(() -> muchLater(busy())));
    }

    private static void refusedCallsOfANewObject() {
        c.says("A call that is refused changes nothing");
        c.dueRow("all that can be seen",
            Checks.picture(() -> refuseAll(new ObservedBlocks(), true, true)), Checks.picture(ObservedBlocks::new));
        c.dueRow("all that can be seen later",
            Checks.picture(() -> later(refuseAll(new ObservedBlocks(), true, true))), Checks.picture(() -> later(new ObservedBlocks())));
    }

    private static void promise1() {
        c.says("All as said, TIME 0, the line empty, all slots free");
        ObservedBlocks x = new ObservedBlocks();
        c.due("waiting()", x.waiting(), 0);
        c.due("deliver(0)", x.deliver(0), BAD);
        c.dueSlot("slot 0", x, 0, 0, 0, 0, 0, 0, 0, 0);
        c.dueSlot("slot 1", x, 1, 0, 0, 0, 0, 0, 0, 0);
        c.dueServer("server", x, 0, 0, 0, 0);
        c.due("tick()", x.tick(), 1);
    }

    private static void promise2Bad() {
        c.says("BAD when slot is not 0 or 1, path not 0 .. 4 or szx not 0 or 1");
        ObservedBlocks x = new ObservedBlocks();
        for (int s : NO_SLOTS) {
            c.due("slot " + s, x.get(s, 0, 0, false), BAD);
        }
        for (int path : new int[] {MIN, -1, 5, MAX}) {
            c.due("path " + path, x.get(0, path, 0, false), BAD);
        }
        for (int szx : new int[] {MIN, -1, 2, 7, MAX}) {
            c.due("szx " + szx, x.get(0, 0, szx, false), BAD);
        }
        c.due("nothing was sent", x.waiting(), 0);
        c.due("the least of all", x.get(0, 0, 0, false), 2);
        c.due("the highest of all", x.get(1, 4, 1, true), 3);
    }

    private static void promise2State() {
        c.says("STATE when the slot is not free");
        ObservedBlocks x = new ObservedBlocks();
        x.get(0, 4, 0, false);
        c.due("ASKING", x.get(0, 0, 0, false), STATE);
        c.due("ASKING, put", x.put(0, 0, 0, 1, 1), STATE);
        x.deliver(0);
        x.deliver(0);
        c.due("REFUSED", x.get(0, 0, 0, false), STATE);
        c.due("REFUSED, put", x.put(0, 0, 0, 1, 1), STATE);
        x.free(0);
        x.get(0, 0, 0, false);
        Checks.deliverAll(x);
        c.due("DONE", x.get(0, 0, 0, false), STATE);
        c.due("DONE, put", x.put(0, 0, 0, 1, 1), STATE);
        x.free(0);
        x.get(0, 0, 0, false);
        Checks.ticks(x, 60);
        c.due("FAILED", x.get(0, 0, 0, false), STATE);
        c.due("FAILED, put", x.put(0, 0, 0, 1, 1), STATE);
        c.due("the other slot", x.get(1, 0, 0, false), 3);
    }

    private static void promise2Edges() {
        c.says("its NUM is 0, its body empty, it does not watch as yet, it is ASKING and asks");
        ObservedBlocks x = new ObservedBlocks();
        x.change(0, 64, 1);
        x.get(0, 0, 0, true);
        Checks.deliverAll(x);
        c.dueSlot("before", x, 0, 2, 2, 3, 64, 1, 1, 0);
        x.free(0);
        c.due("get(0, 0, 0, true)", x.get(0, 0, 0, true), 4);
        c.dueSlot("nothing of the use before is left", x, 0, 1, 4, 0, 0, 0, 0, 0);
        c.due("body(0, 0)", x.body(0, 0), BAD);
        c.due("it asks", x.waiting(), 1);
    }

    private static void promise3Length() {
        c.says("A slot begins to put a body of so many bytes (0 .. 80) .. BAD, also when length is not 0 .. 80");
        for (int length : new int[] {MIN, -1, 81, 256, MAX}) {
            c.due("length " + length, new ObservedBlocks().put(0, 0, 0, length, 1), BAD);
        }
        for (int length : new int[] {0, 1, 79, 80}) {
            ObservedBlocks x = new ObservedBlocks();
            c.due("length " + length, x.put(0, 0, 0, length, 1), 2);
            c.due("length of the body", x.slot(0, 3), length);
            c.due("byte behind it", x.body(0, length), BAD);
        }
    }

    private static void promise3Bytes() {
        c.says("byte i being the lowest eight bits of seed + 5 * i");
        for (int seed : new int[] {0, 255, 256, -1, -256, MIN, MAX, 1 << 30}) {
            ObservedBlocks x = new ObservedBlocks();
            x.put(1, 0, 1, 80, seed);
            x.change(2, 64, seed);
            for (int i = 0; i < 80; i++) {
                // Written apart from the program's way: the sum as a long, its rest by 256.
                int want = (int) Math.floorMod(seed + 5L * i, 256L);
                c.due("body, seed " + seed, x.body(1, i), want);
                c.due("content, seed " + seed, x.content(2, i), i < 64 ? want : BAD);
            }
        }
    }

    private static void promise3BadAndState() {
        c.says("BAD, also when length is not 0 .. 80; STATE");
        ObservedBlocks x = new ObservedBlocks();
        for (int s : NO_SLOTS) {
            c.due("slot " + s, x.put(s, 0, 0, 1, 1), BAD);
        }
        for (int path : new int[] {MIN, -1, 5, MAX}) {
            c.due("path " + path, x.put(1, path, 0, 1, 1), BAD);
        }
        for (int szx : new int[] {MIN, -1, 2, MAX}) {
            c.due("szx " + szx, x.put(1, 0, szx, 1, 1), BAD);
        }
        c.due("path 4, szx 1", x.put(1, 4, 1, 1, 1), 3);
        c.due("not free", x.put(1, 4, 1, 1, 1), STATE);
        c.due("not free and a wrong length", x.put(1, 4, 1, 81, 1), BAD);
    }

    private static void promise4BadAndState() {
        c.says("BAD when slot is not 0 or 1; STATE when it is free");
        ObservedBlocks x = new ObservedBlocks();
        for (int s : NO_SLOTS) {
            c.due("slot " + s, x.free(s), BAD);
        }
        for (int s = 0; s < 2; s++) {
            c.due("free at first", x.free(s), STATE);
            x.get(s, 0, 0, false);
            c.due("not free", x.free(s), 0);
            c.due("free again", x.free(s), STATE);
        }
    }

    private static void promise4WhateverItDid() {
        c.says("A slot is free, whatever it did: 0");
        ObservedBlocks x = new ObservedBlocks();
        x.get(0, 0, 0, true);
        c.due("ASKING", x.free(0), 0);
        Checks.ticks(x, 60);
        c.due("its request is not sent again", x.waiting(), 1);
        c.dueSlot("nor given up", x, 0, 0, 0, 0, 0, 0, 0, 0);
        Checks.emptyLine(x);
        x.get(0, 4, 0, false);
        Checks.deliverAll(x);
        c.due("REFUSED", x.free(0), 0);
        x.put(0, 0, 0, 3, 3);
        Checks.deliverAll(x);
        c.due("DONE", x.free(0), 0);
        c.due("body", x.body(0, 0), BAD);
        x.get(0, 0, 0, false);
        Checks.ticks(x, 60);
        c.due("FAILED", x.slot(0, 0), 3);
        c.due("FAILED", x.free(0), 0);
        Checks.emptyLine(x);
        x.get(0, 0, 0, true);
        Checks.deliverAll(x);
        c.due("watching", x.free(0), 0);
        c.due("the server does not know of it", x.server(1), 1);
    }

    private static void promise5Length() {
        c.says("The content of a resource becomes so many bytes (0 .. 64), made likewise");
        ObservedBlocks x = new ObservedBlocks();
        for (int length : new int[] {64, 1, 0, 63}) {
            c.due("change(3, " + length + ", 9)", x.change(3, length, 9), 0);
            c.due("length", x.content(3, -1), length);
            c.due("byte behind it", x.content(3, length), BAD);
            if (length > 0) {
                c.due("last byte", x.content(3, length - 1), (9 + 5 * (length - 1)) & 255);
            }
        }
    }

    private static void promise5Bad() {
        c.says("BAD when resource is not 0 .. 3 or length not 0 .. 64");
        ObservedBlocks x = new ObservedBlocks();
        x.get(0, 0, 0, true);
        Checks.deliverAll(x);
        for (int r : new int[] {MIN, -1, 4, 5, MAX}) {
            c.due("resource " + r, x.change(r, 1, 1), BAD);
        }
        for (int length : new int[] {MIN, -1, 65, 80, MAX}) {
            c.due("length " + length, x.change(0, length, 1), BAD);
        }
        c.due("nobody is told", x.waiting(), 0);
        c.due("SEEN", x.server(2), 1);
        c.due("content", x.content(0, -1), 0);
    }

    private static void promise5Told() {
        c.says("and its watchers are told: 0");
        ObservedBlocks x = new ObservedBlocks();
        c.due("no watcher", x.change(0, 1, 1), 0);
        c.due("waiting()", x.waiting(), 0);
        x.get(0, 0, 0, true);
        x.get(1, 0, 1, true);
        Checks.deliverAll(x);
        c.due("two watchers", x.change(0, 1, 1), 0);
        c.due("told though the content is as it was", x.waiting(), 2);
    }

    private static void promise6Order() {
        c.says("then what is pending goes on, slot 0, slot 1, then the watchers in their order");
        ObservedBlocks x = new ObservedBlocks();
        x.get(1, 0, 0, true);
        Checks.deliverAll(x);
        x.get(0, 0, 0, true);
        Checks.deliverAll(x);
        x.free(0);
        x.free(1);
        x.change(0, 1, 1);
        x.put(1, 0, 0, 1, 1);
        x.put(0, 0, 0, 1, 1);
        Checks.emptyLine(x);
        Checks.ticks(x, 4);
        int[] tokens = {4, 5, 3, 2};
        c.due("four go again", x.waiting(), 4);
        for (int k = 0; k < 4; k++) {
            c.due("token of datagram " + k, x.datagram(k, 4), tokens[k]);
        }
    }

    private static void promise6Time() {
        c.says("TIME grows by 1 .. Answers TIME");
        ObservedBlocks x = busy();
        for (int t = 3; t < 200; t++) {
            c.due("tick()", x.tick(), t);
        }
    }

    private static void promise7Bad() {
        c.says("deliver: BAD when there is none");
        ObservedBlocks x = new ObservedBlocks();
        c.due("an empty line", x.deliver(0), BAD);
        x.get(0, 0, 0, false);
        Checks.fillLine(x);
        for (int k : new int[] {MIN, -1, 16, 17, MAX}) {
            c.due("deliver(" + k + ")", x.deliver(k), BAD);
        }
        c.due("nothing came", x.server(0), 0);
        c.due("the last of a full line", x.deliver(15), 16);
        c.due("it came", x.server(0), 1);
    }

    private static void promise7HowManyThen() {
        c.says("is taken out and comes to where it goes: how many the line has then");
        ObservedBlocks x = new ObservedBlocks();
        x.change(0, 17, 1);
        x.get(0, 0, 0, false);
        c.due("a request is answered", x.deliver(0), 1);
        c.due("an answer with MORE 1 brings another request", x.deliver(0), 1);
        c.due("a request is answered", x.deliver(0), 1);
        c.due("the last answer brings none", x.deliver(0), 0);
        x.free(0);
        x.get(0, 0, 0, true);
        Checks.deliverAll(x);
        x.change(0, 17, 1);
        c.due("news with MORE 1 bring an ACK and a request", x.deliver(0), 2);
        Checks.deliverAll(x);
        x.put(1, 0, 0, 1, 1);
        c.due("a put tells a watcher and is answered", x.deliver(0), 2);
        x.spoil(1, 1, 68);
        c.due("what is no message brings none", x.deliver(1), 1);
    }

    private static void promise8Bad() {
        c.says("lose: BAD when there is none");
        ObservedBlocks x = new ObservedBlocks();
        c.due("an empty line", x.lose(0), BAD);
        x.get(0, 0, 0, false);
        for (int k : new int[] {MIN, -1, 1, 16, MAX}) {
            c.due("lose(" + k + ")", x.lose(k), BAD);
        }
        c.due("lose(0)", x.lose(0), 0);
        c.due("lose(0) again", x.lose(0), BAD);
    }

    private static void promise8Lost() {
        c.says("Datagram k is taken out and lost: how many the line has then");
        ObservedBlocks x = new ObservedBlocks();
        x.get(0, 0, 0, false);
        Checks.fillLine(x);
        x.spoil(15, 0, 9);
        x.spoil(0, 0, 10);
        c.due("the last", x.lose(15), 15);
        c.due("the first", x.lose(0), 14);
        for (int k = 0; k < 14; k++) {
            c.due("the others are left", x.datagram(k, 0), 65);
        }
        c.due("nothing came", x.server(0), 0);
        c.due("the slot", x.slot(0, 0), 1);
    }

    private static void promise9Bad() {
        c.says("repeat: BAD when there is none");
        ObservedBlocks x = new ObservedBlocks();
        c.due("an empty line", x.repeat(0), BAD);
        x.get(0, 0, 0, false);
        for (int k : new int[] {MIN, -1, 1, 15, 16, MAX}) {
            c.due("repeat(" + k + ")", x.repeat(k), BAD);
        }
        Checks.fillLine(x);
        c.due("repeat(16) of a full line", x.repeat(16), BAD);
    }

    private static void promise9AsItIs() {
        c.says("Datagram k is sent once more, as it is: how many the line has then");
        ObservedBlocks x = new ObservedBlocks();
        x.put(0, 3, 1, 32, 1);
        x.get(1, 0, 0, false);
        x.spoil(0, 45, 255);
        int[] spoiled = Checks.rowOf(x, 0);
        c.due("repeat(0)", x.repeat(0), 3);
        c.dueDatagram("spoiled as it is, behind the others", x, 2, 1, spoiled);
        x.spoil(2, 0, 1);
        c.due("the first is another", x.datagram(0, 0), 65);
        x.deliver(1);
        c.due("one for the client", x.repeat(2), 4);
        c.due("where it goes", x.datagram(3, -2), 0);
        Checks.ticks(x, 4);
        c.due("it is not pending: the slots alone send again", x.waiting(), 6);
    }

    private static void promise10False() {
        c.says("False when there is no such datagram or byte, or bits is not 0 .. 255");
        ObservedBlocks x = new ObservedBlocks();
        c.due("an empty line", x.spoil(0, 0, 1), false);
        x.get(0, 0, 0, false);
        for (int k : new int[] {MIN, -1, 1, 16, MAX}) {
            c.due("datagram " + k, x.spoil(k, 0, 1), false);
        }
        for (int i : new int[] {MIN, -2, -1, 8, 9, 47, 48, MAX}) {
            c.due("byte " + i, x.spoil(0, i, 1), false);
        }
        for (int bits : new int[] {MIN, -1, 256, 257, MAX}) {
            c.due("bits " + bits, x.spoil(0, 0, bits), false);
        }
        c.dueDatagram("it is as it was", x, 0, 1, 65, 1, 0, 1, 2, 177, 97, 192);
    }

    private static void promise10Bits() {
        c.says("Byte i of datagram k becomes byte ^ bits: true");
        ObservedBlocks x = new ObservedBlocks();
        x.get(0, 0, 0, false);
        c.due("bits 0", x.spoil(0, 0, 0), true);
        c.due("byte 0", x.datagram(0, 0), 65);
        c.due("bits 255", x.spoil(0, 0, 255), true);
        c.due("byte 0", x.datagram(0, 0), 190);
        c.due("the last byte", x.spoil(0, 7, 192), true);
        c.due("byte 7", x.datagram(0, 7), 0);
        Checks.fillLine(x);
        c.due("the last datagram", x.spoil(15, 0, 255), true);
        c.due("byte 0", x.datagram(15, 0), 65);
        c.due("another is as it was", x.datagram(14, 0), 190);
    }

    private static void promise11Edges() {
        c.says("How many datagrams the line has");
        ObservedBlocks x = new ObservedBlocks();
        c.due("none", x.waiting(), 0);
        x.get(0, 0, 0, false);
        c.due("one", x.waiting(), 1);
        Checks.fillLine(x);
        c.due("all", x.waiting(), 16);
        x.repeat(0);
        c.due("no more than all", x.waiting(), 16);
        Checks.emptyLine(x);
        c.due("none again", x.waiting(), 0);
    }

    private static void promise12Bad() {
        c.says("datagram: BAD when there is no such datagram or byte");
        ObservedBlocks x = new ObservedBlocks();
        for (int i = -2; i <= 0; i++) {
            c.due("an empty line", x.datagram(0, i), BAD);
        }
        x.put(0, 3, 1, 32, 1);
        for (int i : new int[] {MIN, -4, -3, 46, 47, 48, MAX}) {
            c.due("byte " + i + " of the longest", x.datagram(0, i), BAD);
        }
        for (int k : new int[] {MIN, -1, 1, 16, MAX}) {
            for (int i = -2; i <= 0; i++) {
                c.due("datagram " + k, x.datagram(k, i), BAD);
            }
        }
        x.deliver(0);
        c.due("bytes of the answer", x.datagram(0, -1), 8);
        c.due("byte 8 of the answer", x.datagram(0, 8), BAD);
    }

    private static void promise12Edges() {
        c.says("for i = -1 how many bytes it has, for i = -2 where it goes (0 client, 1 server), otherwise byte i");
        ObservedBlocks x = new ObservedBlocks();
        x.put(0, 3, 1, 32, 1);
        c.due("bytes of the longest", x.datagram(0, -1), 46);
        c.due("the server", x.datagram(0, -2), 1);
        c.due("byte 0", x.datagram(0, 0), 65);
        c.due("byte 45", x.datagram(0, 45), 156);
        x.get(1, 4, 0, false);
        x.deliver(1);
        c.due("bytes of the shortest answer", x.datagram(1, -1), 5);
        c.due("the client", x.datagram(1, -2), 0);
    }

    private static void promise13Bad() {
        c.says("slot: BAD when there is no such slot or what");
        ObservedBlocks x = new ObservedBlocks();
        x.get(0, 0, 0, false);
        for (int s : NO_SLOTS) {
            c.due("slot " + s, x.slot(s, 0), BAD);
        }
        for (int what : new int[] {MIN, -1, 7, 8, MAX}) {
            c.due("what " + what, x.slot(0, what), BAD);
            c.due("what " + what + " of a free one", x.slot(1, what), BAD);
        }
    }

    private static void promise13Last() {
        c.says("5 LAST (0 as long as it does not watch)");
        ObservedBlocks x = new ObservedBlocks();
        x.change(0, 17, 1);
        x.get(0, 0, 0, true);
        c.due("it is to watch", x.slot(0, 5), 0);
        x.deliver(0);
        c.due("the server has it as a watcher", x.slot(0, 5), 0);
        x.deliver(0);
        c.due("it watches", x.slot(0, 4), 1);
        c.due("LAST", x.slot(0, 5), 1);
        x.free(0);
        x.get(0, 0, 0, false);
        Checks.deliverAll(x);
        c.due("the next use does not watch", x.slot(0, 5), 0);
        x.free(0);
        x.put(0, 0, 0, 1, 1);
        c.due("nor does a put", x.slot(0, 5), 0);
    }

    private static void promise13Reason() {
        c.says("6 REASON (0 unless it is REFUSED)");
        ObservedBlocks x = new ObservedBlocks();
        x.get(0, 4, 0, false);
        c.due("ASKING", x.slot(0, 6), 0);
        Checks.deliverAll(x);
        c.due("REFUSED", x.slot(0, 6), 132);
        x.free(0);
        c.due("FREE", x.slot(0, 6), 0);
        x.get(0, 0, 0, false);
        c.due("ASKING in the next use", x.slot(0, 6), 0);
        Checks.deliverAll(x);
        c.due("DONE", x.slot(0, 6), 0);
        x.free(0);
        x.get(0, 0, 0, false);
        Checks.ticks(x, 60);
        c.due("FAILED", x.slot(0, 6), 0);
    }

    private static void promise13Free() {
        c.says("Those are 0 when it is free");
        ObservedBlocks x = new ObservedBlocks();
        x.change(0, 33, 1);
        for (int s = 0; s < 2; s++) {
            x.get(s, 0, 0, true);
            Checks.deliverAll(x);
            c.dueSlot("before", x, s, 2, 2 + s, 2, 33, 1, s + 1, 0);
            x.free(s);
            c.dueSlot("free", x, s, 0, 0, 0, 0, 0, 0, 0);
        }
    }

    private static void promise14Bad() {
        c.says("body: BAD when there is none or it is free");
        ObservedBlocks x = new ObservedBlocks();
        c.due("free at first", x.body(0, 0), BAD);
        x.put(0, 0, 0, 3, 7);
        for (int s : NO_SLOTS) {
            c.due("slot " + s, x.body(s, 0), BAD);
        }
        c.due("the other slot is free", x.body(1, 0), BAD);
        for (int i : new int[] {MIN, -2, -1, 3, 79, 80, MAX}) {
            c.due("byte " + i, x.body(0, i), BAD);
        }
        c.due("the first", x.body(0, 0), 7);
        c.due("the last", x.body(0, 2), 17);
        x.free(0);
        c.due("free again", x.body(0, 0), BAD);
        x.get(0, 0, 0, false);
        c.due("empty in the next use", x.body(0, 0), BAD);
    }

    private static void promise15Bad() {
        c.says("content: for i = -1 its length; BAD when there is none");
        ObservedBlocks x = new ObservedBlocks();
        for (int r : new int[] {MIN, -1, 4, 5, MAX}) {
            c.due("length of resource " + r, x.content(r, -1), BAD);
            c.due("byte of resource " + r, x.content(r, 0), BAD);
        }
        c.due("byte 0 of none", x.content(0, 0), BAD);
        x.change(0, 2, 7);
        for (int i : new int[] {MIN, -3, -2, 2, 63, 64, MAX}) {
            c.due("byte " + i, x.content(0, i), BAD);
        }
        c.due("the last", x.content(0, 1), 12);
        c.due("the length", x.content(0, -1), 2);
        x.change(0, 1, 7);
        c.due("a byte that was", x.content(0, 1), BAD);
    }

    private static void promise16Bad() {
        c.says("server: BAD for another");
        ObservedBlocks x = new ObservedBlocks();
        for (int what : new int[] {MIN, -1, 4, 5, MAX}) {
            c.due("server(" + what + ")", x.server(what), BAD);
        }
    }

    private static void promise16Edges() {
        c.says("0 how many requests were handled .. 3 the length of all parts together");
        ObservedBlocks x = new ObservedBlocks();
        for (int r = 0; r < 4; r++) {
            x.put(0, r, 1, 65, 1);
            x.deliver(0);
            x.deliver(0);
            x.deliver(0);
            Checks.emptyLine(x);
            x.free(0);
            c.dueServer("parts", x, 2 * r + 2, 0, 0, 64 * (r + 1));
        }
        x.get(0, 0, 0, false);
        x.repeat(0);
        x.deliver(0);
        x.deliver(0);
        c.due("one from the memory is not handled", x.server(0), 9);
        x.get(1, 4, 0, false);
        x.deliver(2);
        c.due("one that is refused is", x.server(0), 10);
    }
}
