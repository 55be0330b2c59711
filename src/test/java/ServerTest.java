/** What the server does with the messages that come to it. */
public final class ServerTest {
    private static final Checks c = new Checks();

    public static void main(String[] args) {
        gets();
        getsBehindTheEnd();
        puts();
        putsOutOfStep();
        longBlocks();
        partsTooLong();
        watchersBegin();
        watchersAgain();
        watchersEnd();
        told();
        toldByPut();
        receipts();
        memoryAnswers();
        memoryForgetsByTime();
        memoryForgetsTheFirst();
        memoryAfterTheSameId();
        c.finish("ServerTest");
    }

    private static void gets() {
        ObservedBlocks x = new ObservedBlocks();
        Checks.bringToServer(x, 65, 1, 3, 4, 200, 177, 97, 192);
        c.dueDatagram("no content", x, 0, 0, 97, 69, 3, 4, 200, 208, 10);
        x.change(1, 33, 1);
        Checks.bringToServer(x, 65, 1, 0, 10, 9, 177, 97, 1, 98, 192);
        c.dueDatagram("first of three", x, 1, 0, Checks.join(Checks.row(97, 69, 0, 10, 9, 209, 10, 8), Checks.payload(Checks.made(0, 16, 1))));
        Checks.bringToServer(x, 65, 1, 0, 11, 9, 177, 97, 1, 98, 193, 24);
        c.dueDatagram("second of three, MORE of the request is nothing", x, 2, 0,
            Checks.join(Checks.row(97, 69, 0, 11, 9, 209, 10, 24), Checks.payload(Checks.made(16, 32, 1))));
        Checks.bringToServer(x, 65, 1, 0, 12, 9, 177, 97, 1, 98, 193, 32);
        c.dueDatagram("third of three", x, 3, 0, 97, 69, 0, 12, 9, 209, 10, 32, 255, 161);
        Checks.bringToServer(x, 65, 1, 0, 13, 9, 177, 97, 1, 98, 193, 1);
        c.dueDatagram("first of two", x, 4, 0, Checks.join(Checks.row(97, 69, 0, 13, 9, 209, 10, 9), Checks.payload(Checks.made(0, 32, 1))));
        Checks.bringToServer(x, 65, 1, 0, 14, 9, 177, 97, 1, 98, 193, 17);
        c.dueDatagram("second of two", x, 5, 0, 97, 69, 0, 14, 9, 209, 10, 17, 255, 161);
        x.change(1, 32, 1);
        Checks.bringToServer(x, 65, 1, 0, 15, 9, 177, 97, 1, 98, 193, 1);
        c.dueDatagram("just one", x, 6, 0, Checks.join(Checks.row(97, 69, 0, 15, 9, 209, 10, 1), Checks.payload(Checks.made(0, 32, 1))));
        Checks.bringToServer(x, 65, 1, 0, 16, 9, 177, 120, 193, 1);
        c.dueDatagram("no resource", x, 7, 0, 97, 132, 0, 16, 9);
        Checks.bringToServer(x, 65, 1, 0, 17, 9, 177, 120, 255, 1);
        c.dueDatagram("no resource goes before no BLOCK2", x, 8, 0, 97, 132, 0, 17, 9);
        Checks.bringToServer(x, 65, 1, 0, 18, 9, 177, 97, 209, 3, 8);
        c.dueDatagram("no BLOCK2", x, 9, 0, 97, 130, 0, 18, 9);
        Checks.bringToServer(x, 65, 3, 0, 19, 9, 177, 97, 193, 1);
        c.dueDatagram("no BLOCK1", x, 10, 0, 97, 130, 0, 19, 9);
        c.dueServer("server", x, 11, 0, 0, 0);
    }

    private static void getsBehindTheEnd() {
        int[][] cases = {{0, 16, 130}, {0, 0, 69}, {16, 16, 130}, {17, 16, 69}, {32, 17, 130}, {33, 17, 69}, {64, 48, 69}, {64, 64, 130},
            {64, 33, 130}, {64, 25, 69}};
        for (int[] one : cases) {
            ObservedBlocks x = new ObservedBlocks();
            x.change(0, one[0], 1);
            if (one[1] == 0) {
                Checks.bringToServer(x, 65, 1, 0, 5, 9, 177, 97, 192);
            } else {
                Checks.bringToServer(x, 65, 1, 0, 5, 9, 177, 97, 193, one[1]);
            }
            c.due("content " + one[0] + ", block " + one[1], Checks.lastCode(x), one[2]);
            if (one[2] == 130) {
                c.dueDatagram("130 has no more", x, 0, 0, 97, 130, 0, 5, 9);
            }
        }
    }

    private static void puts() {
        ObservedBlocks x = new ObservedBlocks();
        Checks.bringPut(x, 5, 8, Checks.made(0, 16, 1));
        c.dueDatagram("95", x, 0, 0, 97, 95, 0, 5, 9, 209, 14, 8);
        c.dueServer("part", x, 1, 0, 0, 16);
        Checks.bringPut(x, 6, 24, Checks.made(16, 32, 1));
        c.dueDatagram("95", x, 1, 0, 97, 95, 0, 6, 9, 209, 14, 24);
        Checks.bringPut(x, 7, 32, 3, 4);
        c.dueDatagram("68", x, 2, 0, 97, 68, 0, 7, 9, 209, 14, 32);
        c.due("content", x.content(0, -1), 34);
        c.due("content", x.content(0, 33), 4);
        c.due("content", x.content(0, 31), 156);
        c.dueServer("no part", x, 3, 0, 0, 0);
        Checks.bringPut(x, 8, 0);
        c.dueDatagram("68 with BLOCK1 0", x, 3, 0, 97, 68, 0, 8, 9, 208, 14);
        c.due("empty", x.content(0, -1), 0);
        Checks.bringPut(x, 9, 0, Checks.made(0, 32, 1));
        c.due("more bytes than the size", Checks.lastCode(x), 68);
        c.due("all are taken", x.content(0, -1), 32);
        Checks.bringPut(x, 10, 9, Checks.made(0, 32, 1));
        Checks.bringPut(x, 11, 56, Checks.made(0, 16, 1));
        c.due("48 is not 32", Checks.lastCode(x), 136);
        Checks.bringPut(x, 12, 32, 7);
        c.due("2 * 16 is 32: another SZX goes on", Checks.lastCode(x), 68);
        c.due("content", x.content(0, -1), 33);
    }

    private static void putsOutOfStep() {
        ObservedBlocks x = new ObservedBlocks();
        Checks.bringPut(x, 5, 16, 1, 2);
        c.dueDatagram("136", x, 0, 0, 97, 136, 0, 5, 9, 209, 14, 16);
        c.due("no part", x.server(3), 0);
        Checks.bringPut(x, 6, 8, Checks.made(0, 16, 1));
        Checks.bringPut(x, 7, 40, 1, 2);
        c.due("136", Checks.lastCode(x), 136);
        c.due("the part stays", x.server(3), 16);
        Checks.bringPut(x, 8, 8, 1, 2, 3);
        c.due("NUM 0 begins anew", Checks.lastCode(x), 95);
        c.due("part", x.server(3), 3);
        Checks.bringPut(x, 9, 16, 1, 2);
        c.due("16 is not 3", Checks.lastCode(x), 136);
        Checks.bringPut(x, 10, 0, 5);
        c.due("NUM 0 begins anew", Checks.lastCode(x), 68);
        c.due("content", x.content(0, -1), 1);
        Checks.bringPut(x, 11, 8, 9, 9);
        Checks.bringToServer(x, 65, 3, 0, 12, 9, 178, 99, 99, 209, 3, 8, 255, 1, 2, 3, 4);
        c.due("each resource has its part", x.server(3), 6);
        x.change(0, 3, 3);
        c.due("a change leaves the part", x.server(3), 6);
    }

    private static void longBlocks() {
        ObservedBlocks x = new ObservedBlocks();
        int[] values = {240, 241, 248, 256, 257, 1016, 1017};
        for (int i = 0; i < values.length; i++) {
            int high = values[i] / 256;
            int low = values[i] % 256;
            if (high == 0) {
                Checks.bringToServer(x, 65, 3, 0, 5 + i, 9, 177, 97, 209, 3, low);
                c.dueDatagram("BLOCK1 as it was", x, i, 0, 97, 136, 0, 5 + i, 9, 209, 14, low);
            } else {
                Checks.bringToServer(x, 65, 3, 0, 5 + i, 9, 177, 97, 210, 3, high, low);
                c.dueDatagram("BLOCK1 as it was", x, i, 0, 97, 136, 0, 5 + i, 9, 210, 14, high, low);
            }
        }
    }

    private static void partsTooLong() {
        ObservedBlocks x = new ObservedBlocks();
        Checks.bringPut(x, 5, 9, Checks.made(0, 32, 1));
        Checks.bringPut(x, 6, 25, Checks.made(32, 64, 1));
        c.due("64 are fine", Checks.lastCode(x), 95);
        c.due("part", x.server(3), 64);
        Checks.bringPut(x, 7, 41, 1);
        c.dueDatagram("65 are not", x, 2, 0, 97, 141, 0, 7, 9, 209, 14, 41);
        c.due("the part is empty", x.server(3), 0);
        c.due("the content is as it was", x.content(0, -1), 0);
        Checks.bringPut(x, 8, 9, Checks.made(0, 32, 1));
        Checks.bringPut(x, 9, 25, Checks.made(32, 64, 1));
        Checks.bringPut(x, 10, 41);
        c.due("none behind 64 is fine", Checks.lastCode(x), 95);
        Checks.bringPut(x, 11, 65);
        c.due("128 is not 64", Checks.lastCode(x), 136);
        c.due("part", x.server(3), 64);
        Checks.bringPut(x, 12, 64);
        c.due("4 * 16 is 64", Checks.lastCode(x), 68);
        c.due("content", x.content(0, -1), 64);
    }

    /** A get of path a with WATCH 0 (or 1). */
    private static void bringWatch(ObservedBlocks x, int id, int token, int watch, int szx) {
        int[] head = watch == 0 ? Checks.row(65, 1, 0, id, token, 96, 81, 97) : Checks.row(65, 1, 0, id, token, 97, watch, 81, 97);
        Checks.bringToServer(x, Checks.join(head, szx == 0 ? Checks.row(192) : Checks.row(193, 1)));
    }

    private static void watchersBegin() {
        ObservedBlocks x = new ObservedBlocks();
        x.change(0, 17, 1);
        bringWatch(x, 5, 40, 0, 1);
        c.dueDatagram("WATCH with SEEN", x, 0, 0, Checks.join(Checks.row(97, 69, 0, 5, 40, 97, 1, 209, 4, 1), Checks.payload(Checks.made(0, 17, 1))));
        Checks.bringToServer(x, 65, 1, 0, 6, 41, 96, 82, 99, 99, 192);
        c.dueDatagram("another", x, 1, 0, 97, 69, 0, 6, 41, 97, 2, 208, 4);
        c.dueServer("two", x, 2, 2, 2, 0);
        bringWatch(x, 7, 42, 0, 0);
        c.dueDatagram("a third is none", x, 2, 0, Checks.join(Checks.row(97, 69, 0, 7, 42, 209, 10, 8), Checks.payload(Checks.made(0, 16, 1))));
        c.dueServer("two", x, 3, 2, 2, 0);

        ObservedBlocks y = new ObservedBlocks();
        y.change(0, 17, 1);
        Checks.bringToServer(y, 65, 1, 0, 6, 41, 96, 81, 97, 193, 16);
        c.dueServer("not with NUM 1", y, 1, 0, 0, 0);
        c.due("but 69", Checks.lastCode(y), 69);
        bringWatch(y, 7, 41, 2, 0);
        c.dueServer("not with WATCH 2", y, 2, 0, 0, 0);
        Checks.bringToServer(y, 65, 1, 0, 8, 41, 96, 81, 120, 193, 1);
        c.dueServer("not under x", y, 3, 0, 0, 0);
        Checks.bringToServer(y, 65, 3, 0, 9, 41, 96, 81, 97, 192, 64);
        c.dueServer("not by a put", y, 4, 0, 0, 0);
        c.due("it is put", Checks.lastCode(y), 68);
    }

    private static void watchersAgain() {
        ObservedBlocks x = new ObservedBlocks();
        bringWatch(x, 5, 40, 0, 0);
        bringWatch(x, 6, 41, 0, 0);
        Checks.deliverAll(x);
        x.change(0, 40, 1);
        x.change(0, 41, 1);
        c.due("both are told once", x.waiting(), 2);
        int first = x.datagram(0, 3);
        bringWatch(x, 7, 40, 0, 1);
        c.dueServer("its token has a watcher: two stay", x, 3, 2, 5, 0);
        c.due("WATCH with SEEN", x.datagram(2, 6), 5);
        Checks.ticks(x, 4);
        c.due("its message is pending no more, the other's is", x.waiting(), 4);
        c.due("the other's", x.datagram(3, 4), 41);
        x.change(0, 40, 2);
        c.due("it is told at once, in its place", x.waiting(), 5);
        c.dueDatagram("with its new SZX", x, 4, 0,
            Checks.join(Checks.row(65, 69, 0, first + 2, 40, 97, 6, 209, 4, 9), Checks.payload(Checks.made(0, 32, 2))));
        // The client has no slot with that token: its RST is for the message that is pending no more.
        x.deliver(0);
        c.due("RST", x.datagram(4, 0), 112);
        x.deliver(4);
        c.due("it is ignored", x.server(1), 2);
        Checks.ticks(x, 4);
        c.due("the new one is still pending", x.datagram(x.waiting() - 1, 4), 40);

        // It is not CHANGED: an ACK of its next message tells nothing.
        ObservedBlocks y = new ObservedBlocks();
        y.get(0, 0, 0, true);
        Checks.deliverAll(y);
        y.change(0, 3, 1);
        y.change(0, 4, 1);
        y.lose(0);
        bringWatch(y, 70, 2, 0, 0);
        y.lose(0);
        c.due("nothing is under way", y.waiting(), 0);
        y.change(0, 5, 1);
        y.deliver(0);
        y.deliver(0);
        c.due("it is not told again", y.waiting(), 0);

        // Another resource in the same place.
        ObservedBlocks z = new ObservedBlocks();
        bringWatch(z, 5, 40, 0, 0);
        Checks.bringToServer(z, 65, 1, 0, 6, 40, 96, 82, 99, 99, 192);
        c.due("one watcher", z.server(1), 1);
        z.lose(0);
        z.lose(0);
        z.change(0, 1, 1);
        c.due("not of a", z.waiting(), 0);
        z.change(2, 1, 1);
        c.due("of cc", z.waiting(), 1);
    }

    private static void watchersEnd() {
        ObservedBlocks x = new ObservedBlocks();
        x.change(0, 20, 1);
        bringWatch(x, 5, 40, 0, 0);
        bringWatch(x, 6, 41, 0, 0);
        x.lose(0);
        x.lose(0);
        bringWatch(x, 7, 42, 1, 0);
        c.due("WATCH 1 of another token", x.server(1), 2);
        Checks.bringToServer(x, 65, 1, 0, 8, 40, 97, 1, 81, 97, 193, 16);
        c.due("WATCH 1 with NUM 1", x.server(1), 2);
        Checks.bringToServer(x, 65, 1, 0, 9, 40, 97, 1, 81, 97, 193, 33);
        c.due("WATCH 1 with an answer 130", x.server(1), 2);
        x.lose(0);
        x.lose(0);
        x.lose(0);
        x.change(0, 20, 2);
        Checks.bringToServer(x, 65, 1, 0, 10, 40, 97, 1, 82, 99, 99, 192);
        c.dueDatagram("under another path too", x, 2, 0, 97, 69, 0, 10, 40, 208, 10);
        c.dueServer("one is left", x, 6, 1, 4, 0);
        Checks.ticks(x, 4);
        c.due("what was pending for it is no more", x.waiting(), 4);
        c.due("that of the other is", x.datagram(3, 4), 41);
        bringWatch(x, 11, 43, 0, 0);
        c.due("there is room for another", x.server(1), 2);
        while (x.waiting() > 0) {
            x.lose(0);
        }
        Checks.ticks(x, 8);
        x.change(0, 3, 3);
        c.due("the order: the one that stayed has a pending one", x.datagram(0, 4), 41);
        c.due("the order: then the new one", x.datagram(1, 4), 43);
    }

    private static void told() {
        ObservedBlocks x = new ObservedBlocks();
        x.get(0, 0, 0, true);
        Checks.deliverAll(x);
        x.get(1, 0, 1, true);
        Checks.deliverAll(x);
        x.change(0, 17, 1);
        c.dueDatagram("the first", x, 0, 0, Checks.join(Checks.row(65, 69, 0, 1, 2, 97, 3, 209, 4, 8), Checks.payload(Checks.made(0, 16, 1))));
        c.dueDatagram("the second", x, 1, 0, Checks.join(Checks.row(65, 69, 0, 2, 3, 97, 4, 209, 4, 1), Checks.payload(Checks.made(0, 17, 1))));
        x.change(0, 0, 1);
        x.change(0, 1, 1);
        c.due("both are CHANGED only", x.waiting(), 2);
        c.due("SEEN", x.server(2), 4);
        x.deliver(1);
        x.deliver(1);
        c.dueDatagram("told again with what is there now", x, 1, 0, 65, 69, 0, 3, 3, 97, 5, 209, 4, 1, 255, 1);
        x.deliver(1);
        x.deliver(1);
        c.due("it is not CHANGED any more", x.waiting(), 1);
        x.change(0, 0, 1);
        c.dueDatagram("no payload", x, 1, 0, 65, 69, 0, 4, 3, 97, 6, 209, 4, 1);
        c.due("the other waits", x.waiting(), 2);
    }

    private static void toldByPut() {
        ObservedBlocks x = new ObservedBlocks();
        x.get(0, 1, 0, true);
        Checks.deliverAll(x);
        x.put(1, 1, 0, 20, 1);
        x.deliver(0);
        c.due("a part tells nobody", x.waiting(), 1);
        x.deliver(0);
        c.due("the last block does", x.deliver(0), 2);
        c.dueDatagram("told first", x, 0, 0, Checks.join(Checks.row(65, 69, 0, 1, 2, 97, 2, 209, 4, 8), Checks.payload(Checks.made(0, 16, 1))));
        c.dueDatagram("then answered", x, 1, 0, 97, 68, 0, 3, 3, 209, 14, 16);
        Checks.deliverAll(x);
        c.due("slot 0", x.slot(0, 3), 20);
        c.due("slot 1", x.slot(1, 0), 2);
    }

    private static void receipts() {
        ObservedBlocks x = new ObservedBlocks();
        x.get(0, 0, 0, true);
        Checks.deliverAll(x);
        x.change(0, 1, 1);
        x.change(0, 2, 2);
        x.deliver(0);
        x.repeat(0);
        x.spoil(0, 3, 2);
        x.deliver(0);
        c.due("an ACK with another ID is ignored", x.waiting(), 1);
        x.repeat(0);
        x.repeat(0);
        x.deliver(0);
        c.due("the ACK tells again", x.waiting(), 3);
        x.deliver(0);
        c.due("a second one does nothing", x.waiting(), 2);
        x.spoil(0, 0, 16);
        x.deliver(0);
        c.due("an RST for what is pending no more does nothing", x.server(1), 1);
        x.deliver(0);
        x.spoil(0, 0, 16);
        x.deliver(0);
        c.due("an RST ends the watcher", x.server(1), 0);
        x.change(0, 5, 5);
        c.due("nobody is told", x.waiting(), 0);

        ObservedBlocks y = new ObservedBlocks();
        bringWatch(y, 5, 40, 0, 0);
        bringWatch(y, 6, 2, 0, 0);
        y.lose(0);
        y.lose(0);
        y.change(0, 1, 1);
        y.change(0, 2, 2);
        y.deliver(0);
        y.deliver(1);
        c.due("an RST, though it was CHANGED", y.server(1), 1);
        c.due("nothing more is sent", y.waiting(), 1);
        Checks.ticks(y, 4);
        c.due("the other goes on", y.waiting(), 2);
        c.due("the other goes on", y.datagram(1, 4), 2);
        Checks.ticks(y, 56);
        c.due("until it is given up, though it was CHANGED", y.server(1), 0);
        int waiting = y.waiting();
        Checks.ticks(y, 40);
        c.due("then nothing is sent", y.waiting(), waiting);
    }

    private static void memoryAnswers() {
        ObservedBlocks x = new ObservedBlocks();
        Checks.bringPut(x, 5, 0, 1, 2, 3);
        x.change(0, 9, 9);
        x.spoil(0, 4, 255);
        Checks.bringPut(x, 5, 0, 4);
        c.dueDatagram("the same answer, whole", x, 1, 0, 97, 68, 0, 5, 9, 208, 14);
        c.due("it was not handled again", x.server(0), 1);
        c.due("it changed nothing", x.content(0, -1), 9);
        Checks.bringToServer(x, 65, 1, 0, 5, 77, 177, 120, 192);
        c.dueDatagram("whatever request has the ID", x, 2, 0, 97, 68, 0, 5, 9, 208, 14);
        Checks.bringToServer(x, 65, 1, 1, 5, 77, 177, 120, 192);
        c.due("another ID", Checks.lastCode(x), 132);
        c.due("handled", x.server(0), 2);
    }

    private static void memoryForgetsByTime() {
        ObservedBlocks x = new ObservedBlocks();
        Checks.bringPut(x, 5, 0, 1);
        Checks.ticks(x, 99);
        Checks.bringPut(x, 5, 0, 1);
        c.due("99 ticks ago", x.server(0), 1);
        x.tick();
        Checks.bringPut(x, 5, 0, 1, 2);
        c.due("100 ticks ago, and sending it again does not renew it", x.server(0), 2);
        c.due("handled", x.content(0, -1), 2);
        Checks.ticks(x, 99);
        Checks.bringPut(x, 5, 0, 1);
        c.due("99 ticks ago", x.server(0), 2);
        x.tick();
        Checks.bringPut(x, 5, 0, 1);
        c.due("100 ticks ago", x.server(0), 3);
    }

    private static void memoryForgetsTheFirst() {
        ObservedBlocks x = new ObservedBlocks();
        for (int id = 5; id <= 8; id++) {
            Checks.bringPut(x, id, 0, 1);
        }
        Checks.bringPut(x, 5, 0, 1);
        c.due("four are remembered", x.server(0), 4);
        Checks.bringPut(x, 9, 0, 1);
        for (int id = 6; id <= 9; id++) {
            Checks.bringPut(x, id, 0, 1);
        }
        c.due("the last four, though the first was asked for since", x.server(0), 5);
        Checks.bringPut(x, 5, 0, 1);
        c.due("the first is not", x.server(0), 6);
        Checks.bringPut(x, 7, 0, 1);
        c.due("the third is", x.server(0), 6);
        Checks.bringPut(x, 6, 0, 1);
        c.due("the second is not any more", x.server(0), 7);

        ObservedBlocks y = new ObservedBlocks();
        int[] blocks = {9, 25, 8, 1, 136, 32, 48};
        for (int i = 0; i < blocks.length; i++) {
            Checks.bringPut(y, 5 + i, blocks[i]);
        }
        while (y.waiting() > 0) {
            y.lose(0);
        }
        for (int i = 3; i < blocks.length; i++) {
            Checks.bringPut(y, 5 + i, 0);
            int code = i == 3 ? 68 : 136;
            c.dueDatagram("each with its own answer", y, i - 3, 0, 97, code, 0, 5 + i, 9, 209, 14, blocks[i]);
        }
        c.due("none was handled again", y.server(0), blocks.length);
    }

    private static void memoryAfterTheSameId() {
        ObservedBlocks x = new ObservedBlocks();
        Checks.bringPut(x, 5, 0, 1);
        Checks.ticks(x, 100);
        Checks.bringPut(x, 6, 0, 1);
        Checks.bringPut(x, 7, 0, 1);
        Checks.bringPut(x, 8, 0, 1);
        Checks.bringPut(x, 5, 0, 1);
        c.due("handled anew", x.server(0), 5);
        while (x.waiting() > 0) {
            x.lose(0);
        }
        for (int id = 5; id <= 8; id++) {
            Checks.bringPut(x, id, 0, 1);
        }
        c.due("the old one alone went out", x.server(0), 5);
        Checks.bringPut(x, 9, 0, 1);
        Checks.bringPut(x, 6, 0, 1);
        c.due("now 6 was the one that went in first", x.server(0), 7);
        Checks.bringPut(x, 5, 0, 1);
        c.due("5 is remembered", x.server(0), 7);
    }
}
