/** The boundary cases of what the document says of the server, its watchers and its memory. */
public final class ServerBoundariesTest {
    private static final Checks c = new Checks();

    public static void main(String[] args) {
        atMostTwoWatchers();
        seenAtFirst();
        memoryHasTheId();
        memoryLessThan100Ticks();
        memorySendingAgainRenewsNothing();
        memoryAtMostFour();
        memorySameIdGoesOutFirst();
        memoryTheOneThatWentInFirst();
        onlyConWithCode1Or3();
        noResource();
        noBlockOption();
        getBehindTheContent();
        getOfAnEmptyContent();
        getAtMostSize();
        getMore();
        watchOnlyWithNum0();
        watchOnlyWith0();
        watchOnlyWhenAnswered69();
        watcherInThePlaceOfAnother();
        watcherInThePlaceWithoutItsPending();
        watcherInThePlaceNotChanged();
        answerHasSeen();
        watch1EndsTheWatcher();
        watch1OfNoWatcher();
        watch1OnlyWithNum0();
        putNum0EmptiesThePart();
        putOutOfStep();
        putAtMost64();
        putBehind64EmptiesThePart();
        putMore();
        putLast();
        putToldBeforeTheAnswer();
        answersWithBlock1();
        toldInTheirOrder();
        toldWhenPending();
        toldOfTheResourceAlone();
        toldFirstBytes();
        receiptOfAnotherId();
        receiptWithACode();
        rstEndsTheWatcher();
        givenUpEndsTheWatcher();
        ackOfOneThatIsChanged();
        othersAreIgnored();
        c.finish("ServerBoundariesTest");
    }

    /** The options of path a, step above the option before, and of BLOCK2. */
    private static int[] pathAndBlock2(int step, int block) {
        int[] path = {16 * step + 1, 97};
        return Checks.join(path, block == 0 ? Checks.row(192) : Checks.row(193, block));
    }

    /** A get of path a; watch is -1 for none. */
    private static void bringGet(ObservedBlocks x, int id, int token, int watch, int block) {
        int[] head = {65, 1, 0, id, token};
        if (watch < 0) {
            Checks.bringToServer(x, Checks.join(head, pathAndBlock2(11, block)));
        } else {
            int[] number = watch == 0 ? Checks.row(96) : Checks.row(97, watch);
            Checks.bringToServer(x, Checks.join(Checks.join(head, number), pathAndBlock2(5, block)));
        }
    }

    /** The watchers 40 and 41 of path a with SZX 0, in this order; nothing is under way. */
    private static ObservedBlocks twoWatchers() {
        ObservedBlocks x = new ObservedBlocks();
        bringGet(x, 101, 40, 0, 0);
        bringGet(x, 102, 41, 0, 0);
        Checks.emptyLine(x);
        return x;
    }

    private static void atMostTwoWatchers() {
        c.says("THE SERVER has at most two WATCHERS .. or there are fewer than two watchers");
        ObservedBlocks x = new ObservedBlocks();
        bringGet(x, 101, 40, 0, 0);
        c.dueServer("one", x, 1, 1, 1, 0);
        bringGet(x, 102, 41, 0, 0);
        c.dueServer("two", x, 2, 2, 2, 0);
        bringGet(x, 103, 42, 0, 0);
        c.dueServer("no third, and SEEN does not grow", x, 3, 2, 2, 0);
        c.dueDatagram("its answer has no WATCH", x, 2, 0, 97, 69, 0, 103, 42, 208, 10);
        Checks.emptyLine(x);
        x.change(0, 1, 1);
        c.due("it is not told", x.waiting(), 2);
        Checks.emptyLine(x);
        bringGet(x, 104, 41, 1, 0);
        bringGet(x, 105, 42, 0, 0);
        c.due("there is room again", x.server(1), 2);
        c.due("its answer has WATCH", x.datagram(1, 5), 97);
    }

    private static void seenAtFirst() {
        c.says("a number SEEN, 0 at first");
        ObservedBlocks x = new ObservedBlocks();
        c.due("server(2)", x.server(2), 0);
        x.change(0, 1, 1);
        c.due("nobody is told: it does not grow", x.server(2), 0);
        bringGet(x, 101, 40, 0, 0);
        c.due("the first WATCH", x.datagram(0, 6), 1);
    }

    private static void memoryHasTheId() {
        c.says("when the memory has its ID .. that answer is sent again");
        ObservedBlocks x = new ObservedBlocks();
        Checks.bringPut(x, 77, 0, 1, 2, 3);
        bringGet(x, 77, 44, 0, 0);
        c.dueDatagram("the same answer to another request", x, 1, 0, 97, 68, 0, 77, 9, 208, 14);
        c.dueServer("it was not handled", x, 1, 0, 0, 0);
        Checks.bringPut(x, 78, 0, 1);
        c.due("ID 78", x.server(0), 2);
        Checks.bringToServer(x, 65, 1, 1, 77, 44, 177, 97, 192);
        c.due("ID 256 + 77", x.server(0), 3);
        Checks.bringToServer(x, 65, 1, 0, 0, 44, 177, 97, 192);
        c.due("ID 0 is not there at first", x.server(0), 4);
    }

    private static void memoryLessThan100Ticks() {
        c.says("with a time less than 100 ticks ago");
        int[][] cases = {{0, 1}, {1, 1}, {99, 1}, {100, 2}, {101, 2}};
        for (int[] one : cases) {
            ObservedBlocks x = new ObservedBlocks();
            Checks.ticks(x, 3);
            Checks.bringPut(x, 77, 0, 1, 2, 3);
            Checks.ticks(x, one[0]);
            Checks.bringPut(x, 77, 0, 1);
            c.due("handled after " + one[0] + " ticks", x.server(0), one[1]);
            c.due("content after " + one[0] + " ticks", x.content(0, -1), one[1] == 1 ? 3 : 1);
            c.due("answers", x.waiting(), 2);
        }
    }

    private static void memorySendingAgainRenewsNothing() {
        c.says("that answer is sent again. Otherwise the request is HANDLED, and the answer .. goes into the memory");
        ObservedBlocks x = new ObservedBlocks();
        Checks.bringPut(x, 77, 0, 1);
        Checks.ticks(x, 60);
        Checks.bringPut(x, 77, 0, 1);
        Checks.ticks(x, 40);
        Checks.bringPut(x, 77, 0, 1);
        c.due("100 ticks after it was handled", x.server(0), 2);
        Checks.ticks(x, 99);
        Checks.bringPut(x, 77, 0, 1);
        c.due("99 ticks after it was handled again", x.server(0), 2);
    }

    private static void memoryAtMostFour() {
        c.says("a MEMORY of at most four answers");
        for (int others = 0; others <= 5; others++) {
            ObservedBlocks x = new ObservedBlocks();
            for (int n = 0; n <= others; n++) {
                Checks.bringPut(x, 77 + n, 0, 1);
            }
            Checks.bringPut(x, 77, 0, 1);
            c.due("the first, after " + others + " others", x.server(0), others < 4 ? others + 1 : others + 2);
        }
        ObservedBlocks y = new ObservedBlocks();
        for (int n = 0; n < 7; n++) {
            Checks.bringPut(y, 70 + n, 16 * n + 16);
        }
        Checks.emptyLine(y);
        for (int n = 3; n < 7; n++) {
            Checks.bringPut(y, 70 + n, 0);
            c.dueDatagram("each of the last four is its own", y, n - 3, 0, 97, 136, 0, 70 + n, 9, 209, 14, 16 * n + 16);
        }
        c.due("handled", y.server(0), 7);
    }

    private static void memorySameIdGoesOutFirst() {
        c.says("one with the same ID goes out of it first, and then, if there are four, the one that went in first");
        ObservedBlocks x = new ObservedBlocks();
        Checks.bringPut(x, 70, 0, 1);
        Checks.bringPut(x, 71, 0, 1);
        Checks.bringPut(x, 72, 0, 1);
        Checks.bringPut(x, 73, 0, 1);
        Checks.ticks(x, 100);
        Checks.bringPut(x, 73, 0, 1, 2);
        c.due("73 is handled again", x.server(0), 5);
        Checks.bringPut(x, 73, 0, 1);
        c.due("and remembered", x.server(0), 5);
        // The old answer to 73 is out: 74, 75 and 76 drive out 70, 71 and 72, and 77 the new one to 73.
        Checks.bringPut(x, 74, 0, 1);
        Checks.bringPut(x, 75, 0, 1);
        Checks.bringPut(x, 76, 0, 1);
        Checks.bringPut(x, 73, 0, 1);
        c.due("73 is one of the last four", x.server(0), 8);
        Checks.bringPut(x, 77, 0, 1);
        Checks.bringPut(x, 73, 0, 1);
        c.due("73 was the one that went in first", x.server(0), 10);
    }

    private static void memoryTheOneThatWentInFirst() {
        c.says("if there are four, the one that went in first");
        ObservedBlocks x = new ObservedBlocks();
        Checks.bringPut(x, 70, 0, 1);
        x.tick();
        Checks.bringPut(x, 71, 0, 1);
        Checks.bringPut(x, 72, 0, 1);
        Checks.bringPut(x, 73, 0, 1);
        Checks.bringPut(x, 70, 0, 1);
        c.due("70 is remembered, and is not renewed by that", x.server(0), 4);
        Checks.bringPut(x, 74, 0, 1);
        for (int id = 71; id <= 74; id++) {
            Checks.bringPut(x, id, 0, 1);
        }
        c.due("71 .. 74 are remembered", x.server(0), 5);
        Checks.bringPut(x, 70, 0, 1);
        c.due("70 is not", x.server(0), 6);
        Checks.bringPut(x, 71, 0, 1);
        c.due("71 went out for 70", x.server(0), 7);
    }

    private static void onlyConWithCode1Or3() {
        c.says("When a CON with code 1 or 3 comes");
        for (int code = 1; code <= 5; code++) {
            ObservedBlocks x = new ObservedBlocks();
            Checks.bringToServer(x, 65, code, 0, 77, 9, 177, 97, 192, 64);
            c.due("code " + code, x.server(0), code == 1 || code == 3 ? 1 : 0);
        }
        for (int first : new int[] {81, 97, 113}) {
            for (int code : new int[] {1, 3}) {
                ObservedBlocks x = new ObservedBlocks();
                Checks.bringToServer(x, first, code, 0, 77, 9, 177, 97, 192, 64);
                c.due("first byte " + first, x.server(0), 0);
                c.due("no answer", x.waiting(), 0);
            }
        }
    }

    private static void noResource() {
        c.says("there is no resource under the path: code 132");
        ObservedBlocks x = new ObservedBlocks();
        Checks.bringToServer(x, 65, 1, 0, 77, 9, 177, 120, 192);
        c.dueDatagram("a get", x, 0, 0, 97, 132, 0, 77, 9);
        Checks.bringToServer(x, 65, 3, 0, 78, 9, 177, 120, 208, 3);
        c.dueDatagram("a put", x, 1, 0, 97, 132, 0, 78, 9);
        Checks.bringToServer(x, 65, 1, 0, 79, 9, 177, 120, 208, 3);
        c.dueDatagram("a get without BLOCK2", x, 2, 0, 97, 132, 0, 79, 9);
        Checks.bringToServer(x, 65, 3, 0, 80, 9, 177, 120, 192);
        c.dueDatagram("a put without BLOCK1", x, 3, 0, 97, 132, 0, 80, 9);
        c.due("all are handled", x.server(0), 4);
        bringGet(x, 77, 9, 0, 0);
        Checks.bringToServer(x, 65, 1, 0, 78, 9, 177, 97, 192);
        c.due("and remembered", x.server(0), 4);
    }

    private static void noBlockOption() {
        c.says("Code 1 without a BLOCK2, or code 3 without BLOCK1: code 130");
        ObservedBlocks x = new ObservedBlocks();
        Checks.bringToServer(x, 65, 1, 0, 77, 9, 96, 81, 97, 255, 1);
        c.dueDatagram("a get with none", x, 0, 0, 97, 130, 0, 77, 9);
        Checks.bringToServer(x, 65, 1, 0, 78, 9, 177, 97, 208, 3);
        c.dueDatagram("a get with BLOCK1", x, 1, 0, 97, 130, 0, 78, 9);
        Checks.bringToServer(x, 65, 3, 0, 79, 9, 177, 97, 255, 1);
        c.dueDatagram("a put with none", x, 2, 0, 97, 130, 0, 79, 9);
        Checks.bringToServer(x, 65, 3, 0, 80, 9, 177, 97, 193, 8);
        c.dueDatagram("a put with BLOCK2", x, 3, 0, 97, 130, 0, 80, 9);
        c.dueServer("no watcher, no part", x, 4, 0, 0, 0);
        Checks.bringToServer(x, 65, 1, 0, 81, 9, 177, 97, 192, 64);
        c.due("a get with both", Checks.lastCode(x), 69);
        Checks.bringToServer(x, 65, 3, 0, 82, 9, 177, 97, 192, 64);
        c.due("a put with both", Checks.lastCode(x), 68);
    }

    private static void getBehindTheContent() {
        c.says("when NUM is not 0 and NUM * SIZE not less than the content: code 130");
        // The content, the block that is asked for, the code.
        int[][] cases = {{0, 16, 130}, {0, 17, 130}, {15, 16, 130}, {16, 16, 130}, {17, 16, 69}, {31, 17, 130}, {32, 17, 130}, {33, 17, 69},
            {32, 32, 130}, {33, 32, 69}, {48, 48, 130}, {49, 48, 69}, {64, 48, 69}, {64, 64, 130}, {64, 33, 130}, {64, 241, 130}};
        for (int[] one : cases) {
            ObservedBlocks x = new ObservedBlocks();
            x.change(0, one[0], 1);
            bringGet(x, 77, 9, 0, one[1]);
            c.due("a content of " + one[0] + ", the block " + one[1], Checks.lastCode(x), one[2]);
            if (one[2] == 130) {
                c.dueDatagram("no more than that", x, 0, 0, 97, 130, 0, 77, 9);
            }
        }
        for (int low : new int[] {0, 1, 249}) {
            ObservedBlocks x = new ObservedBlocks();
            x.change(0, 64, 1);
            Checks.bringToServer(x, 65, 1, 0, 77, 9, 177, 97, 194, 3, low);
            c.due("the block " + (768 + low), Checks.lastCode(x), 130);
        }
    }

    private static void getOfAnEmptyContent() {
        c.says("when NUM is not 0 ..: code 130. Otherwise code 69");
        ObservedBlocks x = new ObservedBlocks();
        bringGet(x, 77, 9, -1, 0);
        c.dueDatagram("NUM 0 of none, SZX 0", x, 0, 0, 97, 69, 0, 77, 9, 208, 10);
        bringGet(x, 78, 9, -1, 1);
        c.dueDatagram("NUM 0 of none, SZX 1", x, 1, 0, 97, 69, 0, 78, 9, 209, 10, 1);
    }

    private static void getAtMostSize() {
        c.says("code 69 with the bytes from NUM * SIZE on, at most SIZE");
        for (int szx = 0; szx < 2; szx++) {
            int size = szx == 0 ? 16 : 32;
            for (int length = 0; length <= 64; length++) {
                ObservedBlocks x = new ObservedBlocks();
                x.change(0, length, 7);
                for (int num = 0; num == 0 || num * size < length; num++) {
                    bringGet(x, 77 + num, 9, -1, 16 * num + szx);
                    c.dueDatagram("block " + num + " of " + length, x, num, 0, contentRow(77 + num, num, szx, length));
                }
            }
        }
    }

    private static int[] contentRow(int id, int num, int szx, int length) {
        int size = szx == 0 ? 16 : 32;
        int end = Math.min(length, (num + 1) * size);
        int block = 16 * num + (length > end ? 8 : 0) + szx;
        int[] head = {97, 69, 0, id, 9};
        int[] row = Checks.join(head, block == 0 ? Checks.row(208, 10) : Checks.row(209, 10, block));
        return num * size == end ? row : Checks.join(row, Checks.payload(Checks.made(num * size, end, 7)));
    }

    private static void getMore() {
        c.says("BLOCK2 with NUM, MORE (1 when there are bytes behind these) and SZX");
        ObservedBlocks x = new ObservedBlocks();
        x.change(0, 33, 7);
        bringGet(x, 77, 9, -1, 8);
        c.due("MORE 1 in a request is answered as MORE 0", x.datagram(0, 7), 8);
        bringGet(x, 78, 9, -1, 16);
        c.due("one behind", x.datagram(1, 7), 24);
        bringGet(x, 79, 9, -1, 40);
        c.due("none behind", x.datagram(2, 7), 32);
    }

    private static void watchOnlyWithNum0() {
        c.says("And with NUM 0: when the request has WATCH 0");
        ObservedBlocks x = new ObservedBlocks();
        x.change(0, 64, 1);
        bringGet(x, 77, 40, 0, 16);
        c.due("NUM 1", Checks.lastCode(x), 69);
        c.dueServer("no watcher", x, 1, 0, 0, 0);
        c.due("no WATCH", x.datagram(0, 5), 209);
        bringGet(x, 78, 40, 0, 8);
        c.dueServer("NUM 0 with MORE 1", x, 2, 1, 1, 0);
    }

    private static void watchOnlyWith0() {
        c.says("when the request has WATCH 0");
        for (int watch : new int[] {-1, 1, 2, 255}) {
            ObservedBlocks x = new ObservedBlocks();
            bringGet(x, 77, 40, watch, 0);
            c.dueServer("WATCH " + watch, x, 1, 0, 0, 0);
            c.dueDatagram("its answer", x, 0, 0, 97, 69, 0, 77, 40, 208, 10);
        }
        ObservedBlocks x = new ObservedBlocks();
        Checks.bringToServer(x, 65, 1, 0, 77, 40, 98, 1, 0, 81, 97, 192);
        c.dueServer("WATCH 256", x, 1, 0, 0, 0);
    }

    private static void watchOnlyWhenAnswered69() {
        c.says("Otherwise code 69 .. And with NUM 0: when the request has WATCH 0");
        ObservedBlocks x = new ObservedBlocks();
        Checks.bringToServer(x, 65, 1, 0, 77, 40, 96, 81, 120, 192);
        c.dueServer("132", x, 1, 0, 0, 0);
        Checks.bringToServer(x, 65, 1, 0, 78, 40, 96, 81, 97, 208, 3);
        c.dueServer("130", x, 2, 0, 0, 0);
        Checks.bringToServer(x, 65, 3, 0, 79, 40, 96, 81, 97, 192, 64);
        c.dueServer("a put", x, 3, 0, 0, 0);
        c.dueDatagram("the put's answer", x, 2, 0, 97, 68, 0, 79, 40, 208, 14);
    }

    private static void watcherInThePlaceOfAnother() {
        c.says("and a watcher has its token .. in the place of the one with that token");
        ObservedBlocks x = twoWatchers();
        bringGet(x, 103, 40, 0, 1);
        c.dueDatagram("though there are two", x, 0, 0, 97, 69, 0, 103, 40, 97, 3, 209, 4, 1);
        c.dueServer("two, as before", x, 3, 2, 3, 0);
        Checks.emptyLine(x);
        x.change(0, 40, 1);
        c.due("it is told first, as before", x.datagram(0, 4), 40);
        c.due("with its new SZX", x.datagram(0, 9), 9);
        c.due("the other second", x.datagram(1, 4), 41);
        Checks.emptyLine(x);
        Checks.bringToServer(x, 65, 1, 0, 104, 40, 96, 82, 99, 99, 192);
        c.due("two, as before", x.server(1), 2);
        Checks.emptyLine(x);
        x.change(2, 1, 1);
        c.due("it is told of its new resource", x.waiting(), 1);
        c.due("it alone", x.datagram(0, 4), 40);
        ObservedBlocks y = new ObservedBlocks();
        bringGet(y, 101, 40, 0, 0);
        bringGet(y, 102, 40, 0, 0);
        c.dueServer("one token, one watcher", y, 2, 1, 2, 0);
    }

    private static void watcherInThePlaceWithoutItsPending() {
        c.says("whose pending message is pending no more");
        ObservedBlocks x = twoWatchers();
        x.change(0, 1, 1);
        c.due("both are told", x.waiting(), 2);
        bringGet(x, 103, 40, 0, 0);
        Checks.emptyLine(x);
        Checks.ticks(x, 4);
        c.due("one is sent again", x.waiting(), 1);
        c.due("that of the other", x.datagram(0, 4), 41);
        x.lose(0);
        Checks.ticks(x, 56);
        c.due("it alone is given up", x.server(1), 1);
        ObservedBlocks y = twoWatchers();
        y.change(0, 1, 1);
        bringGet(y, 103, 40, 0, 0);
        // The client knows no such token: its RST has the ID of the message that is pending no more.
        y.deliver(0);
        c.dueDatagram("RST", y, 2, 1, 112, 0, 0, 1);
        y.deliver(2);
        c.due("it ends nothing", y.server(1), 2);
    }

    private static void watcherInThePlaceNotChanged() {
        c.says("and which is not CHANGED");
        ObservedBlocks x = Checks.watched();
        x.change(0, 1, 1);
        x.change(0, 2, 1);
        bringGet(x, 103, 2, 0, 0);
        Checks.emptyLine(x);
        x.change(0, 3, 1);
        c.due("it is told at once", x.waiting(), 1);
        x.deliver(0);
        c.due("by its ACK it is not told again", x.deliver(0), 0);
    }

    private static void answerHasSeen() {
        c.says("and the answer has WATCH with SEEN, which has grown by 1 before");
        ObservedBlocks x = new ObservedBlocks();
        x.change(0, 17, 1);
        for (int n = 1; n <= 3; n++) {
            bringGet(x, 100 + n, 40, 0, 0);
            c.due("SEEN", x.server(2), n);
            c.dueDatagram("WATCH", x, n - 1, 0,
                Checks.join(Checks.row(97, 69, 0, 100 + n, 40, 97, n, 209, 4, 8), Checks.payload(Checks.made(0, 16, 1))));
        }
        bringGet(x, 103, 40, 0, 0);
        c.due("from the memory it does not grow", x.server(2), 3);
    }

    private static void watch1EndsTheWatcher() {
        c.says("And when, with NUM 0, the request has WATCH 1, the watcher with its token, if any, is none any more");
        ObservedBlocks x = twoWatchers();
        x.change(0, 1, 9);
        Checks.emptyLine(x);
        bringGet(x, 103, 40, 1, 0);
        c.dueDatagram("its answer", x, 0, 0, 97, 69, 0, 103, 40, 208, 10, 255, 9);
        c.dueServer("one is left, SEEN is as it was", x, 3, 1, 4, 0);
        Checks.emptyLine(x);
        Checks.ticks(x, 4);
        c.due("its message is sent no more", x.waiting(), 1);
        c.due("that of the other is", x.datagram(0, 4), 41);
        ObservedBlocks y = twoWatchers();
        Checks.bringToServer(y, 65, 1, 0, 103, 41, 97, 1, 82, 99, 99, 192);
        c.due("under another path too", y.server(1), 1);
        Checks.emptyLine(y);
        y.change(0, 1, 1);
        c.due("the other is told", y.datagram(0, 4), 40);
        c.due("it alone", y.waiting(), 1);
    }

    private static void watch1OfNoWatcher() {
        c.says("the watcher with its token, if any");
        ObservedBlocks x = twoWatchers();
        bringGet(x, 103, 42, 1, 0);
        c.due("no watcher has it", x.server(1), 2);
        c.due("the answer", Checks.lastCode(x), 69);
        ObservedBlocks y = new ObservedBlocks();
        bringGet(y, 103, 42, 1, 0);
        c.due("there is no watcher", y.server(1), 0);
        c.due("the answer", Checks.lastCode(y), 69);
    }

    private static void watch1OnlyWithNum0() {
        c.says("And when, with NUM 0, the request has WATCH 1");
        ObservedBlocks x = twoWatchers();
        x.change(0, 64, 1);
        Checks.emptyLine(x);
        bringGet(x, 103, 40, 1, 16);
        c.due("NUM 1", x.server(1), 2);
        bringGet(x, 104, 40, 1, 64);
        c.due("NUM 4, behind the content", x.server(1), 2);
        Checks.bringToServer(x, 65, 1, 0, 105, 40, 97, 1, 81, 120, 192);
        c.due("no resource", x.server(1), 2);
        Checks.bringToServer(x, 65, 3, 0, 106, 40, 97, 1, 81, 97, 208, 3);
        c.due("a put", x.server(1), 2);
        bringGet(x, 107, 40, 2, 0);
        c.due("WATCH 2", x.server(1), 2);
    }

    private static void putNum0EmptiesThePart() {
        c.says("Code 3: with NUM 0 the part becomes empty first");
        ObservedBlocks x = new ObservedBlocks();
        Checks.bringPut(x, 71, 8, Checks.made(0, 16, 1));
        Checks.bringPut(x, 72, 24, Checks.made(16, 32, 1));
        c.due("part", x.server(3), 32);
        Checks.bringPut(x, 73, 8, 1, 2, 3);
        c.due("NUM 0 again", Checks.lastCode(x), 95);
        c.due("part", x.server(3), 3);
        Checks.bringPut(x, 74, 0, 4);
        c.due("NUM 0 and the last", Checks.lastCode(x), 68);
        c.due("content", x.content(0, -1), 1);
        c.due("content", x.content(0, 0), 4);
    }

    private static void putOutOfStep() {
        c.says("When NUM * SIZE is not the length of the part then: code 136");
        int[][] cases = {{16, 95}, {24, 95}, {25, 136}, {40, 136}, {17, 136}, {32, 136}, {56, 136}};
        for (int[] one : cases) {
            ObservedBlocks x = new ObservedBlocks();
            Checks.bringPut(x, 71, 8, Checks.made(0, 16, 1));
            Checks.bringPut(x, 72, one[0] | 8, 7);
            c.due("16 bytes, then the block " + (one[0] | 8), Checks.lastCode(x), one[1]);
            c.due("part", x.server(3), one[1] == 136 ? 16 : 17);
        }
        for (int length : new int[] {15, 17}) {
            ObservedBlocks x = new ObservedBlocks();
            Checks.bringPut(x, 71, 8, Checks.made(0, length, 1));
            Checks.bringPut(x, 72, 16, 7);
            c.due(length + " bytes, then block 1", Checks.lastCode(x), 136);
            c.due("the part stays", x.server(3), length);
            c.due("the content stays", x.content(0, -1), 0);
        }
        ObservedBlocks x = new ObservedBlocks();
        Checks.bringPut(x, 71, 9, Checks.made(0, 32, 1));
        Checks.bringPut(x, 72, 32, 7);
        c.due("32 bytes, then block 2 of 16", Checks.lastCode(x), 68);
    }

    private static void putAtMost64() {
        c.says("When the part and the payload have more than 64 bytes");
        for (int length : new int[] {31, 32}) {
            ObservedBlocks x = new ObservedBlocks();
            Checks.bringPut(x, 71, 9, Checks.made(0, 32, 1));
            Checks.bringPut(x, 72, 25, Checks.made(0, length, 1));
            c.due("32 and " + length, Checks.lastCode(x), 95);
            c.due("part", x.server(3), 32 + length);
        }
        int[][] last = {{15, 68}, {16, 68}, {17, 141}, {32, 141}};
        for (int[] one : last) {
            ObservedBlocks x = new ObservedBlocks();
            Checks.bringPut(x, 71, 8, Checks.made(0, 16, 1));
            Checks.bringPut(x, 72, 24, Checks.made(0, 16, 1));
            Checks.bringPut(x, 73, 40, Checks.made(0, 16, 1));
            Checks.bringPut(x, 74, 48, Checks.made(0, one[0], 1));
            c.due("48 and " + one[0], Checks.lastCode(x), one[1]);
            c.due("content", x.content(0, -1), one[1] == 68 ? 48 + one[0] : 0);
            c.due("part", x.server(3), 0);
        }
    }

    private static void putBehind64EmptiesThePart() {
        c.says("more than 64 bytes: the part becomes empty; code 141");
        for (int more = 0; more <= 8; more += 8) {
            ObservedBlocks x = Checks.watched();
            Checks.bringPut(x, 71, 9, Checks.made(0, 32, 1));
            Checks.bringPut(x, 72, 25, Checks.made(0, 32, 1));
            c.due("part", x.server(3), 64);
            Checks.bringPut(x, 73, 33 + more, 7);
            c.dueDatagram("141", x, 2, 0, 97, 141, 0, 73, 9, 209, 14, 33 + more);
            c.dueServer("the part is empty, nobody is told", x, 4, 1, 1, 0);
            c.due("the content stays", x.content(0, -1), 0);
            Checks.bringPut(x, 74, 33);
            c.due("it cannot go on", Checks.lastCode(x), 136);
        }
        ObservedBlocks y = new ObservedBlocks();
        Checks.bringPut(y, 71, 9, Checks.made(0, 32, 1));
        Checks.bringPut(y, 72, 25, Checks.made(0, 32, 1));
        Checks.bringPut(y, 73, 33);
        c.due("none behind 64 is not more than 64", Checks.lastCode(y), 68);
        c.due("content", y.content(0, -1), 64);
    }

    private static void putMore() {
        c.says("Otherwise the payload goes behind the part; with MORE 1: code 95");
        ObservedBlocks x = Checks.watched();
        Checks.bringPut(x, 71, 8);
        c.dueDatagram("no payload", x, 0, 0, 97, 95, 0, 71, 9, 209, 14, 8);
        c.dueServer("part", x, 2, 1, 1, 0);
        Checks.bringPut(x, 72, 8, Checks.made(0, 32, 1));
        c.due("more than SIZE", Checks.lastCode(x), 95);
        c.dueServer("all of it", x, 3, 1, 1, 32);
        c.due("the content stays, and nobody is told", x.content(0, -1), 0);
    }

    private static void putLast() {
        c.says("With MORE 0: the content becomes the part, the part becomes empty, code 68");
        ObservedBlocks x = new ObservedBlocks();
        x.change(0, 64, 1);
        Checks.bringPut(x, 71, 0);
        c.dueDatagram("none", x, 0, 0, 97, 68, 0, 71, 9, 208, 14);
        c.due("the content is empty", x.content(0, -1), 0);
        Checks.bringPut(x, 72, 8, Checks.made(0, 16, 1));
        Checks.bringToServer(x, 65, 3, 0, 73, 9, 178, 99, 99, 209, 3, 8, 255, 1, 2);
        Checks.bringPut(x, 74, 16);
        c.due("none behind the part", x.content(0, -1), 16);
        c.due("the part of another resource stays", x.server(3), 2);
        Checks.bringPut(x, 75, 16);
        c.due("the part was empty", Checks.lastCode(x), 136);
    }

    private static void putToldBeforeTheAnswer() {
        c.says("and the watchers of the resource are TOLD (before the answer is sent)");
        ObservedBlocks x = twoWatchers();
        Checks.bringPut(x, 71, 0, 5);
        c.due("two are told, and one answer", x.waiting(), 3);
        c.dueDatagram("the first", x, 0, 0, 65, 69, 0, 1, 40, 97, 3, 208, 4, 255, 5);
        c.dueDatagram("the second", x, 1, 0, 65, 69, 0, 2, 41, 97, 4, 208, 4, 255, 5);
        c.dueDatagram("the answer", x, 2, 0, 97, 68, 0, 71, 9, 208, 14);
        Checks.bringPut(x, 72, 8, 5);
        c.due("not by 95", x.waiting(), 4);
        Checks.bringPut(x, 73, 16, 5);
        c.due("not by 136", x.waiting(), 5);
        c.due("SEEN", x.server(2), 4);
    }

    private static void answersWithBlock1() {
        c.says("Answers 95, 68, 136 and 141 have BLOCK1 as the request had it");
        ObservedBlocks x = new ObservedBlocks();
        Checks.bringPut(x, 71, 9, Checks.made(0, 32, 1));
        c.dueDatagram("95", x, 0, 0, 97, 95, 0, 71, 9, 209, 14, 9);
        Checks.bringPut(x, 72, 48, 1);
        c.dueDatagram("136", x, 1, 0, 97, 136, 0, 72, 9, 209, 14, 48);
        Checks.bringPut(x, 73, 25, Checks.made(0, 32, 1));
        Checks.bringPut(x, 74, 72, 1);
        c.dueDatagram("141 with MORE 1", x, 3, 0, 97, 141, 0, 74, 9, 209, 14, 72);
        Checks.bringPut(x, 75, 1);
        c.dueDatagram("68", x, 4, 0, 97, 68, 0, 75, 9, 209, 14, 1);
        Checks.bringPut(x, 76, 0);
        c.dueDatagram("68 with BLOCK1 0", x, 5, 0, 97, 68, 0, 76, 9, 208, 14);
        Checks.bringToServer(x, 65, 3, 0, 77, 9, 177, 97, 210, 3, 3, 249);
        c.dueDatagram("136 with BLOCK1 1017", x, 6, 0, 97, 136, 0, 77, 9, 210, 14, 3, 249);
    }

    private static void toldInTheirOrder() {
        c.says("TOLD, each watcher of the resource, in the order in which they became watchers");
        ObservedBlocks x = new ObservedBlocks();
        bringGet(x, 101, 41, 0, 0);
        bringGet(x, 102, 40, 0, 0);
        Checks.emptyLine(x);
        x.change(0, 1, 1);
        c.due("the first", x.datagram(0, 4), 41);
        c.due("the second", x.datagram(1, 4), 40);
        bringGet(x, 103, 41, 1, 0);
        bringGet(x, 104, 41, 0, 0);
        bringGet(x, 105, 40, 0, 0);
        Checks.emptyLine(x);
        x.change(0, 2, 1);
        c.due("the one that stayed is the first", x.datagram(0, 4), 40);
        c.due("the one that came again is the second", x.datagram(1, 4), 41);
    }

    private static void toldWhenPending() {
        c.says("when it has a pending message it is CHANGED; otherwise it is not CHANGED any more, SEEN grows by 1");
        ObservedBlocks x = Checks.watched();
        x.change(0, 1, 1);
        c.dueServer("told", x, 1, 1, 2, 0);
        x.change(0, 2, 1);
        x.change(0, 3, 1);
        c.dueServer("CHANGED alone", x, 1, 1, 2, 0);
        c.due("nothing is sent", x.waiting(), 1);
        x.deliver(0);
        x.deliver(0);
        c.dueServer("told once for both", x, 1, 1, 3, 0);
        c.dueDatagram("with what is there now", x, 0, 0, 65, 69, 0, 2, 2, 97, 3, 208, 4, 255, 1, 6, 11);
        x.deliver(0);
        c.due("not CHANGED any more", x.deliver(0), 0);
        x.change(0, 4, 1);
        c.due("and nothing is pending", x.waiting(), 1);
    }

    private static void toldOfTheResourceAlone() {
        c.says("each watcher of the resource");
        ObservedBlocks x = Checks.watched();
        for (int r = 1; r < 4; r++) {
            x.change(r, 1, 1);
            c.due("resource " + r, x.waiting(), 0);
        }
        c.due("SEEN", x.server(2), 1);
        x.change(0, 0, 0);
        c.due("resource 0, though its content is as it was", x.waiting(), 1);
    }

    private static void toldFirstBytes() {
        c.says("WATCH with SEEN, BLOCK2 with NUM 0, MORE and its SZX, and the first bytes of the content");
        for (int szx = 0; szx < 2; szx++) {
            int size = szx == 0 ? 16 : 32;
            for (int length = 0; length <= 64; length++) {
                ObservedBlocks x = new ObservedBlocks();
                x.get(0, 0, szx, true);
                Checks.deliverAll(x);
                x.change(0, length, 7);
                int block = (length > size ? 8 : 0) + szx;
                int[] row = Checks.join(Checks.row(65, 69, 0, 1, 2, 97, 2), block == 0 ? Checks.row(208, 4) : Checks.row(209, 4, block));
                int[] bytes = Checks.made(0, Math.min(size, length), 7);
                c.dueDatagram("a content of " + length, x, 0, 0, length == 0 ? row : Checks.join(row, Checks.payload(bytes)));
            }
        }
    }

    private static void receiptOfAnotherId() {
        c.says("whose ID is that of a pending message of a watcher: that is pending no more");
        for (int bits : new int[] {1, 2, 128}) {
            for (int place = 2; place <= 3; place++) {
                ObservedBlocks x = Checks.watched();
                x.change(0, 1, 1);
                x.change(0, 2, 1);
                x.deliver(0);
                x.spoil(0, place, bits);
                c.due("another ID", x.deliver(0), 0);
                Checks.ticks(x, 4);
                c.due("it is still pending", x.waiting(), 1);
            }
        }
        ObservedBlocks y = Checks.watched();
        y.change(0, 1, 1);
        y.deliver(0);
        y.deliver(0);
        Checks.ticks(y, 60);
        c.due("its ID: it is not sent again", y.waiting(), 0);
        c.due("nor given up", y.server(1), 1);
        ObservedBlocks z = new ObservedBlocks();
        z.get(0, 0, 0, true);
        z.get(1, 0, 0, true);
        Checks.deliverAll(z);
        z.change(0, 1, 1);
        z.deliver(1);
        z.deliver(1);
        Checks.ticks(z, 4);
        c.due("that of the other watcher alone goes on", z.waiting(), 2);
        c.due("that of the first", z.datagram(1, 4), 2);
    }

    private static void receiptWithACode() {
        c.says("When an ACK or RST with code 0 comes");
        for (int first : new int[] {97, 113}) {
            ObservedBlocks x = Checks.watched();
            x.change(0, 1, 1);
            x.change(0, 2, 1);
            // The ID is that of the pending message.
            Checks.bringToServer(x, first, 69, 0, 1, 2, 209, 10, 1, 255, 1);
            c.due("with a code", x.waiting(), 1);
            c.due("watchers", x.server(1), 1);
            Checks.ticks(x, 4);
            c.due("it is still pending", x.waiting(), 2);
        }
    }

    private static void rstEndsTheWatcher() {
        c.says("by an RST .. the watcher is none any more");
        ObservedBlocks x = Checks.watched();
        x.change(0, 1, 1);
        x.change(0, 2, 1);
        x.free(0);
        x.deliver(0);
        c.due("RST", x.datagram(0, 0), 112);
        x.repeat(0);
        c.due("it is not told again, though CHANGED", x.deliver(0), 1);
        c.due("watchers", x.server(1), 0);
        x.change(0, 3, 1);
        c.due("nor told any more", x.waiting(), 1);
        c.due("the RST again is ignored", x.deliver(0), 0);
        Checks.ticks(x, 4);
        c.due("nothing is pending", x.waiting(), 0);
        ObservedBlocks y = twoWatchers();
        y.change(0, 1, 1);
        y.deliver(0);
        y.deliver(1);
        c.due("one is left", y.server(1), 1);
        bringGet(y, 103, 42, 0, 0);
        c.due("and there is room for another", y.server(1), 2);
    }

    private static void givenUpEndsTheWatcher() {
        c.says("or when it is given up, the watcher is none any more");
        ObservedBlocks x = twoWatchers();
        x.change(0, 1, 1);
        Checks.ticks(x, 1);
        bringGet(x, 103, 40, 0, 0);
        x.change(0, 2, 1);
        Checks.emptyLine(x);
        Checks.ticks(x, 58);
        c.due("at 59", x.server(1), 2);
        x.tick();
        c.due("at 60 the second, though CHANGED", x.server(1), 1);
        x.tick();
        c.due("at 61 the first", x.server(1), 0);
        Checks.emptyLine(x);
        x.change(0, 3, 1);
        Checks.ticks(x, 60);
        c.due("nothing is sent any more", x.waiting(), 0);
        ObservedBlocks y = twoWatchers();
        y.change(0, 1, 1);
        Checks.ticks(y, 59);
        c.due("at 59", y.server(1), 2);
        y.tick();
        c.due("both in the same tick", y.server(1), 0);
    }

    private static void ackOfOneThatIsChanged() {
        c.says("by an ACK, when it is CHANGED, it is told again");
        ObservedBlocks x = Checks.watched();
        x.change(0, 1, 1);
        x.deliver(0);
        x.repeat(0);
        c.due("it is not CHANGED", x.deliver(0), 1);
        c.due("the ACK again is ignored", x.deliver(0), 0);
        x.change(0, 2, 1);
        x.change(0, 0, 1);
        x.deliver(0);
        c.due("it is CHANGED", x.deliver(0), 1);
        c.dueDatagram("told again", x, 0, 0, 65, 69, 0, 3, 2, 97, 4, 208, 4);
        Checks.ticks(x, 4);
        c.due("which is pending with 4 ticks", x.waiting(), 2);
    }

    /** A watcher of path a with a pending message, which is under way. */
    private static ObservedBlocks told() {
        ObservedBlocks x = Checks.watched();
        x.change(0, 1, 1);
        return x;
    }

    private static void othersAreIgnored() {
        c.says("All other messages are ignored");
        int[][] rows = {{65, 69, 0, 1, 2, 177, 97, 192}, {65, 2, 0, 1, 2, 177, 97, 192}, {81, 1, 0, 1, 2, 177, 97, 192},
            {97, 1, 0, 1, 2, 177, 97, 192}, {113, 3, 0, 1, 2, 177, 97, 192}};
        for (int[] row : rows) {
            int[] after = Checks.picture(() -> {
                ObservedBlocks x = told();
                Checks.bringToServer(x, row);
                return x;
            });
            c.dueRow("all that can be seen", after, Checks.picture(ServerBoundariesTest::told));
            ObservedBlocks x = told();
            Checks.bringToServer(x, row);
            Checks.ticks(x, 4);
            c.due("what is pending goes on", x.waiting(), 2);
        }
        for (int first : new int[] {64, 80}) {
            ObservedBlocks x = Checks.watched();
            x.change(0, 1, 1);
            x.deliver(0);
            x.spoil(0, 0, 96 ^ first);
            c.due("an empty message of another type", x.deliver(0), 0);
            Checks.ticks(x, 4);
            c.due("what is pending goes on", x.waiting(), 1);
        }
    }
}
