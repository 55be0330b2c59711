/** The boundary cases of what the document says of the client and its slots. */
public final class ClientBoundariesTest {
    private static final Checks c = new Checks();
    /** IDs of helping requests, far from those that the client gives. */
    private static int helpId = 1000;

    public static void main(String[] args) {
        tokensModulo256();
        usesAreCountedForEachSlot();
        watchOnlyInTheFirstRequest();
        blocksOfAPut();
        answerToAnotherId();
        answerWithAnotherToken();
        answerToASlotThatDoesNotAsk();
        answerStopsThePending();
        anotherNumOrSzx();
        noBlock2();
        atMost64();
        cutIfItHasMore();
        notCutIfItHasNot();
        watchInTheAnswer();
        watchWhenTheFirstRequestHadNone();
        moreOrDone();
        continueOnlyWithMore();
        changedOnlyToAPut();
        reasonIsTheCode();
        newsForTheToken();
        newsForNobody();
        newerThanLast();
        newsWithoutItsOptions();
        newsWithAnotherBlock();
        newsStopsThePending();
        newsReplacesTheBody();
        newsWithMore();
        othersAreIgnored();
        givenUpIsFailed();
        c.finish("ClientBoundariesTest");
    }

    private static void bring(ObservedBlocks x, int... row) {
        Checks.bringToClient(x, helpId++, row);
    }

    /** The ID of the request that was sent last, which is taken off the line. */
    private static int takeRequest(ObservedBlocks x) {
        int k = x.waiting() - 1;
        int id = 256 * x.datagram(k, 2) + x.datagram(k, 3);
        x.lose(k);
        return id;
    }

    /** An ACK with code 69 and a BLOCK2 that is not 0 for slot 0 in its first use. */
    private static void bringBlock(ObservedBlocks x, int id, int block, int... bytes) {
        int[] head = {97, 69, id / 256, id % 256, 2, 209, 10, block};
        bring(x, bytes.length == 0 ? head : Checks.join(head, Checks.payload(bytes)));
    }

    /** News for slot 0 in its first use, with WATCH, a BLOCK2 that is not 0 and a payload of one byte or more. */
    private static void bringNews(ObservedBlocks x, int watch, int block, int... bytes) {
        int[] head = {65, 69, 7, 9, 2};
        int[] number = watch == 0 ? Checks.row(96) : watch < 256 ? Checks.row(97, watch) : Checks.row(98, watch / 256, watch % 256);
        int[] row = Checks.join(Checks.join(head, number), 209, 4, block);
        bring(x, Checks.join(row, Checks.payload(bytes)));
    }

    /** Slot 0 watches path a with SZX 1, its body being one byte; nothing is under way. */
    private static ObservedBlocks watching(int last) {
        ObservedBlocks x = new ObservedBlocks();
        x.get(0, 0, 1, true);
        x.lose(0);
        int[] number = last == 0 ? Checks.row(96) : last < 256 ? Checks.row(97, last) : Checks.row(98, last / 256, last % 256);
        bring(x, Checks.join(Checks.join(Checks.row(97, 69, 0, 1, 2), number), 209, 4, 1, 255, 5));
        return x;
    }

    private static void tokensModulo256() {
        c.says("that of slot k is 2 * u + k, modulo 256, for its u-th use, u from 1 on");
        for (int slot = 0; slot < 2; slot++) {
            ObservedBlocks x = new ObservedBlocks();
            for (int use = 1; use <= 127; use++) {
                c.due("use " + use, x.get(slot, 0, 0, false), 2 * use + slot);
                x.free(slot);
            }
            Checks.emptyLine(x);
            c.due("use 128", x.get(slot, 0, 0, true), slot);
            c.due("token in the request", x.datagram(0, 4), slot);
            c.due("slot(k, 1)", x.slot(slot, 1), slot);
            Checks.deliverAll(x);
            c.due("its answer is known by the token", x.slot(slot, 0), 2);
            x.change(0, 1, 9);
            Checks.deliverAll(x);
            c.due("its news are known by the token", x.body(slot, 0), 9);
            x.free(slot);
            c.due("use 129", x.put(slot, 0, 0, 1, 1), 2 + slot);
        }
    }

    private static void usesAreCountedForEachSlot() {
        c.says("for its u-th use, u from 1 on");
        ObservedBlocks x = new ObservedBlocks();
        c.due("slot 1, use 1", x.put(1, 0, 0, 1, 1), 3);
        x.free(1);
        c.due("slot 1, use 2", x.get(1, 0, 0, false), 5);
        c.due("slot 0, use 1", x.get(0, 0, 0, false), 2);
        c.due("a call that is refused is no use", x.get(0, 0, 0, false), -2);
        x.free(0);
        c.due("slot 0, use 2", x.put(0, 0, 0, 1, 1), 4);
    }

    private static void watchOnlyInTheFirstRequest() {
        c.says("WATCH 0 (only in the first request of a get that is to watch)");
        ObservedBlocks x = new ObservedBlocks();
        x.change(0, 33, 1);
        x.get(0, 0, 0, true);
        c.dueDatagram("the first", x, 0, 1, 65, 1, 0, 1, 2, 96, 81, 97, 192);
        Checks.ticks(x, 4);
        c.dueDatagram("the first again", x, 1, 1, 65, 1, 0, 1, 2, 96, 81, 97, 192);
        x.lose(1);
        x.deliver(0);
        x.deliver(0);
        c.dueDatagram("the second", x, 0, 1, 65, 1, 0, 2, 2, 177, 97, 193, 16);
        x.deliver(0);
        x.deliver(0);
        c.dueDatagram("the third", x, 0, 1, 65, 1, 0, 3, 2, 177, 97, 193, 32);
        Checks.deliverAll(x);
        x.change(0, 17, 1);
        x.deliver(0);
        c.dueDatagram("the one that news bring about", x, 1, 1, 65, 1, 0, 4, 2, 177, 97, 193, 16);
        x.get(1, 0, 0, false);
        c.dueDatagram("a get that is not to watch", x, 2, 1, 65, 1, 0, 5, 3, 177, 97, 192);
        x.free(0);
        x.put(0, 0, 0, 0, 1);
        c.dueDatagram("a put after a get that was to watch", x, 3, 1, 65, 3, 0, 6, 4, 177, 97, 208, 3);
    }

    private static void blocksOfAPut() {
        c.says("BLOCK1 with NUM, MORE (1 when the body has bytes behind this block) and SZX, "
            + "and the bytes of the body from NUM * SIZE on, at most SIZE");
        for (int szx = 0; szx < 2; szx++) {
            for (int length = 0; length <= 80; length++) {
                ObservedBlocks x = new ObservedBlocks();
                x.put(0, 0, szx, length, 3);
                int size = szx == 0 ? 16 : 32;
                int blocks = Math.max(1, (length + size - 1) / size);
                for (int num = 0; num < blocks; num++) {
                    c.dueDatagram("block " + num + " of " + length + " bytes", x, 0, 1, putRow(num, szx, length, size));
                    x.deliver(0);
                    x.deliver(0);
                }
                c.due("no request more", x.waiting(), 0);
                c.due("state", x.slot(0, 0), length <= 64 ? 2 : 4);
            }
        }
    }

    private static int[] putRow(int num, int szx, int length, int size) {
        int end = Math.min(length, (num + 1) * size);
        int block = 16 * num + (length > end ? 8 : 0) + szx;
        int[] head = {65, 3, 0, num + 1, 2, 177, 97};
        int[] option = block == 0 ? Checks.row(208, 3) : Checks.row(209, 3, block);
        int[] bytes = Checks.made(num * size, end, 3);
        int[] row = Checks.join(head, option);
        return bytes.length == 0 ? row : Checks.join(row, Checks.payload(bytes));
    }

    private static void answerToAnotherId() {
        c.says("ACK, when a slot that asks has a pending request with that ID");
        ObservedBlocks x = new ObservedBlocks();
        x.get(0, 0, 1, true);
        for (int[] id : new int[][] {{0, 0}, {0, 2}, {1, 1}, {255, 255}}) {
            bring(x, 97, 69, id[0], id[1], 2, 209, 10, 1);
            c.due("another ID", x.slot(0, 0), 1);
        }
        bring(x, 97, 69, 0, 1, 2, 209, 10, 1);
        c.due("its ID", x.slot(0, 0), 2);
        ObservedBlocks y = new ObservedBlocks();
        y.change(0, 40, 1);
        y.get(0, 0, 0, false);
        y.deliver(0);
        y.repeat(0);
        y.repeat(0);
        y.deliver(0);
        c.due("asks on", y.slot(0, 2), 1);
        y.deliver(0);
        c.dueSlot("the ID of the request before", y, 0, 1, 2, 1, 16, 0, 0, 0);
    }

    private static void answerWithAnotherToken() {
        c.says("and the token is the slot's");
        for (int token : new int[] {0, 1, 3, 4, 130, 255}) {
            ObservedBlocks x = new ObservedBlocks();
            x.get(0, 0, 1, true);
            bring(x, 97, 132, 0, 1, token, 209, 10, 1);
            c.due("token " + token, x.slot(0, 0), 1);
            c.due("it is still pending", x.waiting(), 1);
            bring(x, 97, 132, 0, 1, 2, 209, 10, 1);
            c.due("its own token", x.slot(0, 0), 4);
        }
        ObservedBlocks x = new ObservedBlocks();
        x.get(0, 4, 0, false);
        x.get(1, 4, 0, false);
        x.deliver(0);
        x.deliver(0);
        // The answers change their tokens: 2 becomes 3 and 3 becomes 2.
        x.spoil(0, 4, 1);
        x.spoil(1, 4, 1);
        Checks.deliverAll(x);
        c.due("the ID of slot 0 with the token of slot 1", x.slot(0, 0), 1);
        c.due("the ID of slot 1 with the token of slot 0", x.slot(1, 0), 1);
    }

    private static void answerToASlotThatDoesNotAsk() {
        c.says("ACK, when a slot that asks");
        ObservedBlocks x = new ObservedBlocks();
        x.change(0, 3, 1);
        x.get(0, 0, 0, false);
        x.deliver(0);
        x.repeat(0);
        x.deliver(0);
        x.spoil(0, 1, 69 ^ 132);
        x.deliver(0);
        c.dueSlot("a second answer to one that is DONE", x, 0, 2, 2, 0, 3, 0, 0, 0);
        x.free(0);
        x.get(0, 0, 0, false);
        x.deliver(0);
        x.free(0);
        x.deliver(0);
        c.dueSlot("an answer to one that is free", x, 0, 0, 0, 0, 0, 0, 0, 0);
        x.get(0, 0, 0, false);
        x.deliver(0);
        Checks.ticks(x, 60);
        x.deliver(0);
        c.dueSlot("an answer to one that FAILED", x, 0, 3, 6, 0, 0, 0, 0, 0);
    }

    private static void answerStopsThePending() {
        c.says("the request is pending no more");
        int[] codes = {68, 69, 95, 132};
        for (int code : codes) {
            ObservedBlocks x = new ObservedBlocks();
            x.get(0, 0, 1, false);
            x.lose(0);
            bring(x, 97, code, 0, 1, 2, 209, 10, 1);
            int state = x.slot(0, 0);
            Checks.ticks(x, 60);
            c.due("nothing is sent again after code " + code, x.waiting(), 0);
            c.due("and nothing is given up", x.slot(0, 0), state);
        }
    }

    private static void anotherNumOrSzx() {
        c.says("Code 69 when the slot gets, with a BLOCK2 of the same NUM and SZX");
        int[][] cases = {{1, 2}, {9, 1}, {8, 4}, {17, 4}, {16, 4}, {33, 4}, {241, 4}};
        for (int[] one : cases) {
            ObservedBlocks x = new ObservedBlocks();
            x.get(0, 0, 1, false);
            x.lose(0);
            bringBlock(x, 1, one[0], 7);
            c.due("SZX 1, NUM 0 and the block " + one[0], x.slot(0, 0), one[1]);
            c.due("REASON", x.slot(0, 6), one[1] == 4 ? 69 : 0);
            c.due("body", x.slot(0, 3), one[1] == 4 ? 0 : 1);
        }
        int[][] second = {{16, 2}, {17, 4}, {32, 4}, {8, 4}, {1, 4}};
        for (int[] one : second) {
            ObservedBlocks x = new ObservedBlocks();
            x.get(0, 0, 0, false);
            x.lose(0);
            bringBlock(x, 1, 8, Checks.made(0, 16, 1));
            bringBlock(x, takeRequest(x), one[0], 7);
            c.due("SZX 0, NUM 1 and the block " + one[0], x.slot(0, 0), one[1]);
            c.due("body", x.slot(0, 3), one[1] == 4 ? 16 : 17);
        }
    }

    private static void noBlock2() {
        c.says("Code 69 when the slot gets, with a BLOCK2");
        ObservedBlocks x = new ObservedBlocks();
        x.get(0, 0, 1, true);
        x.lose(0);
        bring(x, 97, 69, 0, 1, 2, 97, 9, 255, 1, 2);
        c.dueSlot("none", x, 0, 4, 2, 0, 0, 0, 0, 69);
        ObservedBlocks y = new ObservedBlocks();
        y.get(0, 0, 1, true);
        y.lose(0);
        bring(y, 97, 69, 0, 1, 2, 97, 9, 209, 8, 1, 255, 1, 2);
        c.dueSlot("BLOCK1 in its stead", y, 0, 4, 2, 0, 0, 0, 0, 69);
    }

    private static void atMost64() {
        c.says("and NUM * SIZE + payload at most 64");
        // SZX, the NUM of the answer, the bytes of its payload, and whether that is at most 64.
        int[][] cases = {{0, 2, 32, 1}, {0, 3, 16, 1}, {0, 3, 17, 0}, {0, 4, 0, 1}, {0, 4, 1, 0}, {0, 5, 0, 0}, {1, 1, 32, 1},
            {1, 2, 0, 1}, {1, 2, 1, 0}, {1, 3, 0, 0}};
        for (int[] one : cases) {
            ObservedBlocks x = new ObservedBlocks();
            x.get(0, 0, one[0], false);
            for (int num = 0; num < one[1]; num++) {
                bringBlock(x, takeRequest(x), 16 * num + 8 + one[0]);
            }
            bringBlock(x, takeRequest(x), 16 * one[1] + one[0], Checks.made(0, one[2], 1));
            String what = "SZX " + one[0] + ", NUM " + one[1] + ", payload " + one[2];
            c.dueSlot(what, x, 0, one[3] == 1 ? 2 : 4, 2, one[1], one[3] == 1 ? one[2] : 0, 0, 0, one[3] == 1 ? 0 : 69);
        }
        ObservedBlocks y = new ObservedBlocks();
        y.change(0, 64, 1);
        y.get(0, 0, 0, false);
        Checks.deliverAll(y);
        c.dueSlot("64 bytes in blocks of 16", y, 0, 2, 2, 3, 64, 0, 0, 0);
        c.due("the last", y.body(0, 63), 60);
    }

    private static void cutIfItHasMore() {
        c.says("the body is cut to NUM * SIZE bytes, if it has more, and the payload goes behind it");
        for (int length : new int[] {17, 32}) {
            ObservedBlocks x = new ObservedBlocks();
            x.get(0, 0, 0, false);
            x.lose(0);
            bringBlock(x, 1, 8, Checks.made(0, length, 0));
            c.due("body", x.slot(0, 3), length);
            bringBlock(x, takeRequest(x), 16, 7, 8);
            c.due("body", x.slot(0, 3), 18);
            c.due("the last that is not cut", x.body(0, 15), 75);
            c.due("the first of the payload", x.body(0, 16), 7);
        }
        ObservedBlocks y = new ObservedBlocks();
        y.get(0, 0, 0, false);
        y.lose(0);
        bringBlock(y, 1, 8, Checks.made(0, 32, 0));
        bringBlock(y, takeRequest(y), 16);
        c.dueSlot("by an empty payload too", y, 0, 2, 2, 1, 16, 0, 0, 0);
    }

    private static void notCutIfItHasNot() {
        c.says("cut to NUM * SIZE bytes, if it has more");
        for (int length : new int[] {0, 1, 15, 16}) {
            ObservedBlocks x = new ObservedBlocks();
            x.get(0, 0, 0, false);
            x.lose(0);
            bringBlock(x, 1, 8, Checks.made(0, length, 0));
            bringBlock(x, takeRequest(x), 16, 7, 8);
            c.due("body", x.slot(0, 3), length + 2);
            c.due("the first of the payload", x.body(0, length), 7);
        }
    }

    private static void watchInTheAnswer() {
        c.says("if the message has WATCH and the first request had, the slot watches and LAST becomes that number");
        for (int number : new int[] {0, 1, 255, 256, 65535}) {
            c.dueSlot("WATCH " + number, watching(number), 0, 2, 2, 0, 1, 1, number, 0);
        }
        ObservedBlocks x = new ObservedBlocks();
        x.get(0, 0, 1, true);
        x.lose(0);
        bringBlock(x, 1, 9, 5);
        c.dueSlot("no WATCH", x, 0, 1, 2, 1, 1, 0, 0, 0);
        int id = takeRequest(x);
        bring(x, 97, 69, 0, id, 2, 97, 9, 209, 4, 25, 255, 6);
        c.dueSlot("WATCH in the second answer", x, 0, 1, 2, 2, 2, 1, 9, 0);
        id = takeRequest(x);
        bring(x, 97, 69, 0, id, 2, 97, 3, 209, 4, 33, 255, 6);
        c.dueSlot("WATCH in a third that does not fit", x, 0, 4, 2, 2, 2, 1, 9, 69);
        ObservedBlocks y = new ObservedBlocks();
        y.get(0, 0, 1, true);
        y.lose(0);
        bring(y, 97, 132, 0, 1, 2, 97, 3, 209, 4, 1, 255, 6);
        c.dueSlot("WATCH with another code", y, 0, 4, 2, 0, 0, 0, 0, 132);
    }

    private static void watchWhenTheFirstRequestHadNone() {
        c.says("if the message has WATCH and the first request had");
        ObservedBlocks x = new ObservedBlocks();
        x.get(0, 0, 1, false);
        x.lose(0);
        bring(x, 97, 69, 0, 1, 2, 97, 9, 209, 4, 1, 255, 6);
        c.dueSlot("it had not", x, 0, 2, 2, 0, 1, 0, 0, 0);
        ObservedBlocks y = watching(7);
        y.free(0);
        y.get(0, 0, 1, false);
        int id = takeRequest(y);
        bring(y, 97, 69, 0, id, 4, 97, 9, 209, 4, 1, 255, 6);
        c.dueSlot("that of the use before had", y, 0, 2, 4, 0, 1, 0, 0, 0);
    }

    private static void moreOrDone() {
        c.says("with MORE 1 NUM grows by 1 and it asks on, otherwise it is DONE");
        ObservedBlocks x = new ObservedBlocks();
        x.get(0, 0, 1, false);
        x.lose(0);
        bringBlock(x, 1, 9);
        c.dueSlot("MORE 1 and no payload", x, 0, 1, 2, 1, 0, 0, 0, 0);
        bringBlock(x, takeRequest(x), 17);
        c.dueSlot("MORE 0 and no payload", x, 0, 2, 2, 1, 0, 0, 0, 0);
        c.due("it asks no more", x.waiting(), 0);
        int[][] lengths = {{0, 0}, {15, 0}, {16, 0}, {17, 1}, {32, 1}, {33, 2}, {48, 2}, {49, 3}, {64, 3}};
        for (int[] one : lengths) {
            ObservedBlocks y = new ObservedBlocks();
            y.change(0, one[0], 1);
            y.get(0, 0, 0, false);
            Checks.deliverAll(y);
            c.dueSlot("a content of " + one[0], y, 0, 2, 2, one[1], one[0], 0, 0, 0);
            c.due("handled", y.server(0), one[1] + 1);
        }
    }

    private static void continueOnlyWithMore() {
        c.says("Code 95 when the slot puts and the request had MORE 1: NUM grows by 1 and it asks on");
        int[][] cases = {{0, 4}, {31, 4}, {32, 4}, {33, 1}, {80, 1}};
        for (int[] one : cases) {
            ObservedBlocks x = new ObservedBlocks();
            x.put(0, 0, 1, one[0], 1);
            x.lose(0);
            bring(x, 97, 95, 0, 1, 2, 209, 14, 9);
            boolean on = one[1] == 1;
            c.dueSlot("95 to a put of " + one[0], x, 0, one[1], 2, on ? 1 : 0, one[0], 0, 0, on ? 0 : 95);
            c.due("it asks on or not", x.waiting(), on ? 1 : 0);
        }
        ObservedBlocks x = new ObservedBlocks();
        x.put(0, 0, 1, 64, 1);
        x.lose(0);
        bring(x, 97, 95, 0, 1, 2, 209, 14, 9);
        bring(x, 97, 95, 0, takeRequest(x), 2, 209, 14, 25);
        c.dueSlot("95 to the last block", x, 0, 4, 2, 1, 64, 0, 0, 95);
        ObservedBlocks y = new ObservedBlocks();
        y.get(0, 0, 1, false);
        y.lose(0);
        bring(y, 97, 95, 0, 1, 2, 209, 10, 9);
        c.dueSlot("95 to a get", y, 0, 4, 2, 0, 0, 0, 0, 95);
    }

    private static void changedOnlyToAPut() {
        c.says("Code 68 when it puts: DONE");
        for (int length : new int[] {0, 16, 17, 80}) {
            ObservedBlocks x = new ObservedBlocks();
            x.put(0, 0, 0, length, 1);
            x.lose(0);
            bring(x, 97, 68, 0, 1, 2, 209, 14, 8);
            c.dueSlot("68 to a put of " + length, x, 0, 2, 2, 0, length, 0, 0, 0);
            c.due("it asks no more", x.waiting(), 0);
        }
        ObservedBlocks y = new ObservedBlocks();
        y.get(0, 0, 0, true);
        y.lose(0);
        bring(y, 97, 68, 0, 1, 2, 209, 10, 8);
        c.dueSlot("68 to a get", y, 0, 4, 2, 0, 0, 0, 0, 68);
    }

    private static void reasonIsTheCode() {
        c.says("In all other cases: REFUSED, with that code as REASON");
        for (int code : new int[] {1, 3, 67, 69, 70, 94, 96, 130, 132, 136, 141, 255}) {
            ObservedBlocks x = new ObservedBlocks();
            x.put(0, 0, 1, 40, 1);
            x.lose(0);
            bring(x, 97, code, 0, 1, 2, 209, 10, 1);
            c.dueSlot("code " + code + " to a put", x, 0, 4, 2, 0, 40, 0, 0, code);
        }
    }

    private static void newsForTheToken() {
        c.says("when a slot watches and the token is its own: an ACK with code 0 and the ID goes back");
        for (int[] id : new int[][] {{0, 0}, {1, 2}, {255, 255}}) {
            ObservedBlocks x = watching(7);
            bring(x, 65, 69, id[0], id[1], 2, 97, 8, 209, 4, 1, 255, 6);
            c.dueDatagram("news", x, 0, 1, 96, 0, id[0], id[1]);
            bring(x, 65, 69, id[0], id[1], 2, 97, 8, 209, 4, 1, 255, 6);
            c.dueDatagram("the same again", x, 1, 1, 96, 0, id[0], id[1]);
        }
        ObservedBlocks y = new ObservedBlocks();
        y.get(0, 0, 0, true);
        y.get(1, 1, 0, true);
        Checks.deliverAll(y);
        y.change(1, 3, 9);
        y.deliver(0);
        c.dueDatagram("slot 1 too", y, 0, 1, 96, 0, 0, 1);
        c.dueSlot("slot 1", y, 1, 2, 3, 0, 3, 1, 3, 0);
        c.dueSlot("slot 0", y, 0, 2, 2, 0, 0, 1, 1, 0);
    }

    private static void newsForNobody() {
        c.says("When no slot watches with that token: an RST with code 0 and the ID goes back");
        for (int token : new int[] {0, 1, 3, 4, 255}) {
            ObservedBlocks x = watching(7);
            bring(x, 65, 69, 7, 9, token, 97, 8, 209, 4, 1, 255, 6);
            c.dueDatagram("token " + token, x, 0, 1, 112, 0, 7, 9);
            c.dueSlot("the slot", x, 0, 2, 2, 0, 1, 1, 7, 0);
        }
        ObservedBlocks asking = new ObservedBlocks();
        asking.get(0, 0, 1, true);
        asking.lose(0);
        bringNews(asking, 8, 1, 6);
        c.dueDatagram("it does not watch as yet", asking, 0, 1, 112, 0, 7, 9);
        c.due("it asks on", asking.slot(0, 0), 1);
        ObservedBlocks getting = new ObservedBlocks();
        getting.get(0, 0, 1, false);
        getting.lose(0);
        bringBlock(getting, 1, 1, 5);
        bringNews(getting, 8, 1, 6);
        c.dueDatagram("it was not to watch", getting, 0, 1, 112, 0, 7, 9);
        ObservedBlocks freed = watching(7);
        freed.free(0);
        bringNews(freed, 8, 1, 6);
        c.dueDatagram("it is free", freed, 0, 1, 112, 0, 7, 9);
        ObservedBlocks used = watching(7);
        used.free(0);
        used.put(0, 0, 1, 1, 1);
        used.lose(0);
        bring(used, 65, 69, 7, 9, 4, 97, 8, 209, 4, 1, 255, 6);
        c.dueDatagram("it puts in its next use", used, 0, 1, 112, 0, 7, 9);
    }

    private static void newerThanLast() {
        c.says("NEWER than LAST (that is, the difference less LAST, modulo 65536, is 1 .. 32767)");
        int[] lasts = {0, 1, 255, 256, 32767, 32768, 32769, 65534, 65535};
        int[] steps = {0, 1, 2, 32766, 32767, 32768, 32769, 65534, 65535};
        for (int last : lasts) {
            for (int step : steps) {
                ObservedBlocks x = watching(last);
                int number = (last + step) % 65536;
                bringNews(x, number, 1, 6, 7);
                boolean newer = step >= 1 && step <= 32767;
                c.dueSlot(number + " after " + last, x, 0, 2, 2, 0, newer ? 2 : 1, 1, newer ? number : last, 0);
                c.due("an ACK in any case", x.datagram(0, 0), 96);
            }
        }
    }

    private static void newsWithoutItsOptions() {
        c.says("And if the message has WATCH .. and a BLOCK2");
        ObservedBlocks x = watching(7);
        bring(x, 65, 69, 7, 9, 2, 209, 10, 1, 255, 6, 7);
        c.dueSlot("no WATCH", x, 0, 2, 2, 0, 1, 1, 7, 0);
        bring(x, 65, 69, 7, 9, 2, 97, 8, 255, 6, 7);
        c.dueSlot("no BLOCK2", x, 0, 2, 2, 0, 1, 1, 7, 0);
        bring(x, 65, 69, 7, 9, 2, 97, 8, 209, 8, 1, 255, 6, 7);
        c.dueSlot("BLOCK1 in its stead", x, 0, 2, 2, 0, 1, 1, 7, 0);
        c.due("an ACK in any case", x.waiting(), 3);
        ObservedBlocks y = watching(65535);
        bring(y, 65, 69, 7, 9, 2, 209, 10, 1, 255, 6, 7);
        c.dueSlot("no WATCH, when 0 would be newer", y, 0, 2, 2, 0, 1, 1, 65535, 0);
    }

    private static void newsWithAnotherBlock() {
        c.says("and a BLOCK2 with NUM 0 and the slot's SZX");
        for (int block : new int[] {8, 16, 17, 24, 25, 33, 241}) {
            ObservedBlocks x = watching(7);
            bringNews(x, 8, block, 6, 7);
            c.dueSlot("the block " + block, x, 0, 2, 2, 0, 1, 1, 7, 0);
            c.dueDatagram("an ACK in any case", x, 0, 1, 96, 0, 7, 9);
            c.due("and nothing else", x.waiting(), 1);
        }
    }

    private static void newsStopsThePending() {
        c.says("its pending request, if any, is pending no more");
        ObservedBlocks x = watching(7);
        bringNews(x, 8, 9, 6);
        int id = takeRequest(x);
        x.lose(0);
        bringNews(x, 9, 1, 4);
        x.lose(0);
        c.dueSlot("DONE", x, 0, 2, 2, 0, 1, 1, 9, 0);
        bringBlock(x, id, 17, 1, 2, 3);
        c.dueSlot("its answer is ignored", x, 0, 2, 2, 0, 1, 1, 9, 0);
        Checks.ticks(x, 60);
        c.due("it is not sent again", x.waiting(), 0);
        c.due("nor given up", x.slot(0, 0), 2);
        ObservedBlocks y = watching(7);
        bringNews(y, 8, 9, 6);
        id = takeRequest(y);
        y.lose(0);
        Checks.ticks(y, 3);
        bringNews(y, 9, 9, 4);
        c.due("another ID", takeRequest(y) != id, true);
        y.lose(0);
        Checks.ticks(y, 3);
        c.due("another 4 ticks", y.waiting(), 0);
        y.tick();
        c.due("then it is sent again", y.waiting(), 1);
    }

    private static void newsReplacesTheBody() {
        c.says("the body becomes the payload and NUM 0");
        ObservedBlocks x = new ObservedBlocks();
        x.change(0, 64, 1);
        x.get(0, 0, 1, true);
        Checks.deliverAll(x);
        c.due("NUM", x.slot(0, 2), 1);
        x.change(0, 2, 9);
        x.deliver(0);
        c.dueSlot("2 bytes after 64", x, 0, 2, 2, 0, 2, 1, 2, 0);
        c.due("byte 1", x.body(0, 1), 14);
        c.due("byte 2", x.body(0, 2), -1);
        x.deliver(0);
        x.change(0, 0, 9);
        x.deliver(0);
        c.dueSlot("none after 2", x, 0, 2, 2, 0, 0, 1, 3, 0);
        x.deliver(0);
        x.change(0, 32, 9);
        x.deliver(0);
        c.dueSlot("32, just one block", x, 0, 2, 2, 0, 32, 1, 4, 0);
    }

    private static void newsWithMore() {
        c.says("with MORE 1 NUM becomes 1 and it asks (it is ASKING), otherwise it is DONE");
        ObservedBlocks x = new ObservedBlocks();
        x.get(0, 0, 1, true);
        Checks.deliverAll(x);
        x.change(0, 33, 9);
        x.deliver(0);
        c.dueSlot("33, one behind the block", x, 0, 1, 2, 1, 32, 1, 2, 0);
        c.dueDatagram("ACK first", x, 0, 1, 96, 0, 0, 1);
        c.dueDatagram("then the request", x, 1, 1, 65, 1, 0, 2, 2, 177, 97, 193, 17);
        Checks.deliverAll(x);
        c.dueSlot("DONE", x, 0, 2, 2, 1, 33, 1, 2, 0);
        c.due("the last", x.body(0, 32), 169);
        ObservedBlocks y = watching(7);
        bringNews(y, 8, 9, 6);
        bring(y, 97, 130, 0, takeRequest(y), 2, 209, 10, 17);
        c.dueSlot("REFUSED, and it watches on", y, 0, 4, 2, 1, 1, 1, 8, 130);
        bringNews(y, 9, 1, 4, 5);
        c.dueSlot("DONE by news, and REASON is none", y, 0, 2, 2, 0, 2, 1, 9, 0);
    }

    private static void othersAreIgnored() {
        c.says("All others are ignored");
        int[][] rows = {{65, 68, 7, 9, 2, 97, 8, 209, 4, 1, 255, 6}, {65, 70, 7, 9, 2, 97, 8, 209, 4, 1, 255, 6},
            {65, 1, 7, 9, 2, 96, 81, 97, 193, 1}, {81, 69, 7, 9, 2, 97, 8, 209, 4, 1, 255, 6}, {113, 69, 7, 9, 2, 97, 8, 209, 4, 1, 255, 6},
            {97, 69, 7, 9, 2, 97, 8, 209, 4, 1, 255, 6}, {81, 69, 7, 9, 99, 97, 8, 209, 4, 1, 255, 6},
            {65, 68, 7, 9, 99, 97, 8, 209, 4, 1, 255, 6}};
        for (int[] row : rows) {
            ObservedBlocks x = watching(7);
            bring(x, row);
            c.dueSlot("the slot", x, 0, 2, 2, 0, 1, 1, 7, 0);
            c.due("nothing goes back", x.waiting(), 0);
        }
        int[][] answers = {{65, 69, 0, 1, 2, 209, 10, 1}, {81, 69, 0, 1, 2, 209, 10, 1}, {113, 69, 0, 1, 2, 209, 10, 1}};
        for (int[] row : answers) {
            ObservedBlocks x = new ObservedBlocks();
            x.get(0, 0, 1, true);
            x.lose(0);
            bring(x, row);
            c.dueSlot("an answer of another type", x, 0, 1, 2, 0, 0, 0, 0, 0);
        }
    }

    private static void givenUpIsFailed() {
        c.says("A request that is given up: the slot is FAILED");
        ObservedBlocks x = watching(7);
        bringNews(x, 8, 9, 6);
        x.put(1, 0, 0, 20, 1);
        Checks.ticks(x, 59);
        c.due("slot 0 at 59", x.slot(0, 0), 1);
        c.due("slot 1 at 59", x.slot(1, 0), 1);
        x.tick();
        c.dueSlot("slot 0 at 60", x, 0, 3, 2, 1, 1, 1, 8, 0);
        c.dueSlot("slot 1 at 60", x, 1, 3, x.slot(1, 1), 0, 20, 0, 0, 0);
        c.due("it is not free", x.get(0, 0, 0, false), -2);
        c.due("free(0)", x.free(0), 0);
    }
}
