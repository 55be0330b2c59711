/** What the client does with the messages that come to it. */
public final class ClientTest {
    private static final Checks c = new Checks();
    /** IDs of helping requests, far from those that the client gives. */
    private static int helpId = 1000;

    public static void main(String[] args) {
        answersToGet();
        blocksOfGet();
        bodyIsCut();
        answersToPut();
        watching();
        news();
        newer();
        newsBreaksIn();
        newsAfterTheEnd();
        fullLine();
        c.finish("ClientTest");
    }

    private static void bring(ObservedBlocks x, int... row) {
        Checks.bringToClient(x, helpId++, row);
    }

    private static ObservedBlocks getting(int szx, boolean watch) {
        ObservedBlocks x = new ObservedBlocks();
        x.get(0, 0, szx, watch);
        x.lose(0);
        return x;
    }

    private static ObservedBlocks putting(int szx, int length) {
        ObservedBlocks x = new ObservedBlocks();
        x.put(0, 0, szx, length, 1);
        x.lose(0);
        return x;
    }

    private static void answersToGet() {
        for (int code : new int[] {1, 3, 67, 68, 95, 130, 132, 136, 141, 255}) {
            ObservedBlocks x = getting(1, true);
            bring(x, 97, code, 0, 1, 2, 209, 10, 1);
            c.dueSlot("code " + code + " to a get", x, 0, 4, 2, 0, 0, 0, 0, code);
            c.due("it asks no more", x.waiting(), 0);
            Checks.ticks(x, 8);
            c.due("nothing is pending", x.waiting(), 0);
            bring(x, 97, 69, 0, 1, 2, 209, 10, 1);
            c.due("a second answer is ignored", x.slot(0, 0), 4);
        }
        ObservedBlocks x = getting(1, false);
        bring(x, 97, 69, 0, 1, 2, 208, 14, 255);
        c.due("no message", x.slot(0, 0), 1);
        bring(x, 97, 69, 0, 1, 2, 209, 14, 1);
        c.dueSlot("69 with BLOCK1 alone", x, 0, 4, 2, 0, 0, 0, 0, 69);
        x = getting(1, false);
        bring(x, 97, 69, 0, 1, 2, 209, 10, 8);
        c.dueSlot("69 with another SZX", x, 0, 4, 2, 0, 0, 0, 0, 69);
        x = getting(1, false);
        bring(x, 97, 69, 0, 1, 2, 209, 10, 17);
        c.dueSlot("69 with another NUM", x, 0, 4, 2, 0, 0, 0, 0, 69);
        x = getting(0, false);
        bring(x, 97, 69, 0, 1, 2, 209, 10, 8);
        c.dueSlot("69 with MORE 1 and no payload", x, 0, 1, 2, 1, 0, 0, 0, 0);
        c.dueDatagram("it asks on", x, 0, 1, 65, 1, 0, x.datagram(0, 3), 2, 177, 97, 193, 16);
    }

    private static void blocksOfGet() {
        ObservedBlocks x = new ObservedBlocks();
        x.change(3, 64, 5);
        x.get(1, 3, 0, true);
        x.deliver(0);
        x.deliver(0);
        c.dueSlot("after the first block", x, 1, 1, 3, 1, 16, 1, 1, 0);
        c.dueDatagram("WATCH is in the first request only", x, 0, 1, 65, 1, 0, 2, 3, 178, 99, 99, 1, 100, 193, 16);
        x.deliver(0);
        x.repeat(0);
        x.deliver(0);
        c.dueSlot("after the second block", x, 1, 1, 3, 2, 32, 1, 1, 0);
        x.deliver(0);
        c.dueSlot("the second block again is ignored", x, 1, 1, 3, 2, 32, 1, 1, 0);
        Checks.deliverAll(x);
        c.dueSlot("after the last block", x, 1, 2, 3, 3, 64, 1, 1, 0);
        for (int i = 0; i < 64; i++) {
            c.due("body", x.body(1, i), x.content(3, i));
        }
    }

    private static void bodyIsCut() {
        // A first block of 20 bytes, though the size is 16: the second cuts it.
        ObservedBlocks x = getting(0, false);
        bring(x, Checks.join(Checks.row(97, 69, 0, 1, 2, 209, 10, 8), Checks.payload(Checks.made(0, 20, 0))));
        c.dueSlot("20 bytes", x, 0, 1, 2, 1, 20, 0, 0, 0);
        int id = x.datagram(0, 3);
        x.lose(0);
        bring(x, 97, 69, 0, id, 2, 209, 10, 16, 255, 77);
        c.dueSlot("17 bytes", x, 0, 2, 2, 1, 17, 0, 0, 0);
        c.due("the last", x.body(0, 16), 77);
        c.due("the one before", x.body(0, 15), 75);

        // A first block of 3 bytes: the second goes behind it.
        x = getting(0, false);
        bring(x, 97, 69, 0, 1, 2, 209, 10, 8, 255, 1, 2, 3);
        id = x.datagram(0, 3);
        x.lose(0);
        bring(x, 97, 69, 0, id, 2, 209, 10, 16, 255, 77);
        c.dueSlot("4 bytes", x, 0, 2, 2, 1, 4, 0, 0, 0);
        c.due("the last", x.body(0, 3), 77);

        // Block 3 of 32 bytes would end behind 64, though the body is shorter; block 3 of 16 bytes ends there.
        for (int length : new int[] {16, 17}) {
            x = getting(0, false);
            for (int num = 0; num < 3; num++) {
                int answered = num == 0 ? 1 : x.datagram(0, 3);
                if (num > 0) {
                    x.lose(0);
                }
                bring(x, 97, 69, 0, answered, 2, 209, 10, 16 * num + 8, 255, 1);
            }
            id = x.datagram(0, 3);
            x.lose(0);
            bring(x, Checks.join(Checks.row(97, 69, 0, id, 2, 209, 10, 48), Checks.payload(Checks.made(0, length, 0))));
            if (length == 16) {
                c.dueSlot("at most 64", x, 0, 2, 2, 3, 19, 0, 0, 0);
            } else {
                c.dueSlot("more than 64", x, 0, 4, 2, 3, 3, 0, 0, 69);
            }
        }
    }

    private static void answersToPut() {
        for (int code : new int[] {1, 3, 69, 130, 132, 136, 141, 255}) {
            ObservedBlocks x = putting(1, 40);
            bring(x, 97, code, 0, 1, 2, 209, 10, 1);
            c.dueSlot("code " + code + " to a put", x, 0, 4, 2, 0, 40, 0, 0, code);
        }
        ObservedBlocks x = putting(1, 40);
        bring(x, 97, 68, 0, 1, 2, 209, 10, 1);
        c.dueSlot("68, though there is more", x, 0, 2, 2, 0, 40, 0, 0, 0);
        x = putting(1, 40);
        bring(x, 97, 95, 0, 1, 2, 209, 10, 1);
        c.dueSlot("95 without BLOCK1", x, 0, 1, 2, 1, 40, 0, 0, 0);
        int id = x.datagram(0, 3);
        c.dueDatagram("it asks on", x, 0, 1, Checks.join(Checks.row(65, 3, 0, id, 2, 177, 97, 209, 3, 17),
            Checks.payload(Checks.made(32, 40, 1))));
        x.lose(0);
        bring(x, 97, 95, 0, id, 2, 209, 10, 1);
        c.dueSlot("95 to the last block", x, 0, 4, 2, 1, 40, 0, 0, 95);
        x = putting(1, 32);
        bring(x, 97, 95, 0, 1, 2, 209, 10, 1);
        c.dueSlot("95 to the only block", x, 0, 4, 2, 0, 32, 0, 0, 95);
        x = putting(0, 0);
        bring(x, 97, 68, 0, 1, 2, 209, 10, 1);
        c.dueSlot("68", x, 0, 2, 2, 0, 0, 0, 0, 0);
    }

    private static void watching() {
        ObservedBlocks x = getting(1, false);
        bring(x, 97, 69, 0, 1, 2, 97, 7, 209, 4, 1, 255, 5);
        c.dueSlot("WATCH to a get that is not to watch", x, 0, 2, 2, 0, 1, 0, 0, 0);
        x = getting(1, true);
        bring(x, 97, 69, 0, 1, 2, 209, 10, 1, 255, 5);
        c.dueSlot("no WATCH", x, 0, 2, 2, 0, 1, 0, 0, 0);
        x = getting(1, true);
        bring(x, 97, 69, 0, 1, 2, 98, 255, 255, 209, 4, 1, 255, 5);
        c.dueSlot("WATCH 65535", x, 0, 2, 2, 0, 1, 1, 65535, 0);
        x = getting(1, true);
        bring(x, 97, 69, 0, 1, 2, 96, 209, 4, 1, 255, 5);
        c.dueSlot("WATCH 0", x, 0, 2, 2, 0, 1, 1, 0, 0);
        x = getting(1, true);
        bring(x, 97, 69, 0, 1, 2, 209, 10, 9, 255, 5);
        int id = x.datagram(0, 3);
        x.lose(0);
        bring(x, 97, 69, 0, id, 2, 97, 8, 209, 4, 17, 255, 5);
        c.dueSlot("WATCH in a later answer", x, 0, 2, 2, 1, 2, 1, 8, 0);
        x = getting(1, true);
        bring(x, 97, 132, 0, 1, 2, 97, 7, 209, 4, 1, 255, 5);
        c.dueSlot("WATCH with another code", x, 0, 4, 2, 0, 0, 0, 0, 132);
    }

    /** Slot 0 watches, with LAST, SZX 1 and a body of one byte. */
    private static ObservedBlocks watchingFrom(int last) {
        ObservedBlocks x = getting(1, true);
        if (last < 256) {
            bring(x, 97, 69, 0, 1, 2, 97, last, 209, 4, 1, 255, 5);
        } else {
            bring(x, 97, 69, 0, 1, 2, 98, last / 256, last % 256, 209, 4, 1, 255, 5);
        }
        return x;
    }

    /** Slot 0 watches with LAST 8 and a body of two bytes; nothing is under way. */
    private static ObservedBlocks newsTaken() {
        ObservedBlocks x = watchingFrom(7);
        bring(x, 65, 69, 1, 2, 2, 97, 8, 209, 4, 1, 255, 6, 7);
        x.lose(0);
        return x;
    }

    private static void news() {
        ObservedBlocks x = watchingFrom(7);
        bring(x, 65, 69, 1, 2, 2, 97, 8, 209, 4, 1, 255, 6, 7);
        c.dueSlot("news", x, 0, 2, 2, 0, 2, 1, 8, 0);
        c.dueDatagram("ACK", x, 0, 1, 96, 0, 1, 2);
        c.due("body", x.body(0, 1), 7);
        x.lose(0);
        int[][] rows = {
            {65, 69, 1, 2, 2, 209, 10, 1, 255, 9}, {65, 69, 1, 2, 2, 97, 9, 209, 8, 1, 255, 9}, {65, 69, 1, 2, 2, 97, 9, 209, 4, 8, 255, 9},
            {65, 69, 1, 2, 2, 97, 9, 209, 4, 17, 255, 9}, {65, 69, 1, 2, 2, 97, 8, 209, 4, 1, 255, 9}, {65, 69, 1, 2, 2, 97, 7, 209, 4, 1, 255, 9}};
        for (int[] row : rows) {
            x = newsTaken();
            bring(x, row);
            c.dueSlot("no news: no WATCH, no BLOCK2, another SZX, another NUM, the same number, one before", x, 0, 2, 2, 0, 2, 1, 8, 0);
            c.dueDatagram("but an ACK", x, 0, 1, 96, 0, 1, 2);
        }
        x = newsTaken();
        bring(x, 65, 69, 1, 2, 4, 97, 9, 209, 4, 1, 255, 9);
        c.dueSlot("another token", x, 0, 2, 2, 0, 2, 1, 8, 0);
        c.dueDatagram("RST", x, 0, 1, 112, 0, 1, 2);
        x.lose(0);
        int[][] ignored = {{65, 68, 1, 2, 2, 97, 9, 209, 4, 1, 255, 9}, {81, 69, 1, 2, 2, 97, 9, 209, 4, 1, 255, 9},
            {113, 69, 1, 2, 2, 97, 9, 209, 4, 1, 255, 9}, {97, 69, 1, 2, 2, 97, 9, 209, 4, 1, 255, 9}, {65, 1, 1, 2, 2, 97, 9, 209, 4, 1, 255, 9}};
        for (int[] row : ignored) {
            x = newsTaken();
            bring(x, row);
            c.dueSlot("all others are ignored", x, 0, 2, 2, 0, 2, 1, 8, 0);
            c.due("nothing is sent", x.waiting(), 0);
        }
        bring(x, 65, 69, 1, 2, 2, 97, 9, 209, 4, 9, 255, 9);
        c.dueSlot("MORE 1", x, 0, 1, 2, 1, 1, 1, 9, 0);
        c.due("ACK first", x.datagram(0, 0), 96);
        c.dueDatagram("then it asks", x, 1, 1, 65, 1, 0, x.datagram(1, 3), 2, 177, 97, 193, 17);
        x = getting(1, true);
        bring(x, 65, 69, 1, 2, 2, 97, 9, 209, 4, 1, 255, 9);
        c.due("it does not watch as yet: RST", x.datagram(0, 0), 112);
        c.due("it goes on asking", x.slot(0, 0), 1);
    }

    private static void newer() {
        int[][] cases = {{7, 8, 1}, {7, 7, 0}, {7, 6, 0}, {7, 32774, 1}, {7, 32775, 0}, {7, 65535, 0}, {65535, 1, 1}, {65535, 65534, 0},
            {65535, 32766, 1}, {65535, 32767, 0}, {32768, 65535, 1}, {32769, 1, 0}, {32770, 1, 1}};
        for (int[] one : cases) {
            ObservedBlocks x = watchingFrom(one[0]);
            int number = one[1];
            if (number < 256) {
                bring(x, 65, 69, 1, 2, 2, 97, number, 209, 4, 1, 255, 6, 7);
            } else {
                bring(x, 65, 69, 1, 2, 2, 98, number / 256, number % 256, 209, 4, 1, 255, 6, 7);
            }
            c.due("LAST of " + one[0] + " after " + number, x.slot(0, 5), one[2] == 1 ? number : one[0]);
            c.due("body", x.slot(0, 3), one[2] == 1 ? 2 : 1);
        }
    }

    private static void newsBreaksIn() {
        ObservedBlocks x = watchingFrom(7);
        bring(x, 65, 69, 1, 2, 2, 97, 9, 209, 4, 9, 255, 9);
        int id = x.datagram(1, 3);
        bring(x, 65, 69, 1, 3, 2, 97, 10, 209, 4, 1, 255, 4);
        c.dueSlot("done at once", x, 0, 2, 2, 0, 1, 1, 10, 0);
        c.due("ACK, request, ACK", x.waiting(), 3);
        Checks.ticks(x, 4);
        c.due("its request is pending no more", x.waiting(), 3);
        bring(x, 97, 69, 0, id, 2, 209, 10, 17, 255, 1);
        c.dueSlot("its answer is ignored", x, 0, 2, 2, 0, 1, 1, 10, 0);
    }

    private static void newsAfterTheEnd() {
        ObservedBlocks x = watchingFrom(7);
        bring(x, 65, 69, 1, 2, 2, 97, 9, 209, 4, 9, 255, 9);
        int id = x.datagram(1, 3);
        bring(x, 97, 130, 0, id, 2, 209, 10, 17, 255, 1);
        c.dueSlot("refused, but it watches", x, 0, 4, 2, 1, 1, 1, 9, 130);
        bring(x, 65, 69, 1, 3, 2, 97, 10, 209, 4, 1, 255, 4);
        c.dueSlot("done by news", x, 0, 2, 2, 0, 1, 1, 10, 0);
        bring(x, 65, 69, 1, 3, 2, 97, 11, 209, 4, 9, 255, 4);
        Checks.ticks(x, 60);
        c.dueSlot("failed, but it watches", x, 0, 3, 2, 1, 1, 1, 11, 0);
        bring(x, 65, 69, 1, 3, 2, 97, 12, 209, 4, 9, 255, 4);
        c.dueSlot("asking by news", x, 0, 1, 2, 1, 1, 1, 12, 0);
        x.free(0);
        x.get(0, 0, 0, true);
        int waiting = x.waiting();
        x.lose(waiting - 1);
        bring(x, 65, 69, 1, 3, 2, 97, 13, 209, 4, 9, 255, 4);
        c.due("the token before is nobody's", x.datagram(x.waiting() - 1, 0), 112);
    }

    private static void fullLine() {
        ObservedBlocks x = watchingFrom(7);
        x.change(0, 1, 1);
        x.get(1, 1, 0, true);
        x.deliver(0);
        x.deliver(0);
        x.change(1, 40, 1);
        for (int n = 0; n < 15; n++) {
            x.repeat(0);
        }
        c.due("full", x.waiting(), 16);
        c.due("the ACK has room", x.deliver(15), 16);
        c.due("the ACK", x.datagram(15, 0), 96);
        c.due("the request is lost but pending", x.slot(1, 0), 1);
        x.lose(0);
        Checks.ticks(x, 4);
        c.due("it is sent again", x.datagram(15, 4), x.slot(1, 1));
        c.due("to the server", x.datagram(15, -2), 1);
    }
}
