/** The boundary cases of what the document says of the line, of time, of IDs and of what is pending. */
public final class LineBoundariesTest {
    private static final Checks c = new Checks();

    public static void main(String[] args) {
        atMost16();
        orderOfSending();
        requestToAFullLine();
        tellingToAFullLine();
        answerToAFullLine();
        requestBehindAnAckToAFullLine();
        sendingAgainToAFullLine();
        repeatToAFullLine();
        timeAtFirst();
        nextIdAtFirst();
        whatTakesAnId();
        clientIdAfter65535();
        serverIdAfter65535();
        leftAndSpan();
        noRepeatsAtFirst();
        sameBytes();
        givenUpAfterThreeRepeats();
        pendingFromWhenItIsSent();
        call512();
        c.finish("LineBoundariesTest");
    }

    private static int idOf(ObservedBlocks x, int k) {
        return 256 * x.datagram(k, 2) + x.datagram(k, 3);
    }

    private static void atMost16() {
        c.says("THE LINE has at most 16 DATAGRAMS");
        ObservedBlocks x = new ObservedBlocks();
        x.get(0, 0, 0, false);
        for (int n = 2; n <= 16; n++) {
            c.due("repeat(0)", x.repeat(0), n);
        }
        c.due("the sixteenth is there", x.datagram(15, 4), 2);
        c.due("repeat(0)", x.repeat(0), 16);
        c.due("there is no seventeenth", x.datagram(16, -1), -1);
        x.lose(7);
        c.due("there is room again", x.repeat(0), 16);
    }

    private static void orderOfSending() {
        c.says("in the order in which they were SENT");
        ObservedBlocks x = new ObservedBlocks();
        for (int n = 0; n < 8; n++) {
            x.get(0, 0, 0, false);
            x.get(1, 0, 0, false);
            x.free(0);
            x.free(1);
        }
        for (int k = 0; k < 16; k++) {
            c.due("ID of datagram " + k, idOf(x, k), k + 1);
        }
        x.lose(0);
        x.lose(14);
        x.lose(6);
        x.get(0, 0, 0, false);
        int[] left = {2, 3, 4, 5, 6, 7, 9, 10, 11, 12, 13, 14, 15, 17};
        c.due("waiting()", x.waiting(), left.length);
        for (int k = 0; k < left.length; k++) {
            c.due("ID of datagram " + k, idOf(x, k), left[k]);
        }
    }

    private static void requestToAFullLine() {
        c.says("one that is sent when there are 16 is lost");
        ObservedBlocks x = new ObservedBlocks();
        x.get(0, 0, 0, false);
        Checks.fillLine(x);
        c.due("put(1, 2, 0, 1, 7) is not refused", x.put(1, 2, 0, 1, 7), 3);
        c.due("waiting()", x.waiting(), 16);
        c.due("the last is another's", x.datagram(15, 4), 2);
        c.due("slot 1 is asking", x.slot(1, 0), 1);
        x.free(0);
        c.due("get(0, 0, 0, false) is not refused", x.get(0, 0, 0, false), 4);
        x.free(0);
        x.lose(0);
        c.due("waiting()", x.waiting(), 15);
        Checks.ticks(x, 4);
        c.dueDatagram("the put is sent again", x, 15, 1, 65, 3, 0, 2, 3, 178, 99, 99, 208, 3, 255, 7);
        x.lose(0);
        x.get(0, 0, 0, false);
        c.due("a lost one had taken its ID", idOf(x, 15), 4);
    }

    private static void tellingToAFullLine() {
        c.says("one that is sent when there are 16 is lost");
        ObservedBlocks x = Checks.watched();
        x.get(1, 0, 0, true);
        Checks.deliverAll(x);
        x.free(1);
        x.get(1, 4, 0, false);
        Checks.fillLine(x);
        x.free(1);
        x.lose(0);
        c.due("change(0, 1, 9)", x.change(0, 1, 9), 0);
        c.due("waiting()", x.waiting(), 16);
        c.dueDatagram("the first watcher's", x, 15, 0, 65, 69, 0, 1, 2, 97, 3, 208, 4, 255, 9);
        c.due("SEEN grew for both", x.server(2), 4);
        x.lose(0);
        x.lose(0);
        Checks.ticks(x, 4);
        c.due("both are pending", x.waiting(), 16);
        c.dueDatagram("the second watcher's", x, 15, 0, 65, 69, 0, 2, 3, 97, 4, 208, 4, 255, 9);
    }

    private static void answerToAFullLine() {
        c.says("one that is sent when there are 16 is lost");
        ObservedBlocks x = Checks.watched();
        x.put(1, 0, 0, 1, 9);
        Checks.fillLine(x);
        c.due("told, and the answer is lost", x.deliver(0), 16);
        c.dueDatagram("told", x, 15, 0, 65, 69, 0, 1, 2, 97, 2, 208, 4, 255, 9);
        c.due("the content changed", x.content(0, 0), 9);
        c.due("the answer is in the memory", x.deliver(0), 16);
        c.dueDatagram("answered", x, 15, 0, 97, 68, 0, 2, 3, 208, 14);
        c.due("handled", x.server(0), 2);
    }

    private static void requestBehindAnAckToAFullLine() {
        c.says("one that is sent when there are 16 is lost");
        ObservedBlocks x = Checks.watched();
        x.change(0, 17, 1);
        Checks.fillLine(x);
        c.due("the ACK has the place of what came", x.deliver(15), 16);
        c.dueDatagram("ACK", x, 15, 1, 96, 0, 0, 1);
        c.dueSlot("the request is lost", x, 0, 1, 2, 1, 16, 1, 2, 0);
        x.lose(0);
        x.lose(0);
        Checks.ticks(x, 4);
        c.dueDatagram("but sent again", x, 14, 1, 65, 1, 0, 2, 2, 177, 97, 193, 16);
    }

    private static void sendingAgainToAFullLine() {
        c.says("one that is sent when there are 16 is lost");
        ObservedBlocks x = new ObservedBlocks();
        x.get(0, 0, 0, false);
        Checks.fillLine(x);
        Checks.ticks(x, 28);
        c.due("waiting()", x.waiting(), 16);
        Checks.emptyLine(x);
        Checks.ticks(x, 31);
        c.due("the lost repeats count: none more", x.waiting(), 0);
        c.due("at 59", x.slot(0, 0), 1);
        x.tick();
        c.due("at 60", x.slot(0, 0), 3);
    }

    private static void repeatToAFullLine() {
        c.says("one that is sent when there are 16 is lost");
        int[] after = Checks.picture(() -> {
            ObservedBlocks x = fullLine();
            c.due("repeat(1)", x.repeat(1), 16);
            c.due("repeat(15)", x.repeat(15), 16);
            return x;
        });
        c.dueRow("all that can be seen", after, Checks.picture(LineBoundariesTest::fullLine));
    }

    private static ObservedBlocks fullLine() {
        ObservedBlocks x = new ObservedBlocks();
        x.get(0, 0, 0, false);
        x.get(1, 2, 0, false);
        Checks.fillLine(x);
        return x;
    }

    private static void timeAtFirst() {
        c.says("TIME is 0 at first");
        c.due("the first tick()", new ObservedBlocks().tick(), 1);
    }

    private static void nextIdAtFirst() {
        c.says("Client and server each have a NEXT ID, 1 at first");
        ObservedBlocks x = new ObservedBlocks();
        x.get(0, 0, 0, true);
        c.due("the client's", idOf(x, 0), 1);
        Checks.deliverAll(x);
        x.change(0, 1, 1);
        c.due("the server's", idOf(x, 0), 1);
        x.get(1, 0, 0, false);
        c.due("the client's second", idOf(x, 1), 2);
        Checks.deliverAll(x);
        x.change(0, 2, 1);
        c.due("the server's second", idOf(x, 0), 2);
    }

    private static void whatTakesAnId() {
        c.says("that a new message of type CON takes and that grows by 1");
        ObservedBlocks x = Checks.watched();
        x.change(0, 1, 1);
        Checks.deliverAll(x);
        x.get(1, 0, 0, false);
        c.due("an ACK of the client takes none", idOf(x, 0), 2);
        Checks.ticks(x, 4);
        c.due("what is sent again has its own", idOf(x, 1), 2);
        x.repeat(0);
        x.free(1);
        c.due("get(0, ..) of a slot not free", x.get(0, 0, 0, false), -2);
        c.due("get(2, ..)", x.get(2, 0, 0, false), -1);
        x.get(1, 0, 0, false);
        c.due("none of these takes one", idOf(x, 3), 3);
        Checks.deliverAll(x);
        x.change(0, 2, 1);
        c.due("an ACK of the server takes none", idOf(x, 0), 2);
        x.change(0, 3, 1);
        x.change(0, 4, 1);
        Checks.deliverAll(x);
        x.change(0, 5, 1);
        c.due("a watcher that is only CHANGED takes none until it is told", idOf(x, 0), 4);
    }

    /**
     * What calls after the 512th answer is free, and no object comes to the end of its IDs before. These two tests hold
     * the program to the wrap-around all the same, since it is the only way to see it.
     */
    private static void clientIdAfter65535() {
        c.says("(to 0 after 65535)");
        ObservedBlocks x = new ObservedBlocks();
        for (int n = 1; n <= 65537; n++) {
            x.get(0, 0, 0, false);
            c.due("the client's ID " + n, idOf(x, 0), n % 65536);
            x.lose(0);
            x.free(0);
        }
    }

    private static void serverIdAfter65535() {
        c.says("(to 0 after 65535)");
        ObservedBlocks x = Checks.watched();
        for (int n = 1; n <= 65540; n++) {
            int seen = (n + 1) % 65536;
            x.change(0, 0, 0);
            c.due("the server's ID " + n, idOf(x, 0), n % 65536);
            c.due("SEEN", x.server(2), seen);
            if (seen == 0) {
                c.dueDatagram("SEEN 0", x, 0, 0, 65, 69, 255, 255, 2, 96, 208, 4);
            } else if (seen < 256) {
                c.dueDatagram("SEEN in one byte", x, 0, 0, 65, 69, n / 256 % 256, n % 256, 2, 97, seen, 208, 4);
            } else {
                c.dueDatagram("SEEN in two bytes", x, 0, 0, 65, 69, n / 256, n % 256, 2, 98, seen / 256, seen % 256, 208, 4);
            }
            x.deliver(0);
            c.due("LAST", x.slot(0, 5), seen);
            x.deliver(0);
        }
        x.get(1, 0, 0, true);
        Checks.deliverAll(x);
        c.due("a new watcher goes on from there", x.slot(1, 5), 6);
    }

    private static void leftAndSpan() {
        c.says("PENDING with 4 ticks LEFT, of a SPAN of 4, with no REPEATS; in each tick its LEFT falls by 1 .. "
            + "SPAN is doubled, and LEFT becomes SPAN");
        ObservedBlocks client = new ObservedBlocks();
        client.get(0, 0, 0, false);
        ObservedBlocks server = Checks.watched();
        server.change(0, 1, 1);
        for (int t = 1; t <= 70; t++) {
            c.due("tick()", client.tick(), t);
            server.tick();
            int sent = 1 + (t >= 4 ? 1 : 0) + (t >= 12 ? 1 : 0) + (t >= 28 ? 1 : 0);
            c.due("a request at " + t, client.waiting(), sent);
            c.due("what a watcher is told at " + t, server.waiting(), sent);
        }
    }

    private static void noRepeatsAtFirst() {
        c.says("PENDING with 4 ticks LEFT, of a SPAN of 4, with no REPEATS");
        ObservedBlocks x = Checks.watched();
        x.get(1, 0, 0, false);
        x.change(0, 17, 1);
        Checks.ticks(x, 30);
        // Both have been sent three times more; slot 1 and the watcher send a new one each.
        x.free(1);
        x.get(1, 0, 0, false);
        x.change(0, 18, 1);
        x.deliver(1);
        x.free(0);
        x.deliver(x.waiting() - 2);
        Checks.emptyLine(x);
        int[] again = {4, 12, 28};
        for (int t = 1; t <= 59; t++) {
            x.tick();
            int sent = 0;
            for (int when : again) {
                sent += t >= when ? 2 : 0;
            }
            c.due("sent again at " + t, x.waiting(), sent);
        }
        c.due("the slot at 59", x.slot(1, 0), 1);
        c.due("the watchers at 59", x.server(1), 1);
        x.tick();
        c.due("the slot at 60", x.slot(1, 0), 3);
        c.due("the watchers at 60", x.server(1), 0);
    }

    private static void sameBytes() {
        c.says("otherwise it is sent again (the same bytes)");
        ObservedBlocks x = Checks.watched();
        x.put(1, 3, 1, 80, 9);
        x.change(0, 40, 3);
        int[] put = Checks.rowOf(x, 0);
        int[] told = Checks.rowOf(x, 1);
        x.spoil(0, 9, 255);
        x.spoil(1, 9, 255);
        // What comes later is not in what is sent again.
        x.change(0, 7, 7);
        Checks.ticks(x, 28);
        c.due("both three times more", x.waiting(), 8);
        for (int k = 2; k < 8; k += 2) {
            c.dueDatagram("the put", x, k, 1, put);
            c.dueDatagram("what is told", x, k + 1, 0, told);
        }
    }

    private static void givenUpAfterThreeRepeats() {
        c.says("and when it is 0: with 3 repeats it is GIVEN UP");
        ObservedBlocks x = Checks.watched();
        x.put(1, 0, 0, 1, 1);
        x.change(0, 1, 1);
        Checks.ticks(x, 59);
        c.due("at 59 the slot", x.slot(1, 0), 1);
        c.due("at 59 the watchers", x.server(1), 1);
        x.tick();
        c.due("at 60 the slot", x.slot(1, 0), 3);
        c.due("at 60 the watchers", x.server(1), 0);
        c.due("three repeats each", x.waiting(), 8);
        ObservedBlocks y = new ObservedBlocks();
        y.get(0, 0, 0, false);
        Checks.ticks(y, 59);
        y.deliver(3);
        y.deliver(3);
        c.due("an answer at 59 is in time", y.slot(0, 0), 2);
        ObservedBlocks z = new ObservedBlocks();
        z.get(0, 0, 0, false);
        Checks.ticks(z, 60);
        z.deliver(3);
        z.deliver(3);
        c.due("an answer at 60 is not", z.slot(0, 0), 3);
    }

    private static void pendingFromWhenItIsSent() {
        c.says("A CON that an end sends is PENDING with 4 ticks LEFT");
        ObservedBlocks x = new ObservedBlocks();
        x.change(0, 17, 1);
        Checks.ticks(x, 3);
        x.get(0, 0, 0, true);
        Checks.ticks(x, 3);
        c.due("not yet", x.waiting(), 1);
        x.deliver(0);
        x.deliver(0);
        c.due("the next request", x.waiting(), 1);
        Checks.ticks(x, 3);
        c.due("its 4 ticks are its own", x.waiting(), 1);
        x.tick();
        c.due("sent again", x.waiting(), 2);
        Checks.deliverAll(x);
        x.change(0, 1, 1);
        Checks.ticks(x, 3);
        c.due("told, not yet again", x.waiting(), 1);
        x.tick();
        c.due("told again", x.waiting(), 2);
    }

    private static void call512() {
        c.says("An object is used for at most 512 calls after it has been made");
        ObservedBlocks x = new ObservedBlocks();
        for (int n = 1; n <= 512; n++) {
            c.due("call " + n + ", tick()", x.tick(), n);
        }
        ObservedBlocks y = new ObservedBlocks();
        for (int n = 1; n <= 170; n++) {
            c.due("use " + n, y.get(1, 0, 0, false), (2 * n + 1) % 256);
            c.due("lose", y.lose(0), 0);
            c.due("free", y.free(1), 0);
        }
        c.due("call 511", y.get(1, 0, 0, false), (2 * 171 + 1) % 256);
        c.due("call 512", y.deliver(0), 1);
    }
}
