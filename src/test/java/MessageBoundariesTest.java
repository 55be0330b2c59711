/** The boundary cases of what the document says of resources, paths and messages, a test for each sentence. */
public final class MessageBoundariesTest {
    private static final Checks c = new Checks();
    /** A get of path a up to its path, and the same up to its token; a put likewise. */
    private static final int[] GET_A = {65, 1, 0, 77, 9, 177, 97};
    private static final int[] GET = {65, 1, 0, 77, 9};
    private static final int[] PUT_A = {65, 3, 0, 77, 9, 177, 97};

    public static void main(String[] args) {
        pathsOfResources();
        pathWithoutResource();
        contentAtFirstNone();
        contentFrom0To64();
        partAtFirstNone();
        partFrom0To64();
        firstByte();
        idOfTwoBytes();
        codeZeroHasNoToken();
        payloadOrNone();
        valuesOf0To12Bytes();
        orderOfOptions();
        stepsBelow13();
        stepsFrom13On();
        numbersInFewBytes();
        numberZeroInNone();
        moreIs0Or1();
        sizes();
        anyCode();
        anyType();
        fourNumbersAlone();
        risingOrder();
        severalOnlyOfNumber11();
        atMostTwoSegments();
        watchAtMost65535();
        blocksAtMost1023();
        blocksWithSzx0Or1();
        numbersWithMoreBytesThanTheyNeed();
        payloadAtMost32();
        payloadMarkAlone();
        rowsThatEndTooSoon();
        c.finish("MessageBoundariesTest");
    }

    /** The code of the answer to a row that comes to the server, or 0 when it is ignored. */
    private static int answered(int... row) {
        ObservedBlocks x = new ObservedBlocks();
        Checks.bringToServer(x, row);
        return x.waiting() == 0 ? 0 : x.datagram(0, 1);
    }

    private static void dueAnswer(String what, int want, int... row) {
        c.due(what, answered(row), want);
    }

    /** REASON of slot 0, which gets path a with SZX 1 (ID 1, token 2), after a row; -1 while it asks on. */
    private static int refused(int... row) {
        ObservedBlocks x = new ObservedBlocks();
        x.get(0, 0, 1, true);
        Checks.bringToClient(x, 300, row);
        return x.slot(0, 0) == 1 ? -1 : x.slot(0, 6);
    }

    private static int[] around(int[] head, int[] value, int... rest) {
        return Checks.join(Checks.join(head, value), rest);
    }

    private static void pathsOfResources() {
        c.says("RESOURCES 0 .. 3 lie at the server under the PATHS a; a, b; cc; cc, d");
        for (int path = 0; path < 4; path++) {
            ObservedBlocks x = new ObservedBlocks();
            x.put(0, path, 0, 5, 1);
            Checks.deliverAll(x);
            for (int r = 0; r < 4; r++) {
                c.due("content " + r + " after a put under path " + path, x.content(r, -1), r == path ? 5 : 0);
            }
        }
        dueAnswer("no segment", 132, Checks.join(GET, 208, 10, 255, 1));
        dueAnswer("a, d", 132, Checks.join(GET, 177, 97, 1, 100, 192));
        dueAnswer("cc, b", 132, Checks.join(GET, 178, 99, 99, 1, 98, 192));
        dueAnswer("a alone is not a and an empty one", 132, Checks.join(GET, 177, 97, 0, 192));
        dueAnswer("c", 132, Checks.join(GET, 177, 99, 192));
        dueAnswer("ccc", 132, Checks.join(GET, 179, 99, 99, 99, 192));
        dueAnswer("aa", 132, Checks.join(GET, 178, 97, 97, 192));
        dueAnswer("A", 132, Checks.join(GET, 177, 65, 192));
    }

    private static void pathWithoutResource() {
        c.says("Path 4 is x, under which there is none");
        ObservedBlocks x = new ObservedBlocks();
        x.get(0, 4, 0, true);
        x.put(1, 4, 1, 33, 1);
        c.dueDatagram("the get", x, 0, 1, 65, 1, 0, 1, 2, 96, 81, 120, 192);
        x.deliver(0);
        x.deliver(0);
        c.dueDatagram("answer to the get", x, 0, 0, 97, 132, 0, 1, 2);
        c.dueDatagram("answer to the put", x, 1, 0, 97, 132, 0, 2, 3);
        Checks.deliverAll(x);
        c.dueSlot("the get is refused", x, 0, 4, 2, 0, 0, 0, 0, 132);
        c.dueSlot("the put is refused", x, 1, 4, 3, 0, 33, 0, 0, 132);
        c.dueServer("no watcher, no part", x, 2, 0, 0, 0);
    }

    private static void contentAtFirstNone() {
        c.says("A resource has a CONTENT of 0 .. 64 bytes, at first none");
        ObservedBlocks x = new ObservedBlocks();
        for (int r = 0; r < 4; r++) {
            c.due("length of content " + r, x.content(r, -1), 0);
            c.due("byte 0 of content " + r, x.content(r, 0), -1);
        }
    }

    private static void contentFrom0To64() {
        c.says("A resource has a CONTENT of 0 .. 64 bytes");
        ObservedBlocks x = new ObservedBlocks();
        c.due("change(3, 64, 1)", x.change(3, 64, 1), 0);
        c.due("byte 63", x.content(3, 63), 60);
        c.due("byte 64", x.content(3, 64), -1);
        c.due("change(3, 0, 1)", x.change(3, 0, 1), 0);
        c.due("byte 0", x.content(3, 0), -1);
        x.put(0, 3, 0, 64, 2);
        Checks.deliverAll(x);
        c.due("64 bytes by a put", x.content(3, -1), 64);
        c.due("byte 63", x.content(3, 63), 61);
        x.free(0);
        x.put(0, 3, 0, 65, 3);
        Checks.deliverAll(x);
        c.dueSlot("65 bytes by a put", x, 0, 4, 4, 4, 65, 0, 0, 141);
        c.due("the content stays", x.content(3, 63), 61);
    }

    private static void partAtFirstNone() {
        c.says("and a PART, likewise, at first none");
        ObservedBlocks x = new ObservedBlocks();
        c.due("server(3)", x.server(3), 0);
        dueAnswer("block 1 of a put comes first", 136, Checks.join(PUT_A, 209, 3, 16));
        dueAnswer("block 0 of a put comes first", 95, Checks.join(PUT_A, 209, 3, 8));
    }

    private static void partFrom0To64() {
        c.says("and a PART, likewise [0 .. 64 bytes]");
        ObservedBlocks x = new ObservedBlocks();
        x.put(0, 0, 1, 80, 1);
        x.deliver(0);
        c.due("32 bytes", x.server(3), 32);
        x.deliver(0);
        x.deliver(0);
        c.due("64 bytes", x.server(3), 64);
        x.deliver(0);
        x.deliver(0);
        c.due("80 bytes are too many", x.server(3), 0);
    }

    private static void firstByte() {
        c.says("64 + 16 * type + (0 for the code 0, otherwise 1)");
        ObservedBlocks x = new ObservedBlocks();
        x.get(0, 0, 0, true);
        c.due("CON with a code", x.datagram(0, 0), 65);
        x.deliver(0);
        c.due("ACK with a code", x.datagram(0, 0), 97);
        x.deliver(0);
        x.change(0, 1, 1);
        x.repeat(0);
        x.deliver(0);
        c.due("ACK with code 0", x.datagram(1, 0), 96);
        x.free(0);
        x.deliver(0);
        c.due("RST with code 0", x.datagram(1, 0), 112);
        for (int first = 0; first < 256; first++) {
            dueAnswer("first byte " + first + " with code 1", first == 65 ? 69 : 0, first, 1, 0, 77, 9, 177, 97, 192);
        }
        for (int first : new int[] {63, 64, 66, 80, 81, 95, 96, 98, 112, 113, 225}) {
            c.due("first byte " + first + " of an answer", refused(first, 130, 0, 1, 2, 209, 10, 1), -1);
        }
        c.due("first byte 97 of an answer", refused(97, 130, 0, 1, 2, 209, 10, 1), 130);
    }

    private static void idOfTwoBytes() {
        c.says("the ID, its higher byte first");
        for (int[] id : new int[][] {{0, 0}, {0, 255}, {1, 0}, {18, 52}, {255, 255}}) {
            ObservedBlocks x = new ObservedBlocks();
            Checks.bringToServer(x, 65, 1, id[0], id[1], 9, 177, 97, 192);
            c.dueDatagram("answer", x, 0, 0, 97, 69, id[0], id[1], 9, 208, 10);
        }
    }

    private static void codeZeroHasNoToken() {
        c.says("when the code is not 0 also a TOKEN (a byte), OPTIONS and a PAYLOAD");
        ObservedBlocks x = new ObservedBlocks();
        Checks.bringToClient(x, 300, 65, 69, 0, 9, 99, 209, 10, 1);
        c.due("bytes of an RST", x.datagram(0, -1), 4);
        c.due("code 0 and a token is no message", refused(96, 0, 0, 1, 2, 209, 10, 1), -1);
        for (int first : new int[] {96, 97, 112, 113}) {
            ObservedBlocks y = Checks.watched();
            y.change(0, 1, 1);
            // The ID is that of what the watcher was told.
            Checks.bringToServer(y, first, 0, 0, 1, 2, 177, 97, 192);
            c.due("nor is it for the server: watchers", y.server(1), 1);
            Checks.ticks(y, 4);
            c.due("nor is it for the server: what is pending goes on", y.waiting(), 2);
        }
        for (int token : new int[] {0, 1, 255}) {
            ObservedBlocks y = new ObservedBlocks();
            Checks.bringToServer(y, 65, 1, 0, 77, token, 177, 97, 192);
            c.due("token " + token + " comes back", y.datagram(0, 4), token);
        }
    }

    private static void payloadOrNone() {
        c.says("when there is a payload, 255 and the payload");
        ObservedBlocks x = new ObservedBlocks();
        x.put(0, 0, 0, 0, 9);
        c.dueDatagram("a put of none", x, 0, 1, 65, 3, 0, 1, 2, 177, 97, 208, 3);
        x.put(1, 0, 0, 1, 9);
        c.dueDatagram("a put of one", x, 1, 1, 65, 3, 0, 2, 3, 177, 97, 208, 3, 255, 9);
        x.free(1);
        x.deliver(0);
        Checks.bringToServer(x, Checks.join(GET_A, 192));
        c.dueDatagram("a content of none", x, 2, 0, 97, 69, 0, 77, 9, 208, 10);
        x.deliver(0);
        Checks.bringToServer(x, 65, 1, 0, 78, 9, 177, 97, 192);
        c.dueDatagram("a content of one", x, x.waiting() - 1, 0, 97, 69, 0, 78, 9, 208, 10, 255, 9);
        dueAnswer("a payload that begins with 255", 68, Checks.join(PUT_A, 208, 3, 255, 255));
    }

    private static void valuesOf0To12Bytes() {
        c.says("The options have NUMBERS and VALUES of 0 .. 12 bytes");
        dueAnswer("a segment of 0", 132, Checks.join(GET, 176, 193, 1));
        for (int n = 2; n <= 15; n++) {
            dueAnswer("a segment of " + n, n <= 12 ? 132 : 0, around(Checks.join(GET, 176 + n), new int[n], 192));
            dueAnswer("a second segment of " + n, n <= 12 ? 132 : 0, around(Checks.join(GET_A, n), new int[n], 192));
        }
        for (int n = 13; n <= 15; n++) {
            dueAnswer("a second segment of " + n + " that would be none", 0, Checks.join(GET_A, n, 192));
        }
    }

    private static void orderOfOptions() {
        c.says("in this order: WATCH (number 6), one for each segment of the path (number 11; a character a byte), "
            + "BLOCK2 (23), BLOCK1 (27)");
        ObservedBlocks x = new ObservedBlocks();
        x.get(0, 3, 1, true);
        c.dueDatagram("WATCH, path, BLOCK2", x, 0, 1, 65, 1, 0, 1, 2, 96, 82, 99, 99, 1, 100, 193, 1);
        x.put(1, 3, 1, 1, 7);
        c.dueDatagram("path, BLOCK1", x, 1, 1, 65, 3, 0, 2, 3, 178, 99, 99, 1, 100, 209, 3, 1, 255, 7);
        x.deliver(0);
        c.dueDatagram("WATCH, BLOCK2", x, 1, 0, 97, 69, 0, 1, 2, 97, 1, 209, 4, 1);
        dueAnswer("all of them", 69, Checks.join(GET, 96, 81, 97, 1, 98, 192, 64));
    }

    private static void stepsBelow13() {
        c.says("An option is written: 16 * d + n, d being its number less that of the option before (0 for the first)");
        dueAnswer("6, then 5 more", 69, Checks.join(GET, 96, 81, 97, 192));
        dueAnswer("6, then 11 more", 0, Checks.join(GET, 96, 177, 97, 192));
        dueAnswer("11, then 0 more", 132, Checks.join(GET, 177, 97, 1, 120, 192));
        dueAnswer("11, then 12 more", 69, Checks.join(GET, 177, 97, 192));
        dueAnswer("23, then 4 more", 69, Checks.join(GET, 177, 97, 192, 64));
        dueAnswer("23, then 3 more", 0, Checks.join(GET, 177, 97, 192, 48));
        dueAnswer("12 more in the longer form", 0, Checks.join(GET, 177, 97, 208, 255));
    }

    private static void stepsFrom13On() {
        c.says("but for d from 13 on 13 * 16 + n and then d - 13; then the value");
        ObservedBlocks x = new ObservedBlocks();
        x.put(0, 0, 1, 0, 0);
        c.dueDatagram("11, then 16 more", x, 0, 1, 65, 3, 0, 1, 2, 177, 97, 209, 3, 1);
        x.deliver(0);
        c.dueDatagram("27 at once", x, 0, 0, 97, 68, 0, 1, 2, 209, 14, 1);
        x.get(1, 0, 1, false);
        x.deliver(1);
        c.dueDatagram("23 at once", x, 1, 0, 97, 69, 0, 2, 3, 209, 10, 1);
        x.free(1);
        x.get(1, 0, 1, true);
        x.deliver(2);
        c.dueDatagram("6, then 17 more", x, 2, 0, 97, 69, 0, 3, 5, 97, 1, 209, 4, 1);
        c.due("6, then 21 more", refused(97, 130, 0, 1, 2, 96, 209, 8, 1, 255, 0), 130);
        c.due("6, then 22 more", refused(97, 130, 0, 1, 2, 96, 209, 9, 1, 255, 0), -1);
        c.due("13 at once", refused(97, 130, 0, 1, 2, 209, 0, 1), -1);
        c.due("268 at once", refused(97, 130, 0, 1, 2, 209, 255, 1), -1);
        c.due("27 at once", refused(97, 130, 0, 1, 2, 209, 14, 1), 130);
        c.due("14 * 16 is no step", refused(97, 130, 0, 1, 2, 225, 9, 1), -1);
        c.due("15 * 16 is no step", refused(97, 130, 0, 1, 2, 241, 8, 1), -1);
        dueAnswer("14 * 16 behind the path", 0, Checks.join(GET_A, 224, 192));
        dueAnswer("15 * 16 behind the path", 0, Checks.join(GET_A, 240, 192));
    }

    private static void numbersInFewBytes() {
        c.says("A value that is a number is written with as few bytes as it needs, the highest first");
        int[][] blocks = {{1, 1}, {249, 1}, {256, 2}, {257, 2}, {1017, 2}};
        for (int[] block : blocks) {
            ObservedBlocks x = new ObservedBlocks();
            int low = block[0] % 256;
            int high = block[0] / 256;
            // Another NUM than 0 is out of step, and NUM 0 is not.
            int code = block[0] == 1 ? 68 : 136;
            if (block[1] == 1) {
                Checks.bringToServer(x, Checks.join(PUT_A, 209, 3, low));
                c.dueDatagram("BLOCK1 " + block[0], x, 0, 0, 97, code, 0, 77, 9, 209, 14, low);
            } else {
                Checks.bringToServer(x, Checks.join(PUT_A, 210, 3, high, low));
                c.dueDatagram("BLOCK1 " + block[0], x, 0, 0, 97, code, 0, 77, 9, 210, 14, high, low);
            }
        }
    }

    private static void numberZeroInNone() {
        c.says("(0 with none)");
        ObservedBlocks x = new ObservedBlocks();
        x.get(0, 0, 0, true);
        c.dueDatagram("WATCH 0 and BLOCK2 0", x, 0, 1, 65, 1, 0, 1, 2, 96, 81, 97, 192);
        x.put(1, 0, 0, 0, 0);
        c.dueDatagram("BLOCK1 0", x, 1, 1, 65, 3, 0, 2, 3, 177, 97, 208, 3);
        dueAnswer("WATCH 0 in a byte", 0, Checks.join(GET, 97, 0, 81, 97, 192));
        dueAnswer("BLOCK2 0 in a byte", 0, Checks.join(GET_A, 193, 0));
        dueAnswer("BLOCK1 0 in a byte", 0, Checks.join(PUT_A, 209, 3, 0));
    }

    private static void moreIs0Or1() {
        c.says("A block option is the number 16 * NUM + 8 * MORE + SZX, MORE being 0 or 1, SZX 0 or 1");
        ObservedBlocks x = new ObservedBlocks();
        x.change(0, 64, 1);
        int[][] blocks = {{0, 8}, {1, 9}, {16, 24}, {17, 17}, {32, 40}, {48, 48}};
        for (int i = 0; i < blocks.length; i++) {
            if (blocks[i][0] == 0) {
                Checks.bringToServer(x, 65, 1, 0, 77 + i, 9, 177, 97, 192);
            } else {
                Checks.bringToServer(x, 65, 1, 0, 77 + i, 9, 177, 97, 193, blocks[i][0]);
            }
            c.due("the block that answers " + blocks[i][0], x.datagram(i, 7), blocks[i][1]);
        }
    }

    private static void sizes() {
        c.says("the SIZE of its blocks is 16 for SZX 0 and 32 for 1");
        ObservedBlocks x = new ObservedBlocks();
        x.change(0, 64, 1);
        x.get(0, 0, 0, false);
        x.get(1, 0, 1, false);
        x.deliver(0);
        x.deliver(0);
        c.due("bytes of a row with 16", x.datagram(0, -1), 5 + 3 + 1 + 16);
        c.due("bytes of a row with 32", x.datagram(1, -1), 5 + 3 + 1 + 32);
        Checks.deliverAll(x);
        c.due("NUM of the last of 16", x.slot(0, 2), 3);
        c.due("NUM of the last of 32", x.slot(1, 2), 1);
    }

    private static void anyCode() {
        c.says("a message when it is one as written here, with any type 0 .. 3, any code");
        for (int code = 1; code < 256; code++) {
            if (code != 69) {
                c.due("an ACK with code " + code, refused(97, code, 0, 1, 2, 209, 10, 1), code);
            }
        }
        for (int code = 0; code < 256; code++) {
            int want = code == 1 ? 69 : code == 3 ? 130 : 0;
            dueAnswer("a CON with code " + code, want, 65, code, 0, 77, 9, 177, 97, 192);
        }
    }

    private static void anyType() {
        c.says("with any type 0 .. 3");
        // Of the empty messages only ACK and RST mean something to the server, types 0 and 1 do not.
        for (int type = 0; type < 4; type++) {
            ObservedBlocks x = Checks.watched();
            x.change(0, 1, 1);
            x.change(0, 2, 1);
            x.deliver(0);
            x.spoil(0, 0, 96 ^ (64 + 16 * type));
            c.due("what an empty message of type " + type + " leaves", x.deliver(0), type == 2 ? 1 : 0);
            c.due("watchers after type " + type, x.server(1), type == 3 ? 0 : 1);
        }
        for (int first : new int[] {32, 48, 97, 113, 224, 240}) {
            ObservedBlocks x = Checks.watched();
            x.change(0, 1, 1);
            x.change(0, 2, 1);
            x.deliver(0);
            x.spoil(0, 0, 96 ^ first);
            c.due("four bytes, the first " + first, x.deliver(0), 0);
            c.due("watchers", x.server(1), 1);
        }
    }

    private static void fourNumbersAlone() {
        c.says("the four option numbers alone");
        for (int number = 1; number <= 40; number++) {
            int[] row = number < 13
                ? Checks.row(97, 130, 0, 1, 2, 16 * number + 2, 1, 1)
                : Checks.row(97, 130, 0, 1, 2, 209, number - 13, 1);
            // A block of 257 is one with SZX 1, so each of the four can have that value.
            boolean known = number == 6 || number == 11 || number == 23 || number == 27;
            c.due("an option of number " + number, refused(row), known ? 130 : -1);
        }
        c.due("number 0", refused(97, 130, 0, 1, 2, 2, 1, 1), -1);
    }

    private static void risingOrder() {
        c.says("their d and the options in rising order");
        // A d cannot be below 0, but it can lead past the highest number and, if it were kept in a byte, round to a low one.
        dueAnswer("BLOCK2, then 239 more", 0, Checks.join(GET_A, 192, 208, 226));
        dueAnswer("BLOCK2, then 244 more", 0, Checks.join(GET_A, 192, 209, 231, 97));
        dueAnswer("the path, then 251 more", 0, Checks.join(GET_A, 208, 238, 208, 4));
        dueAnswer("the path, WATCH in its stead behind it", 0, Checks.join(GET_A, 96, 208, 4));
    }

    private static void severalOnlyOfNumber11() {
        c.says("several only of number 11");
        dueAnswer("WATCH twice", 0, Checks.join(GET, 96, 0, 81, 97, 192));
        dueAnswer("BLOCK2 twice", 0, Checks.join(GET_A, 192, 0));
        dueAnswer("BLOCK1 twice", 0, Checks.join(PUT_A, 208, 3, 0));
        dueAnswer("a segment twice", 132, Checks.join(GET_A, 1, 97, 192));
        dueAnswer("number 0 alone", 0, Checks.join(GET, 0, 177, 97, 192));
    }

    private static void atMostTwoSegments() {
        c.says("(several only of number 11, at most two)");
        dueAnswer("none", 132, Checks.join(GET, 208, 10, 255, 1));
        dueAnswer("one", 69, Checks.join(GET, 177, 97, 192));
        dueAnswer("two", 69, Checks.join(GET, 177, 97, 1, 98, 192));
        dueAnswer("three", 0, Checks.join(GET, 177, 97, 1, 98, 1, 99, 192));
        dueAnswer("three, the third empty", 0, Checks.join(GET, 177, 97, 1, 98, 0, 192));
        dueAnswer("three empty ones", 0, Checks.join(GET, 176, 0, 0, 192));
        dueAnswer("WATCH, three, BLOCK2 and BLOCK1", 0, Checks.join(GET, 96, 81, 97, 1, 98, 0, 192, 64));
        dueAnswer("four", 0, Checks.join(GET, 177, 97, 1, 98, 1, 99, 0, 192));
    }

    private static void watchAtMost65535() {
        c.says("WATCH at most 65535");
        int[] rest = {81, 97, 192};
        dueAnswer("65535", 69, around(GET, Checks.row(98, 255, 255), rest));
        dueAnswer("65536", 0, around(GET, Checks.row(99, 1, 0, 0), rest));
        dueAnswer("65537", 0, around(GET, Checks.row(99, 1, 0, 1), rest));
        dueAnswer("256 * 65536 * 65536", 0, around(GET, Checks.row(101, 1, 0, 0, 0, 0), rest));
        dueAnswer("2 to the 88th", 0, around(Checks.join(GET, 108, 1), new int[11], rest));
        c.due("65535 at the client", refused(97, 130, 0, 1, 2, 98, 255, 255, 255, 0), 130);
        c.due("65536 at the client", refused(97, 130, 0, 1, 2, 99, 1, 0, 0, 255, 0), -1);
    }

    private static void blocksAtMost1023() {
        c.says("block options at most 1023");
        // 1017 is the highest with an SZX of 0 or 1.
        dueAnswer("BLOCK2 1017", 130, Checks.join(GET_A, 194, 3, 249));
        dueAnswer("BLOCK2 1024", 0, Checks.join(GET_A, 194, 4, 0));
        dueAnswer("BLOCK2 65529", 0, Checks.join(GET_A, 194, 255, 249));
        dueAnswer("BLOCK2 65536", 0, Checks.join(GET_A, 195, 1, 0, 0));
        dueAnswer("BLOCK2 2 to the 32nd", 0, Checks.join(GET_A, 197, 1, 0, 0, 0, 0));
        dueAnswer("BLOCK1 1017", 136, Checks.join(PUT_A, 210, 3, 3, 249));
        dueAnswer("BLOCK1 1024", 0, Checks.join(PUT_A, 210, 3, 4, 0));
        dueAnswer("BLOCK1 65536", 0, Checks.join(PUT_A, 211, 3, 1, 0, 0));
        dueAnswer("a get with BLOCK1 1024 beside its BLOCK2", 0, Checks.join(GET_A, 192, 66, 4, 0));
        dueAnswer("a put with BLOCK2 1024 beside its BLOCK1", 0, Checks.join(PUT_A, 194, 4, 0, 64));
        c.due("1017 at the client", refused(97, 130, 0, 1, 2, 210, 10, 3, 249, 255, 0), 130);
        c.due("1024 at the client", refused(97, 130, 0, 1, 2, 210, 10, 4, 0, 255, 0), -1);
    }

    private static void blocksWithSzx0Or1() {
        c.says("with SZX 0 or 1");
        for (int low = 1; low < 16; low++) {
            boolean good = low % 8 <= 1;
            dueAnswer("BLOCK2 " + low, good ? 69 : 0, Checks.join(GET_A, 193, low));
            dueAnswer("BLOCK1 " + low, good ? (low >= 8 ? 95 : 68) : 0, Checks.join(PUT_A, 209, 3, low));
            dueAnswer("BLOCK2 " + (1008 + low), good ? 130 : 0, Checks.join(GET_A, 194, 3, 240 + low));
            c.due("BLOCK1 " + low + " at the client", refused(97, 130, 0, 1, 2, 209, 14, low), good ? 130 : -1);
        }
    }

    private static void numbersWithMoreBytesThanTheyNeed() {
        c.says("all numbers with as few bytes as they need");
        dueAnswer("WATCH 1 in one", 69, Checks.join(GET, 97, 1, 81, 97, 192));
        dueAnswer("WATCH 1 in two", 0, Checks.join(GET, 98, 0, 1, 81, 97, 192));
        dueAnswer("WATCH 255 in two", 0, Checks.join(GET, 98, 0, 255, 81, 97, 192));
        dueAnswer("WATCH 256 in two", 69, Checks.join(GET, 98, 1, 0, 81, 97, 192));
        dueAnswer("WATCH 256 in three", 0, Checks.join(GET, 99, 0, 1, 0, 81, 97, 192));
        dueAnswer("BLOCK2 1 in two", 0, Checks.join(GET_A, 194, 0, 1));
        dueAnswer("BLOCK2 1 in twelve", 0, around(Checks.join(GET_A, 204), new int[11], 1));
        dueAnswer("BLOCK2 256 in three", 0, Checks.join(GET_A, 195, 0, 1, 0));
        dueAnswer("BLOCK1 1 in two", 0, Checks.join(PUT_A, 210, 3, 0, 1));
        dueAnswer("BLOCK1 256 in three", 0, Checks.join(PUT_A, 211, 3, 0, 1, 0));
    }

    private static void payloadAtMost32() {
        c.says("and a payload of at most 32 bytes");
        for (int n = 31; n <= 36; n++) {
            dueAnswer("a put of " + n, n <= 32 ? 68 : 0, around(PUT_A, Checks.row(208, 3, 255), new int[n]));
            dueAnswer("a get with " + n, n <= 32 ? 69 : 0, around(GET_A, Checks.row(192, 255), new int[n]));
        }
        int[] head = {97, 130, 0, 1, 2, 255};
        c.due("32 at the client", refused(Checks.join(head, new int[32])), 130);
        c.due("33 at the client", refused(Checks.join(head, new int[33])), -1);
    }

    private static void payloadMarkAlone() {
        c.says("PAYLOAD (0 .. 32 bytes) .. when there is a payload, 255 and the payload");
        dueAnswer("255 and none", 0, Checks.join(PUT_A, 208, 3, 255));
        dueAnswer("255 and one", 68, Checks.join(PUT_A, 208, 3, 255, 0));
        dueAnswer("no 255", 68, Checks.join(PUT_A, 208, 3));
        c.due("255 and none at the client", refused(97, 130, 0, 1, 2, 208, 10, 255), -1);
    }

    private static void rowsThatEndTooSoon() {
        c.says("A row of bytes that comes is a message when it is one as written here");
        dueAnswer("a value that ends one byte too soon", 0, Checks.join(GET_A, 194, 1));
        dueAnswer("a value that is not there", 0, Checks.join(GET_A, 193));
        dueAnswer("a segment that is not there", 0, Checks.join(GET, 96, 81, 97, 12));
        dueAnswer("a step that is not there", 0, Checks.join(GET_A, 208));
        dueAnswer("a step and no value", 0, Checks.join(PUT_A, 209, 3));
        dueAnswer("a value that ends with the row", 69, Checks.join(GET_A, 193, 1));
        // Five bytes that come to the client: code and token, nothing else.
        ObservedBlocks x = new ObservedBlocks();
        x.get(0, 4, 0, false);
        x.deliver(0);
        c.due("bytes", x.datagram(0, -1), 5);
        x.repeat(0);
        x.spoil(0, 1, 132);
        x.deliver(0);
        c.due("five bytes with code 0 are none", x.slot(0, 0), 1);
        x.deliver(0);
        c.due("five bytes with a code are one", x.slot(0, 0), 4);
        // Four bytes that come to the server with a code.
        ObservedBlocks y = new ObservedBlocks();
        Checks.bringToClient(y, 300, 65, 69, 0, 9, 99, 209, 10, 1);
        Checks.write(y, 0, 65, 1, 0, 9);
        c.due("four bytes with a code are none", y.deliver(0), 0);
        c.due("handled", y.server(0), 1);
    }
}
