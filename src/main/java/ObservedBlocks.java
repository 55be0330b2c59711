/**
 * A client and a server that talk by datagrams over a line that loses, repeats, reorders and damages them.
 *
 * All rows of bytes are made with the object and used again: no call makes an object.
 */
public final class ObservedBlocks {
    public static final int BAD = -1;
    public static final int STATE = -2;

    private static final int NONE = -1;

    private static final int CON = 0;
    private static final int ACK = 2;
    private static final int RST = 3;

    private static final int EMPTY = 0;
    private static final int GET = 1;
    private static final int PUT = 3;
    private static final int CHANGED = 68;
    private static final int CONTENT = 69;
    private static final int CONTINUE = 95;
    private static final int BAD_REQUEST = 130;
    private static final int NOT_FOUND = 132;
    private static final int INCOMPLETE = 136;
    private static final int TOO_LARGE = 141;

    private static final int WATCH = 6;
    private static final int SEGMENT = 11;
    private static final int BLOCK2 = 23;
    private static final int BLOCK1 = 27;

    private static final int PAYLOAD_MARK = 255;
    private static final int LONG_STEP = 13;
    private static final int MOST_OPTION_BYTES = 12;
    private static final int MOST_OPTIONS = 5;
    private static final int MOST_PAYLOAD = 32;
    private static final int MOST_BLOCK = 1023;

    private static final int FREE = 0;
    private static final int ASKING = 1;
    private static final int DONE = 2;
    private static final int FAILED = 3;
    private static final int REFUSED = 4;

    private static final int TO_CLIENT = 0;
    private static final int TO_SERVER = 1;

    private static final int SLOTS = 2;
    private static final int PATHS = 5;
    private static final int RESOURCES = 4;
    private static final int WATCHERS = 2;
    private static final int ANSWERS = 4;
    private static final int DATAGRAMS = 16;

    // The longest datagram is a put under cc, d with a full block of 32 bytes: 46 bytes.
    private static final int ROW_ROOM = 48;
    private static final int CONTENT_ROOM = 64;
    private static final int BODY_ROOM = 80;

    private static final int FIRST_SPAN = 4;
    private static final int MOST_REPEATS = 3;
    private static final int MEMORY_TICKS = 100;

    private static final int NOTHING_DUE = 0;
    private static final int SEND_AGAIN = 1;
    private static final int GIVEN_UP = 2;

    private final Line line;
    private final Client clientEnd;
    private final Server serverEnd;
    private final Message arrived;
    private int time;

    public ObservedBlocks() {
        line = new Line();
        clientEnd = new Client(line);
        serverEnd = new Server(line);
        arrived = new Message();
        time = 0;
    }

    public int get(int slot, int path, int szx, boolean watch) {
        if (!isAskable(slot, path, szx)) {
            return BAD;
        }
        Slot asking = clientEnd.slots[slot];
        if (asking.state != FREE) {
            return STATE;
        }
        asking.begin(path, szx, false, watch);
        clientEnd.ask(asking);
        return asking.token;
    }

    public int put(int slot, int path, int szx, int length, int seed) {
        if (!isAskable(slot, path, szx) || !isWithin(length, BODY_ROOM)) {
            return BAD;
        }
        Slot asking = clientEnd.slots[slot];
        if (asking.state != FREE) {
            return STATE;
        }
        asking.begin(path, szx, true, false);
        asking.bytes.fill(length, seed);
        clientEnd.ask(asking);
        return asking.token;
    }

    public int free(int slot) {
        if (!isWithin(slot, SLOTS - 1)) {
            return BAD;
        }
        if (clientEnd.slots[slot].state == FREE) {
            return STATE;
        }
        clientEnd.slots[slot].end();
        return 0;
    }

    public int change(int resource, int length, int seed) {
        if (!isWithin(resource, RESOURCES - 1) || !isWithin(length, CONTENT_ROOM)) {
            return BAD;
        }
        serverEnd.contents[resource].fill(length, seed);
        serverEnd.tellWatchersOf(resource);
        return 0;
    }

    public int tick() {
        time++;
        clientEnd.pass();
        serverEnd.pass();
        return time;
    }

    public int deliver(int k) {
        if (!line.has(k)) {
            return BAD;
        }
        int end = line.ends[k];
        boolean isMessage = arrived.read(line.rows[k]);
        line.takeOut(k);
        if (isMessage && end == TO_CLIENT) {
            clientEnd.receive(arrived);
        } else if (isMessage && arrived.isRequest()) {
            serverEnd.answer(arrived, time);
        } else if (isMessage) {
            serverEnd.receiveReceipt(arrived);
        }
        return line.count;
    }

    public int lose(int k) {
        if (!line.has(k)) {
            return BAD;
        }
        line.takeOut(k);
        return line.count;
    }

    public int repeat(int k) {
        if (!line.has(k)) {
            return BAD;
        }
        line.send(line.rows[k], line.ends[k]);
        return line.count;
    }

    public boolean spoil(int k, int i, int bits) {
        if (!line.has(k) || !line.rows[k].has(i) || !isWithin(bits, 255)) {
            return false;
        }
        line.rows[k].at[i] ^= bits;
        return true;
    }

    public int waiting() {
        return line.count;
    }

    public int datagram(int k, int i) {
        if (!line.has(k)) {
            return BAD;
        }
        if (i == -1) {
            return line.rows[k].length;
        }
        if (i == -2) {
            return line.ends[k];
        }
        return line.rows[k].byteOrBad(i);
    }

    public int slot(int slot, int what) {
        if (!isWithin(slot, SLOTS - 1) || !isWithin(what, 6)) {
            return BAD;
        }
        return clientEnd.slots[slot].tellOf(what);
    }

    public int body(int slot, int i) {
        if (!isWithin(slot, SLOTS - 1) || clientEnd.slots[slot].state == FREE) {
            return BAD;
        }
        return clientEnd.slots[slot].bytes.byteOrBad(i);
    }

    public int content(int resource, int i) {
        if (!isWithin(resource, RESOURCES - 1)) {
            return BAD;
        }
        Bytes bytes = serverEnd.contents[resource];
        return i == -1 ? bytes.length : bytes.byteOrBad(i);
    }

    public int server(int what) {
        switch (what) {
            case 0:
                return serverEnd.handled;
            case 1:
                return serverEnd.watcherCount;
            case 2:
                return serverEnd.seen;
            case 3:
                return serverEnd.lengthOfParts();
            default:
                return BAD;
        }
    }

    private static boolean isWithin(int value, int highest) {
        return value >= 0 && value <= highest;
    }

    private static boolean isAskable(int slot, int path, int szx) {
        return isWithin(slot, SLOTS - 1) && isWithin(path, PATHS - 1) && isWithin(szx, 1);
    }

    private static int sizeOf(int szx) {
        return szx == 0 ? 16 : 32;
    }

    private static int blockOf(int num, boolean more, int szx) {
        return 16 * num + (more ? 8 : 0) + szx;
    }

    private static int numOf(int block) {
        return block >> 4;
    }

    private static boolean hasMore(int block) {
        return (block & 8) != 0;
    }

    private static int szxOf(int block) {
        return block & 7;
    }

    private static int following(int number) {
        return (number + 1) & 65535;
    }

    private static String firstSegmentOf(int path) {
        switch (path) {
            case 0:
            case 1:
                return "a";
            case 2:
            case 3:
                return "cc";
            default:
                return "x";
        }
    }

    /** The second segment of a path, empty when the path has but one. */
    private static String secondSegmentOf(int path) {
        switch (path) {
            case 1:
                return "b";
            case 3:
                return "d";
            default:
                return "";
        }
    }

    /** A row of bytes, each 0 .. 255, with a room that is never outgrown: what does not fit is left out. */
    private static final class Bytes {
        final int[] at;
        int length;

        Bytes(int room) {
            at = new int[room];
            length = 0;
        }

        boolean has(int i) {
            return i >= 0 && i < length;
        }

        int byteOrBad(int i) {
            return has(i) ? at[i] : BAD;
        }

        void clear() {
            length = 0;
        }

        void cutTo(int most) {
            length = Math.min(length, most);
        }

        void add(int value) {
            if (length < at.length) {
                at[length] = value & 255;
                length++;
            }
        }

        void addFrom(Bytes other, int start, int most) {
            int count = Math.min(most, Math.min(other.length - start, at.length - length));
            if (start >= 0 && count > 0) {
                System.arraycopy(other.at, start, at, length, count);
                length += count;
            }
        }

        void become(Bytes other) {
            length = Math.min(other.length, at.length);
            System.arraycopy(other.at, 0, at, 0, length);
        }

        void fill(int count, int seed) {
            clear();
            for (int i = 0; i < count; i++) {
                add(seed + 5 * i);
            }
        }

        boolean spells(String text) {
            boolean same = length == text.length();
            for (int i = 0; same && i < length; i++) {
                same = at[i] == text.charAt(i);
            }
            return same;
        }
    }

    /** The datagrams under way, in the order in which they were sent. */
    private static final class Line {
        final Bytes[] rows;
        final int[] ends;
        int count;

        Line() {
            rows = new Bytes[DATAGRAMS];
            ends = new int[DATAGRAMS];
            for (int k = 0; k < DATAGRAMS; k++) {
                rows[k] = new Bytes(ROW_ROOM);
            }
            count = 0;
        }

        boolean has(int k) {
            return k >= 0 && k < count;
        }

        void send(Bytes row, int end) {
            if (count < DATAGRAMS) {
                rows[count].become(row);
                ends[count] = end;
                count++;
            }
        }

        void takeOut(int k) {
            if (!has(k)) {
                return;
            }
            // The row moves behind the others, so that a later datagram uses it again.
            Bytes taken = rows[k];
            for (int i = k; i < count - 1; i++) {
                rows[i] = rows[i + 1];
                ends[i] = ends[i + 1];
            }
            count--;
            rows[count] = taken;
        }
    }

    /** Writes one message at a time into its row. */
    private static final class Writer {
        final Bytes row;
        private int lastNumber;

        Writer() {
            row = new Bytes(ROW_ROOM);
            lastNumber = 0;
        }

        void beginEmpty(int type, int id) {
            row.clear();
            row.add(64 + 16 * type);
            row.add(EMPTY);
            row.add(id >> 8);
            row.add(id);
        }

        void begin(int type, int code, int id, int token) {
            row.clear();
            row.add(64 + 16 * type + 1);
            row.add(code);
            row.add(id >> 8);
            row.add(id);
            row.add(token);
            lastNumber = 0;
        }

        void addNumber(int option, int value) {
            int count = value == 0 ? 0 : value < 256 ? 1 : 2;
            addHead(option, count);
            if (count == 2) {
                row.add(value >> 8);
            }
            if (count != 0) {
                row.add(value);
            }
        }

        void addSegment(String segment) {
            addHead(SEGMENT, segment.length());
            for (int i = 0; i < segment.length(); i++) {
                row.add(segment.charAt(i));
            }
        }

        void addPayload(Bytes from, int start, int most) {
            if (most > 0 && from.has(start)) {
                row.add(PAYLOAD_MARK);
                row.addFrom(from, start, most);
            }
        }

        private void addHead(int option, int count) {
            int step = option - lastNumber;
            row.add(16 * Math.min(step, LONG_STEP) + count);
            if (step >= LONG_STEP) {
                row.add(step - LONG_STEP);
            }
            lastNumber = option;
        }
    }

    /** A message that came. Numbers that it does not have are NONE. */
    private static final class Message {
        int type;
        int code;
        int id;
        int token;
        int watch;
        int block2;
        int block1;
        int segments;
        final Bytes first;
        final Bytes second;
        final Bytes payload;
        private int position;
        private int number;
        private int valueStart;
        private int valueLength;

        Message() {
            first = new Bytes(MOST_OPTION_BYTES);
            second = new Bytes(MOST_OPTION_BYTES);
            payload = new Bytes(MOST_PAYLOAD);
        }

        boolean isRequest() {
            return type == CON && (code == GET || code == PUT);
        }

        boolean isUnder(int path) {
            String next = secondSegmentOf(path);
            int due = next.isEmpty() ? 1 : 2;
            return segments == due && first.spells(firstSegmentOf(path)) && second.spells(next);
        }

        /** Whether the row is a message; only then do the fields tell of it. */
        boolean read(Bytes row) {
            forget();
            if (row.length < 4) {
                return false;
            }
            code = row.at[1];
            int sixteens = row.at[0] - 64 - (code == EMPTY ? 0 : 1);
            if (sixteens < 0 || sixteens > 48 || sixteens % 16 != 0) {
                return false;
            }
            type = sixteens / 16;
            id = 256 * row.at[2] + row.at[3];
            if (code == EMPTY) {
                return row.length == 4;
            }
            if (row.length < 5) {
                return false;
            }
            token = row.at[4];
            position = 5;
            return readOptions(row) && readPayload(row);
        }

        private void forget() {
            token = NONE;
            watch = NONE;
            block2 = NONE;
            block1 = NONE;
            segments = 0;
            first.clear();
            second.clear();
            payload.clear();
            number = 0;
        }

        private boolean readOptions(Bytes row) {
            boolean good = true;
            for (int n = 0; good && n < MOST_OPTIONS && isAtOption(row); n++) {
                good = readHead(row) && keepValue(row);
            }
            return good && !isAtOption(row);
        }

        private boolean isAtOption(Bytes row) {
            return row.has(position) && row.at[position] != PAYLOAD_MARK;
        }

        private boolean readHead(Bytes row) {
            int step = row.at[position] / 16;
            valueLength = row.at[position] % 16;
            position++;
            if (step > LONG_STEP || valueLength > MOST_OPTION_BYTES) {
                return false;
            }
            if (step == LONG_STEP) {
                if (!row.has(position)) {
                    return false;
                }
                step += row.at[position];
                position++;
            }
            valueStart = position;
            position += valueLength;
            number += step;
            return position <= row.length && (step > 0 || number == SEGMENT);
        }

        private boolean keepValue(Bytes row) {
            switch (number) {
                case WATCH:
                    watch = numberIn(row);
                    return watch != NONE;
                case SEGMENT:
                    return keepSegment(row);
                case BLOCK2:
                    block2 = numberIn(row);
                    return isBlock(block2);
                case BLOCK1:
                    block1 = numberIn(row);
                    return isBlock(block1);
                default:
                    return false;
            }
        }

        private boolean keepSegment(Bytes row) {
            if (segments == 2) {
                return false;
            }
            Bytes segment = segments == 0 ? first : second;
            segment.addFrom(row, valueStart, valueLength);
            segments++;
            return true;
        }

        /** The number that the value is, or NONE when it has more bytes than it needs or more than two. */
        private int numberIn(Bytes row) {
            if (valueLength == 0) {
                return 0;
            }
            int high = row.byteOrBad(valueStart);
            if (valueLength > 2 || high <= 0) {
                return NONE;
            }
            return valueLength == 1 ? high : 256 * high + row.byteOrBad(valueStart + 1);
        }

        private static boolean isBlock(int value) {
            return value != NONE && value <= MOST_BLOCK && szxOf(value) <= 1;
        }

        private boolean readPayload(Bytes row) {
            if (position == row.length) {
                return true;
            }
            int count = row.length - position - 1;
            payload.addFrom(row, position + 1, count);
            return count > 0 && count <= MOST_PAYLOAD;
        }
    }

    /** A CON that was sent and not yet answered, if there is one. */
    private static final class Pending {
        final Bytes row;
        private int id;
        private boolean active;
        private int left;
        private int span;
        private int repeats;

        Pending() {
            row = new Bytes(ROW_ROOM);
            active = false;
        }

        void start(int newId, Bytes sent) {
            row.become(sent);
            id = newId;
            active = true;
            left = FIRST_SPAN;
            span = FIRST_SPAN;
            repeats = 0;
        }

        void stop() {
            active = false;
        }

        boolean isActive() {
            return active;
        }

        boolean isFor(int otherId) {
            return active && id == otherId;
        }

        /** A tick goes by: what is due then. */
        int pass() {
            if (!active) {
                return NOTHING_DUE;
            }
            left--;
            if (left > 0) {
                return NOTHING_DUE;
            }
            if (repeats == MOST_REPEATS) {
                active = false;
                return GIVEN_UP;
            }
            repeats++;
            span *= 2;
            left = span;
            return SEND_AGAIN;
        }
    }

    private static final class Slot {
        final Bytes bytes;
        final Pending pending;
        int state;
        int token;
        int path;
        int szx;
        int num;
        boolean puts;
        private final int index;
        private int uses;
        private boolean isToWatch;
        private boolean watches;
        private int last;
        private int reason;

        Slot(int k) {
            bytes = new Bytes(BODY_ROOM);
            pending = new Pending();
            index = k;
            uses = 0;
            state = FREE;
        }

        void begin(int newPath, int newSzx, boolean isToPut, boolean watch) {
            uses++;
            token = (2 * uses + index) & 255;
            path = newPath;
            szx = newSzx;
            num = 0;
            puts = isToPut;
            isToWatch = watch;
            watches = false;
            last = 0;
            reason = 0;
            bytes.clear();
        }

        void end() {
            pending.stop();
            state = FREE;
        }

        boolean isAskedFor(Message m) {
            return state == ASKING && pending.isFor(m.id) && token == m.token;
        }

        boolean isWatchedFor(Message m) {
            return state != FREE && watches && token == m.token;
        }

        /** The first request of a use is the only one with NUM 0, for NUM grows before each other one. */
        boolean asksToWatch() {
            return isToWatch && num == 0;
        }

        boolean hasMoreToPut() {
            return bytes.length > (num + 1) * sizeOf(szx);
        }

        /** Takes the answer to the request; whether there is more to ask. */
        boolean takeAnswer(Message m) {
            pending.stop();
            if (!puts && m.code == CONTENT && isBlockDue(m)) {
                return takeBlock(m);
            }
            if (puts && m.code == CONTINUE && hasMoreToPut()) {
                num++;
                return true;
            }
            if (puts && m.code == CHANGED) {
                state = DONE;
                return false;
            }
            state = REFUSED;
            reason = m.code;
            return false;
        }

        private boolean isBlockDue(Message m) {
            return m.block2 != NONE && numOf(m.block2) == num && szxOf(m.block2) == szx
                && num * sizeOf(szx) + m.payload.length <= CONTENT_ROOM;
        }

        private boolean takeBlock(Message m) {
            bytes.cutTo(num * sizeOf(szx));
            bytes.addFrom(m.payload, 0, m.payload.length);
            if (isToWatch && m.watch != NONE) {
                watches = true;
                last = m.watch;
            }
            return goOn(m);
        }

        boolean isNews(Message m) {
            int ahead = (m.watch - last) & 65535;
            return m.watch != NONE && ahead >= 1 && ahead <= 32767
                && m.block2 != NONE && numOf(m.block2) == 0 && szxOf(m.block2) == szx;
        }

        /** Takes the first block of a new content; whether there is more to ask. */
        boolean takeNews(Message m) {
            pending.stop();
            last = m.watch;
            bytes.become(m.payload);
            num = 0;
            return goOn(m);
        }

        private boolean goOn(Message m) {
            if (hasMore(m.block2)) {
                num++;
                return true;
            }
            state = DONE;
            return false;
        }

        int tellOf(int what) {
            if (state == FREE) {
                return 0;
            }
            switch (what) {
                case 0:
                    return state;
                case 1:
                    return token;
                case 2:
                    return num;
                case 3:
                    return bytes.length;
                case 4:
                    return watches ? 1 : 0;
                case 5:
                    return last;
                default:
                    return state == REFUSED ? reason : 0;
            }
        }
    }

    private static final class Client {
        final Slot[] slots;
        private final Line line;
        private final Writer writer;
        private int nextId;

        Client(Line shared) {
            slots = new Slot[SLOTS];
            for (int k = 0; k < SLOTS; k++) {
                slots[k] = new Slot(k);
            }
            line = shared;
            writer = new Writer();
            nextId = 1;
        }

        void ask(Slot slot) {
            writer.begin(CON, slot.puts ? PUT : GET, nextId, slot.token);
            if (slot.asksToWatch()) {
                writer.addNumber(WATCH, 0);
            }
            writer.addSegment(firstSegmentOf(slot.path));
            String second = secondSegmentOf(slot.path);
            if (!second.isEmpty()) {
                writer.addSegment(second);
            }
            if (slot.puts) {
                int size = sizeOf(slot.szx);
                writer.addNumber(BLOCK1, blockOf(slot.num, slot.hasMoreToPut(), slot.szx));
                writer.addPayload(slot.bytes, slot.num * size, size);
            } else {
                writer.addNumber(BLOCK2, blockOf(slot.num, false, slot.szx));
            }
            slot.state = ASKING;
            slot.pending.start(nextId, writer.row);
            nextId = following(nextId);
            line.send(writer.row, TO_SERVER);
        }

        void receive(Message m) {
            if (m.type == ACK) {
                receiveAnswer(m);
            } else if (m.type == CON && m.code == CONTENT) {
                receiveNews(m);
            }
        }

        private void receiveAnswer(Message m) {
            for (int k = 0; k < SLOTS; k++) {
                if (slots[k].isAskedFor(m)) {
                    if (slots[k].takeAnswer(m)) {
                        ask(slots[k]);
                    }
                    return;
                }
            }
        }

        private void receiveNews(Message m) {
            Slot watching = null;
            for (int k = 0; k < SLOTS; k++) {
                if (slots[k].isWatchedFor(m)) {
                    watching = slots[k];
                }
            }
            writer.beginEmpty(watching == null ? RST : ACK, m.id);
            line.send(writer.row, TO_SERVER);
            if (watching != null && watching.isNews(m) && watching.takeNews(m)) {
                ask(watching);
            }
        }

        void pass() {
            for (int k = 0; k < SLOTS; k++) {
                int due = slots[k].pending.pass();
                if (due == SEND_AGAIN) {
                    line.send(slots[k].pending.row, TO_SERVER);
                } else if (due == GIVEN_UP) {
                    slots[k].state = FAILED;
                }
            }
        }
    }

    private static final class Watcher {
        final Pending pending;
        int token;
        int resource;
        int szx;
        boolean changed;

        Watcher() {
            pending = new Pending();
        }

        void begin(int newToken, int newResource, int newSzx) {
            pending.stop();
            token = newToken;
            resource = newResource;
            szx = newSzx;
            changed = false;
        }
    }

    /** The last answers, the one that went in first being the first. */
    private static final class Memory {
        final Bytes[] rows;
        private final int[] ids;
        private final int[] times;
        private int count;

        Memory() {
            rows = new Bytes[ANSWERS];
            ids = new int[ANSWERS];
            times = new int[ANSWERS];
            for (int i = 0; i < ANSWERS; i++) {
                rows[i] = new Bytes(ROW_ROOM);
            }
            count = 0;
        }

        /** Where the answer lies that is still good, or NONE. */
        int find(int id, int now) {
            int place = placeOf(id);
            return place != NONE && now - times[place] < MEMORY_TICKS ? place : NONE;
        }

        void keep(int id, int now, Bytes answer) {
            int old = placeOf(id);
            if (old != NONE) {
                takeOut(old);
            }
            if (count == ANSWERS) {
                takeOut(0);
            }
            rows[count].become(answer);
            ids[count] = id;
            times[count] = now;
            count++;
        }

        private int placeOf(int id) {
            for (int i = 0; i < count; i++) {
                if (ids[i] == id) {
                    return i;
                }
            }
            return NONE;
        }

        private void takeOut(int place) {
            Bytes taken = rows[place];
            for (int i = place; i < count - 1; i++) {
                rows[i] = rows[i + 1];
                ids[i] = ids[i + 1];
                times[i] = times[i + 1];
            }
            count--;
            rows[count] = taken;
        }
    }

    private static final class Server {
        final Bytes[] contents;
        int handled;
        int watcherCount;
        int seen;
        private final Bytes[] parts;
        private final Watcher[] watchers;
        private final Memory memory;
        private final Line line;
        private final Writer writer;
        private int nextId;

        Server(Line shared) {
            contents = new Bytes[RESOURCES];
            parts = new Bytes[RESOURCES];
            for (int r = 0; r < RESOURCES; r++) {
                contents[r] = new Bytes(CONTENT_ROOM);
                parts[r] = new Bytes(CONTENT_ROOM);
            }
            watchers = new Watcher[WATCHERS];
            for (int w = 0; w < WATCHERS; w++) {
                watchers[w] = new Watcher();
            }
            memory = new Memory();
            line = shared;
            writer = new Writer();
            nextId = 1;
        }

        int lengthOfParts() {
            int sum = 0;
            for (int r = 0; r < RESOURCES; r++) {
                sum += parts[r].length;
            }
            return sum;
        }

        void answer(Message m, int now) {
            int known = memory.find(m.id, now);
            if (known != NONE) {
                line.send(memory.rows[known], TO_CLIENT);
                return;
            }
            handled++;
            int resource = resourceUnder(m);
            int code = handle(m, resource);
            if (code == CHANGED) {
                tellWatchersOf(resource);
            }
            writer.begin(ACK, code, m.id, m.token);
            if (code == CONTENT) {
                addContent(m, resource);
            } else if (code != NOT_FOUND && code != BAD_REQUEST) {
                writer.addNumber(BLOCK1, m.block1);
            }
            memory.keep(m.id, now, writer.row);
            line.send(writer.row, TO_CLIENT);
        }

        private int resourceUnder(Message m) {
            for (int r = 0; r < RESOURCES; r++) {
                if (m.isUnder(r)) {
                    return r;
                }
            }
            return NONE;
        }

        /** Does what is asked, but for telling and watching; the code of the answer. */
        private int handle(Message m, int resource) {
            if (resource == NONE) {
                return NOT_FOUND;
            }
            if ((m.code == GET ? m.block2 : m.block1) == NONE) {
                return BAD_REQUEST;
            }
            if (m.code == PUT) {
                return takePart(m, resource);
            }
            int num = numOf(m.block2);
            boolean isBehind = num * sizeOf(szxOf(m.block2)) >= contents[resource].length;
            return num != 0 && isBehind ? BAD_REQUEST : CONTENT;
        }

        private int takePart(Message m, int resource) {
            Bytes part = parts[resource];
            int num = numOf(m.block1);
            if (num == 0) {
                part.clear();
            }
            if (num * sizeOf(szxOf(m.block1)) != part.length) {
                return INCOMPLETE;
            }
            if (part.length + m.payload.length > CONTENT_ROOM) {
                part.clear();
                return TOO_LARGE;
            }
            part.addFrom(m.payload, 0, m.payload.length);
            if (hasMore(m.block1)) {
                return CONTINUE;
            }
            contents[resource].become(part);
            part.clear();
            return CHANGED;
        }

        private void addContent(Message m, int resource) {
            int num = numOf(m.block2);
            int szx = szxOf(m.block2);
            if (num == 0 && m.watch == 0 && beginWatch(m.token, resource, szx)) {
                seen = following(seen);
                writer.addNumber(WATCH, seen);
            }
            if (num == 0 && m.watch == 1) {
                endWatch(watcherWith(m.token));
            }
            writer.addNumber(BLOCK2, blockIn(resource, num, szx));
            writer.addPayload(contents[resource], num * sizeOf(szx), sizeOf(szx));
        }

        private int blockIn(int resource, int num, int szx) {
            boolean more = contents[resource].length > (num + 1) * sizeOf(szx);
            return blockOf(num, more, szx);
        }

        private int watcherWith(int token) {
            for (int w = 0; w < watcherCount; w++) {
                if (watchers[w].token == token) {
                    return w;
                }
            }
            return NONE;
        }

        private boolean beginWatch(int token, int resource, int szx) {
            int place = watcherWith(token);
            if (place == NONE) {
                if (watcherCount == WATCHERS) {
                    return false;
                }
                place = watcherCount;
                watcherCount++;
            }
            watchers[place].begin(token, resource, szx);
            return true;
        }

        private void endWatch(int place) {
            if (place < 0 || place >= watcherCount) {
                return;
            }
            Watcher ended = watchers[place];
            ended.pending.stop();
            for (int w = place; w < watcherCount - 1; w++) {
                watchers[w] = watchers[w + 1];
            }
            watcherCount--;
            watchers[watcherCount] = ended;
        }

        void tellWatchersOf(int resource) {
            for (int w = 0; w < watcherCount; w++) {
                if (watchers[w].resource == resource) {
                    tell(watchers[w]);
                }
            }
        }

        private void tell(Watcher watcher) {
            if (watcher.pending.isActive()) {
                watcher.changed = true;
                return;
            }
            watcher.changed = false;
            seen = following(seen);
            writer.begin(CON, CONTENT, nextId, watcher.token);
            writer.addNumber(WATCH, seen);
            writer.addNumber(BLOCK2, blockIn(watcher.resource, 0, watcher.szx));
            writer.addPayload(contents[watcher.resource], 0, sizeOf(watcher.szx));
            watcher.pending.start(nextId, writer.row);
            nextId = following(nextId);
            line.send(writer.row, TO_CLIENT);
        }

        /** An ACK or RST with code 0 for what a watcher was told; other messages do nothing. */
        void receiveReceipt(Message m) {
            if (m.code != EMPTY || (m.type != ACK && m.type != RST)) {
                return;
            }
            for (int w = 0; w < watcherCount; w++) {
                if (watchers[w].pending.isFor(m.id)) {
                    watchers[w].pending.stop();
                    if (m.type == RST) {
                        endWatch(w);
                    } else if (watchers[w].changed) {
                        tell(watchers[w]);
                    }
                    return;
                }
            }
        }

        void pass() {
            int w = 0;
            for (int n = 0; n < WATCHERS && w < watcherCount; n++) {
                int due = watchers[w].pending.pass();
                if (due == SEND_AGAIN) {
                    line.send(watchers[w].pending.row, TO_CLIENT);
                }
                if (due == GIVEN_UP) {
                    endWatch(w);
                } else {
                    w++;
                }
            }
        }
    }
}
