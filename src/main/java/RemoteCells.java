/** Two hosts that reach into each other's cells over two lines; see the document for every promise. */
public final class RemoteCells {
    public static final int NONE = -1, UNKNOWN = -1001, OUTSIDE = -1002, NOT = -1003, FULL = -1004;

    private static final int HOSTS = 2, CELLS = 12, KEYS = 4, LINES = 2, ENDS = 4;
    private static final int MOST_VALUE = 9999, MOST_RIGHTS = 7, MOST_DELAY = 9, FIRST_DELAY = 1;
    private static final int MOST_OPEN = 4, MOST_FETCHES = 2, MOST_RECEIVES = 3, MOST_CHANGES = 2;
    private static final int MOST_TRIES = 4, MOST_BUSIES = 4, MOST_PACKETS = 24;
    private static final int MOST_LETTERS = 200, MOST_LETTER = 255, MOST_CLAUSES = 24, MOST_DIGITS = 4;
    /** A waiting notice needs a work or a receive of its own, and an object is used for 512 calls. */
    private static final int MOST_NOTICES = 512;

    private static final int APART = 0, READY = 1, BROKEN = 2;
    private static final int SEND = 0, WRITE = 1, READ = 2, ADD = 3, SWAP = 4, RECEIVE = 5;
    private static final int REQUEST = 0, DONE = 1, GAP = 2, BUSY = 3, DENIED = 4;
    private static final int RESULT_WELL = 0, RESULT_DENIED = 1, RESULT_BROKEN = 2, RESULT_TRIES = 3, RESULT_BUSY = 4;
    private static final int REASON_NO_KEY = 1, REASON_OFFSET = 2, REASON_RIGHT = 3;
    private static final int RIGHT_READ = 1, RIGHT_WRITE = 2, RIGHT_CHANGE = 4;
    private static final int WAY_COMES = 0, WAY_LOST = 1, WAY_TWICE = 2;
    private static final int WORD_ALL = 0, WORD_KEY = 1, WORD_CELL = 2, WORD_DELAY = 3, WORD_AIM = 4, WORD_JOIN = 5;

    private final Host[] hosts = new Host[HOSTS];
    private final End[] ends = new End[ENDS];
    private final Wire wire = new Wire();
    private final Text text = new Text();
    private Notice lastTaken = null;
    private int lastTakenHost = 0;

    public RemoteCells() {
        for (int i = 0; i < HOSTS; i++) {
            hosts[i] = new Host();
        }
        for (int i = 0; i < ENDS; i++) {
            ends[i] = new End(i, hosts[i % HOSTS], wire);
        }
    }

    // ---- what is told

    public int write(int letter) {
        if (isOutside(letter, 0, MOST_LETTER)) {
            return OUTSIDE;
        }
        if (text.length >= MOST_LETTERS) {
            return FULL;
        }
        text.append((char) letter);
        return text.length;
    }

    public int erase() {
        int had = text.length;
        text.length = 0;
        return had;
    }

    public int fault() {
        return text.findFault();
    }

    public int tell() {
        if (text.findFault() != NONE) {
            return NOT;
        }
        int clauses = text.clauses;
        text.rewind();
        for (int i = 0; i < clauses; i++) {
            if (text.readClause()) {
                doClause(text.word, text.numbers);
            }
            text.nextToken();
        }
        text.length = 0;
        return clauses;
    }

    private void doClause(int word, int[] n) {
        switch (word) {
            case WORD_ALL:
                resetAll();
                break;
            case WORD_KEY:
                hosts[n[0]].setKey(n[1], n[2], n[3], n[4]);
                break;
            case WORD_CELL:
                hosts[n[0]].cells[n[1]] = n[2];
                break;
            case WORD_DELAY:
                wire.delays[n[0]] = n[1];
                break;
            case WORD_AIM:
                ends[n[0]].setAim(n[1], n[2]);
                break;
            case WORD_JOIN:
                if (!hasReadyEnd(n[0])) {
                    joinLine(n[0]);
                }
                break;
            default:
                break;
        }
    }

    private void resetAll() {
        for (int i = 0; i < HOSTS; i++) {
            hosts[i].reset();
        }
        for (int i = 0; i < ENDS; i++) {
            ends[i].reset();
        }
        wire.reset();
        lastTaken = null;
    }

    // ---- hosts

    public int cell(int host, int cell) {
        if (isNoHost(host) || isNoCell(cell)) {
            return UNKNOWN;
        }
        return hosts[host].cells[cell];
    }

    public int put(int host, int cell, int v) {
        if (isNoHost(host) || isNoCell(cell)) {
            return UNKNOWN;
        }
        if (isNoValue(v)) {
            return OUTSIDE;
        }
        int was = hosts[host].cells[cell];
        hosts[host].cells[cell] = v;
        return was;
    }

    public int key(int host, int key, int base, int length, int rights) {
        if (isNoHost(host) || isNoKey(key)) {
            return UNKNOWN;
        }
        if (isNoCell(base) || isOutside(length, 1, CELLS - base) || isOutside(rights, 0, MOST_RIGHTS)) {
            return OUTSIDE;
        }
        hosts[host].setKey(key, base, length, rights);
        return hosts[host].keyCount();
    }

    public int lock(int host, int key) {
        if (isNoHost(host) || isNoKey(key)) {
            return UNKNOWN;
        }
        if (!hosts[host].keys[key].exists) {
            return NOT;
        }
        hosts[host].keys[key].exists = false;
        return hosts[host].keyCount();
    }

    public int door(int host, int key, int what) {
        if (isNoHost(host) || isNoKey(key)) {
            return UNKNOWN;
        }
        if (isOutside(what, 0, 2)) {
            return OUTSIDE;
        }
        Key asked = hosts[host].keys[key];
        if (!asked.exists) {
            return NOT;
        }
        switch (what) {
            case 0:
                return asked.base;
            case 1:
                return asked.length;
            default:
                return asked.rights;
        }
    }

    // ---- lines

    public int join(int line) {
        if (isNoLine(line)) {
            return UNKNOWN;
        }
        if (hasReadyEnd(line)) {
            return NOT;
        }
        joinLine(line);
        return readyEnds();
    }

    private boolean hasReadyEnd(int line) {
        return ends[firstEndOf(line)].state == READY || ends[otherEnd(firstEndOf(line))].state == READY;
    }

    private void joinLine(int line) {
        ends[firstEndOf(line)].restart(READY);
        ends[otherEnd(firstEndOf(line))].restart(READY);
        wire.clearLine(line);
    }

    private int readyEnds() {
        int ready = 0;
        for (int i = 0; i < ENDS; i++) {
            if (ends[i].state == READY) {
                ready++;
            }
        }
        return ready;
    }

    public int tear(int end) {
        if (isNoEnd(end)) {
            return UNKNOWN;
        }
        End torn = ends[end];
        if (torn.state != READY) {
            return NOT;
        }
        int had = torn.open + torn.receiveCount;
        torn.breakUp();
        return had;
    }

    public int delay(int line, int d) {
        if (isNoLine(line)) {
            return UNKNOWN;
        }
        if (isOutside(d, 1, MOST_DELAY)) {
            return OUTSIDE;
        }
        int was = wire.delays[line];
        wire.delays[line] = d;
        return was;
    }

    public int aim(int end, int key, int offset) {
        if (isNoEnd(end) || isNoKey(key)) {
            return UNKNOWN;
        }
        if (isOutside(offset, 0, CELLS - 1)) {
            return OUTSIDE;
        }
        boolean same = ends[end].aimKey == key && ends[end].aimOffset == offset;
        ends[end].setAim(key, offset);
        return same ? 0 : 1;
    }

    // ---- work

    public int send(int end, int v) {
        if (isNoEnd(end)) {
            return UNKNOWN;
        }
        return isNoValue(v) ? OUTSIDE : ends[end].postWork(SEND, v, 0, 0);
    }

    public int store(int end, int v) {
        if (isNoEnd(end)) {
            return UNKNOWN;
        }
        return isNoValue(v) ? OUTSIDE : ends[end].postWork(WRITE, v, 0, 0);
    }

    public int read(int end, int c) {
        if (isNoEnd(end) || isNoCell(c)) {
            return UNKNOWN;
        }
        return ends[end].postWork(READ, 0, 0, c);
    }

    public int add(int end, int v, int c) {
        if (isNoEnd(end) || isNoCell(c)) {
            return UNKNOWN;
        }
        return isNoValue(v) ? OUTSIDE : ends[end].postWork(ADD, v, 0, c);
    }

    public int swap(int end, int v, int w, int c) {
        if (isNoEnd(end) || isNoCell(c)) {
            return UNKNOWN;
        }
        return isNoValue(v) || isNoValue(w) ? OUTSIDE : ends[end].postWork(SWAP, v, w, c);
    }

    public int receive(int end, int c) {
        if (isNoEnd(end) || isNoCell(c)) {
            return UNKNOWN;
        }
        return ends[end].postReceive(c);
    }

    public int step(int way) {
        if (isOutside(way, WAY_COMES, WAY_TWICE)) {
            return OUTSIDE;
        }
        Packet moved = wire.pullFirst();
        if (moved == null) {
            return NOT;
        }
        if (way == WAY_LOST) {
            wire.lost++;
            return moved.to;
        }
        wire.passTimeTo(moved.due);
        if (way == WAY_TWICE) {
            wire.repeat(moved);
        }
        ends[moved.to].meet(moved);
        return moved.to;
    }

    public int tick(int end) {
        if (isNoEnd(end)) {
            return UNKNOWN;
        }
        if (ends[end].state != READY || ends[end].open == 0) {
            return NOT;
        }
        ends[end].tryAgain();
        return ends[end].tries;
    }

    public int take(int host) {
        if (isNoHost(host)) {
            return UNKNOWN;
        }
        Notice oldest = hosts[host].pullNotice();
        if (oldest == null) {
            return NONE;
        }
        lastTaken = oldest;
        lastTakenHost = host;
        return oldest.result;
    }

    public int taken(int what) {
        if (isOutside(what, 0, 5)) {
            return OUTSIDE;
        }
        if (lastTaken == null) {
            return NONE;
        }
        switch (what) {
            case 0:
                return lastTakenHost;
            case 1:
                return lastTaken.end;
            case 2:
                return lastTaken.kind;
            case 3:
                return lastTaken.number;
            case 4:
                return lastTaken.result;
            default:
                return lastTaken.value;
        }
    }

    // ---- what there is

    public int end(int end, int what) {
        if (isNoEnd(end)) {
            return UNKNOWN;
        }
        End asked = ends[end];
        switch (what) {
            case 0:
                return asked.state;
            case 1:
                return asked.next;
            case 2:
                return asked.open;
            case 3:
                return asked.expected;
            case 4:
                return asked.receiveCount;
            case 5:
                return asked.tries;
            case 6:
                return asked.busies;
            case 7:
                return asked.complained ? 1 : 0;
            case 8:
                return asked.changes.known;
            case 9:
                return asked.aimKey;
            case 10:
                return asked.aimOffset;
            default:
                return OUTSIDE;
        }
    }

    public int open(int end, int i, int what) {
        if (isNoEnd(end) || isOutside(i, 0, ends[end].open - 1)) {
            return UNKNOWN;
        }
        Work asked = ends[end].works[i];
        switch (what) {
            case 0:
                return asked.number;
            case 1:
                return asked.kind;
            case 2:
                return asked.key;
            case 3:
                return asked.offset;
            case 4:
                return asked.v;
            default:
                return OUTSIDE;
        }
    }

    public int packet(int what) {
        if (isOutside(what, 0, 4)) {
            return OUTSIDE;
        }
        int first = wire.firstPlace();
        if (first == NONE) {
            return NOT;
        }
        Packet asked = wire.packets[first];
        switch (what) {
            case 0:
                return asked.to;
            case 1:
                return asked.type;
            case 2:
                return asked.number;
            case 3:
                return asked.due;
            default:
                return asked.value;
        }
    }

    public int count(int what) {
        switch (what) {
            case 0:
                return wire.used;
            case 1:
                return wire.now;
            case 2:
                return hosts[0].waiting;
            case 3:
                return hosts[1].waiting;
            case 4:
                return readyEnds();
            case 5:
                return hosts[0].cellSum() + hosts[1].cellSum();
            case 6:
                return hosts[0].changesDone + hosts[1].changesDone;
            case 7:
                return text.length;
            case 8:
                return wire.lost;
            default:
                return OUTSIDE;
        }
    }

    // ---- what may be asked for

    private static boolean isOutside(int n, int least, int most) {
        return n < least || n > most;
    }

    private static boolean isNoHost(int host) {
        return isOutside(host, 0, HOSTS - 1);
    }

    private static boolean isNoCell(int cell) {
        return isOutside(cell, 0, CELLS - 1);
    }

    private static boolean isNoKey(int key) {
        return isOutside(key, 0, KEYS - 1);
    }

    private static boolean isNoLine(int line) {
        return isOutside(line, 0, LINES - 1);
    }

    private static boolean isNoEnd(int end) {
        return isOutside(end, 0, ENDS - 1);
    }

    private static boolean isNoValue(int v) {
        return isOutside(v, 0, MOST_VALUE);
    }

    private static int lineOf(int end) {
        return end / 2;
    }

    private static int firstEndOf(int line) {
        return line * 2;
    }

    private static int otherEnd(int end) {
        return end % 2 == 0 ? end + 1 : end - 1;
    }

    /** READ, ADD and SWAP bring a number home; only a DONE of their own can end them well. */
    private static boolean isFetch(int kind) {
        return kind == READ || kind == ADD || kind == SWAP;
    }

    // ---- parts

    private static final class Key {
        boolean exists = false;
        int base = 0;
        int length = 0;
        int rights = 0;
    }

    /** Something TOLD at a host, waiting in a chain until it is taken. */
    private static final class Notice {
        final int end;
        final int kind;
        final int number;
        final int result;
        final int value;
        Notice behind = null;

        Notice(int end, int kind, int number, int result, int value) {
            this.end = end;
            this.kind = kind;
            this.number = number;
            this.result = result;
            this.value = value;
        }
    }

    private static final class Host {
        final int[] cells = new int[CELLS];
        final Key[] keys = new Key[KEYS];
        Notice oldest = null;
        Notice newest = null;
        int waiting = 0;
        /** Counted here and not at the ends, because a join makes those new but keeps this. */
        int changesDone = 0;

        Host() {
            for (int i = 0; i < KEYS; i++) {
                keys[i] = new Key();
            }
        }

        void reset() {
            for (int i = 0; i < CELLS; i++) {
                cells[i] = 0;
            }
            for (int i = 0; i < KEYS; i++) {
                keys[i].exists = false;
            }
            oldest = null;
            newest = null;
            waiting = 0;
            changesDone = 0;
        }

        void setKey(int place, int base, int length, int rights) {
            Key set = keys[place];
            set.exists = true;
            set.base = base;
            set.length = length;
            set.rights = rights;
        }

        int keyCount() {
            int there = 0;
            for (int i = 0; i < KEYS; i++) {
                if (keys[i].exists) {
                    there++;
                }
            }
            return there;
        }

        int cellSum() {
            int sum = 0;
            for (int i = 0; i < CELLS; i++) {
                sum += cells[i];
            }
            return sum;
        }

        void pushNotice(Notice told) {
            if (waiting >= MOST_NOTICES) {
                return;
            }
            if (newest == null) {
                oldest = told;
            } else {
                newest.behind = told;
            }
            newest = told;
            waiting++;
        }

        Notice pullNotice() {
            Notice pulled = oldest;
            if (pulled == null) {
                return null;
            }
            oldest = pulled.behind;
            if (oldest == null) {
                newest = null;
            }
            // what was taken is kept by the object, and would keep the whole chain behind it
            pulled.behind = null;
            waiting--;
            return pulled;
        }
    }

    private static final class Work {
        int number = 0;
        int kind = 0;
        int key = 0;
        int offset = 0;
        int v = 0;
        int w = 0;
        int cell = 0;
    }

    private static final class Packet {
        int to = 0;
        int due = 0;
        int type = 0;
        int number = 0;
        int value = 0;
        int kind = 0;
        int key = 0;
        int offset = 0;
        int v = 0;
        int w = 0;

        void beAnswer(int type, int number, int value) {
            this.type = type;
            this.number = number;
            this.value = value;
        }

        void beRequest(Work work) {
            type = REQUEST;
            number = work.number;
            value = 0;
            kind = work.kind;
            key = work.key;
            offset = work.offset;
            v = work.v;
            w = work.w;
        }

        void beCopyOf(Packet model) {
            to = model.to;
            due = model.due;
            type = model.type;
            number = model.number;
            value = model.value;
            kind = model.kind;
            key = model.key;
            offset = model.offset;
            v = model.v;
            w = model.w;
        }
    }

    /** All packets under way, in the order in which they were sent, and the time. */
    private static final class Wire {
        final Packet[] packets = new Packet[MOST_PACKETS];
        /** A copy of the packet that is coming, since answers to it may fill the place that it had. */
        final Packet coming = new Packet();
        final int[] delays = new int[LINES];
        int used = 0;
        int lost = 0;
        int now = 0;

        Wire() {
            for (int i = 0; i < MOST_PACKETS; i++) {
                packets[i] = new Packet();
            }
            for (int i = 0; i < LINES; i++) {
                delays[i] = FIRST_DELAY;
            }
        }

        void reset() {
            used = 0;
            lost = 0;
            now = 0;
            for (int i = 0; i < LINES; i++) {
                delays[i] = FIRST_DELAY;
            }
        }

        /** A place for a packet to that end, with its due; null when it is lost. */
        Packet placeFor(int to) {
            if (used >= MOST_PACKETS) {
                lost++;
                return null;
            }
            Packet placed = packets[used];
            used++;
            placed.to = to;
            placed.due = now + delays[lineOf(to)];
            return placed;
        }

        void repeat(Packet again) {
            Packet placed = placeFor(again.to);
            if (placed != null) {
                int newDue = placed.due;
                placed.beCopyOf(again);
                placed.due = newDue;
            }
        }

        int firstPlace() {
            int first = NONE;
            for (int i = 0; i < used; i++) {
                if (first == NONE || packets[i].due < packets[first].due) {
                    first = i;
                }
            }
            return first;
        }

        Packet pullFirst() {
            int first = firstPlace();
            if (first == NONE) {
                return null;
            }
            coming.beCopyOf(packets[first]);
            removeAt(first);
            return coming;
        }

        void clearLine(int line) {
            for (int i = used - 1; i >= 0; i--) {
                if (lineOf(packets[i].to) == line) {
                    removeAt(i);
                }
            }
        }

        private void removeAt(int place) {
            Packet removed = packets[place];
            for (int i = place; i < used - 1; i++) {
                packets[i] = packets[i + 1];
            }
            used--;
            packets[used] = removed;
        }

        void passTimeTo(int time) {
            if (time > now) {
                now = time;
            }
        }
    }

    /** The last ADDs and SWAPs that an end did, so that it can tell them again without doing them. */
    private static final class Changes {
        final int[] numbers = new int[MOST_CHANGES];
        final int[] values = new int[MOST_CHANGES];
        int known = 0;

        void remember(int number, int value) {
            if (known == MOST_CHANGES) {
                for (int i = 1; i < MOST_CHANGES; i++) {
                    numbers[i - 1] = numbers[i];
                    values[i - 1] = values[i];
                }
                known--;
            }
            numbers[known] = number;
            values[known] = value;
            known++;
        }

        /** What was told of that number, or NONE. */
        int toldOf(int number) {
            for (int i = 0; i < known; i++) {
                if (numbers[i] == number) {
                    return values[i];
                }
            }
            return NONE;
        }
    }

    private static final class End {
        final int index;
        final Host host;
        final Wire wire;
        final Work[] works = new Work[MOST_OPEN];
        final int[] receives = new int[MOST_RECEIVES];
        final Changes changes = new Changes();
        int state = APART;
        int next = 0;
        int open = 0;
        int expected = 0;
        int receiveCount = 0;
        int tries = 0;
        int busies = 0;
        boolean complained = false;
        int aimKey = 0;
        int aimOffset = 0;

        End(int index, Host host, Wire wire) {
            this.index = index;
            this.host = host;
            this.wire = wire;
            for (int i = 0; i < MOST_OPEN; i++) {
                works[i] = new Work();
            }
        }

        void reset() {
            restart(APART);
            setAim(0, 0);
        }

        void restart(int newState) {
            state = newState;
            next = 0;
            open = 0;
            expected = 0;
            receiveCount = 0;
            tries = 0;
            busies = 0;
            complained = false;
            changes.known = 0;
        }

        void setAim(int key, int offset) {
            aimKey = key;
            aimOffset = offset;
        }

        // -- what the own host asks for

        int postWork(int kind, int v, int w, int cell) {
            if (state != READY) {
                return NOT;
            }
            if (open >= MOST_OPEN || isFetch(kind) && openFetches() >= MOST_FETCHES) {
                return FULL;
            }
            Work posted = works[open];
            open++;
            posted.number = next;
            next++;
            posted.kind = kind;
            posted.key = aimKey;
            posted.offset = aimOffset;
            posted.v = v;
            posted.w = w;
            posted.cell = cell;
            request(posted);
            return posted.number;
        }

        private int openFetches() {
            int fetches = 0;
            for (int i = 0; i < open; i++) {
                if (isFetch(works[i].kind)) {
                    fetches++;
                }
            }
            return fetches;
        }

        int postReceive(int cell) {
            if (state != READY) {
                return NOT;
            }
            if (receiveCount >= MOST_RECEIVES) {
                return FULL;
            }
            receives[receiveCount] = cell;
            receiveCount++;
            return receiveCount;
        }

        private void request(Work work) {
            Packet placed = wire.placeFor(otherEnd(index));
            if (placed != null) {
                placed.beRequest(work);
            }
        }

        private void answer(int type, int number, int value) {
            Packet placed = wire.placeFor(otherEnd(index));
            if (placed != null) {
                placed.beAnswer(type, number, value);
            }
        }

        // -- what comes from the other end

        void meet(Packet came) {
            if (state != READY) {
                return;
            }
            if (came.type != REQUEST) {
                meetAnswer(came);
            } else if (came.number > expected) {
                complain();
            } else if (came.number < expected) {
                meetOldRequest(came);
            } else {
                meetExpected(came);
            }
        }

        private void complain() {
            if (!complained) {
                answer(GAP, expected, 0);
                complained = true;
            }
        }

        private void meetOldRequest(Packet came) {
            int told = 0;
            if (came.kind == READ) {
                told = reach(came);
            } else if (isFetch(came.kind)) {
                told = changes.toldOf(came.number);
            }
            if (told != NONE) {
                answer(DONE, came.number, told);
            }
        }

        private void meetExpected(Packet came) {
            int told = came.kind == SEND ? takeIn(came) : reach(came);
            if (told != NONE) {
                expected = came.number + 1;
                complained = false;
                answer(DONE, came.number, told);
            }
        }

        /** A sent value comes to the first of the receives; NONE when it is BUSY. */
        private int takeIn(Packet came) {
            if (receiveCount == 0) {
                answer(BUSY, came.number, 0);
                return NONE;
            }
            host.cells[receives[0]] = came.v;
            for (int i = 1; i < receiveCount; i++) {
                receives[i - 1] = receives[i];
            }
            receiveCount--;
            host.pushNotice(new Notice(index, RECEIVE, came.number, RESULT_WELL, came.v));
            return 0;
        }

        /** What a WRITE, READ, ADD or SWAP tells once it is done; NONE when it is DENIED. */
        private int reach(Packet came) {
            int reason = reasonAgainst(came);
            if (reason != 0) {
                answer(DENIED, came.number, reason);
                breakUp();
                return NONE;
            }
            int at = host.keys[came.key].base + came.offset;
            int was = host.cells[at];
            if (came.kind == READ) {
                return was;
            }
            if (came.kind == WRITE) {
                host.cells[at] = came.v;
                return 0;
            }
            if (came.kind == ADD) {
                host.cells[at] = (was + came.v) % (MOST_VALUE + 1);
            } else if (was == came.v) {
                host.cells[at] = came.w;
            }
            changes.remember(came.number, was);
            host.changesDone++;
            return was;
        }

        private int reasonAgainst(Packet came) {
            Key brought = host.keys[came.key];
            if (!brought.exists) {
                return REASON_NO_KEY;
            }
            if (came.offset >= brought.length) {
                return REASON_OFFSET;
            }
            return (brought.rights & rightFor(came.kind)) == 0 ? REASON_RIGHT : 0;
        }

        private static int rightFor(int kind) {
            if (kind == READ) {
                return RIGHT_READ;
            }
            return kind == WRITE ? RIGHT_WRITE : RIGHT_CHANGE;
        }

        private void meetAnswer(Packet came) {
            if (!isAwaited(came)) {
                return;
            }
            if (!finishBelow(came.number)) {
                tryAgain();
                return;
            }
            switch (came.type) {
                case DONE:
                    bringHome(came.value);
                    break;
                case GAP:
                    tryAgain();
                    break;
                case BUSY:
                    bearBusy();
                    break;
                case DENIED:
                    finishOldest(RESULT_DENIED, came.value);
                    breakUp();
                    break;
                default:
                    break;
            }
        }

        private boolean isAwaited(Packet came) {
            if (came.type == GAP) {
                return open > 0 && came.number >= works[0].number;
            }
            for (int i = 0; i < open; i++) {
                if (works[i].number == came.number) {
                    return true;
                }
            }
            return false;
        }

        /** Ends the open works below that number well; false when one of them is stuck. */
        private boolean finishBelow(int number) {
            for (int i = 0; i < MOST_OPEN && open > 0 && works[0].number < number; i++) {
                if (isFetch(works[0].kind)) {
                    return false;
                }
                finishOldest(RESULT_WELL, 0);
            }
            return true;
        }

        private void bringHome(int value) {
            if (isFetch(works[0].kind)) {
                host.cells[works[0].cell] = value;
            }
            finishOldest(RESULT_WELL, value);
        }

        private void bearBusy() {
            busies++;
            if (busies >= MOST_BUSIES) {
                finishOldest(RESULT_BUSY, 0);
                breakUp();
            }
        }

        void tryAgain() {
            if (open == 0) {
                return;
            }
            tries++;
            if (tries >= MOST_TRIES) {
                finishOldest(RESULT_TRIES, 0);
                breakUp();
                return;
            }
            for (int i = 0; i < open; i++) {
                request(works[i]);
            }
        }

        void breakUp() {
            state = BROKEN;
            for (int i = 0; i < MOST_OPEN && open > 0; i++) {
                finishOldest(RESULT_BROKEN, 0);
            }
            for (int i = 0; i < receiveCount; i++) {
                host.pushNotice(new Notice(index, RECEIVE, NONE, RESULT_BROKEN, receives[i]));
            }
            receiveCount = 0;
        }

        private void finishOldest(int result, int value) {
            if (open == 0) {
                return;
            }
            Work oldest = works[0];
            for (int i = 1; i < open; i++) {
                works[i - 1] = works[i];
            }
            open--;
            works[open] = oldest;
            tries = 0;
            busies = 0;
            host.pushNotice(new Notice(index, oldest.kind, oldest.number, result, value));
        }
    }

    /** The row of letters, and a reader that goes over it token by token. */
    private static final class Text {
        final char[] letters = new char[MOST_LETTERS];
        final int[] numbers = new int[5];
        int length = 0;
        int tokenStart = 0;
        int tokenEnd = 0;
        int word = NONE;
        int clauses = 0;

        void append(char letter) {
            if (length < MOST_LETTERS) {
                letters[length] = letter;
                length++;
            }
        }

        void rewind() {
            tokenStart = 0;
            tokenEnd = 0;
        }

        /** The place of the first fault or NONE; then the number of clauses is known, too. */
        int findFault() {
            rewind();
            for (int read = 1; read <= MOST_CLAUSES; read++) {
                if (!readClause()) {
                    return tokenStart;
                }
                nextToken();
                if (tokenStart == length) {
                    clauses = read;
                    return NONE;
                }
                if (letters[tokenStart] != ';') {
                    return tokenStart;
                }
            }
            // a ; behind the last clause that may be: no clause could follow it
            return tokenStart;
        }

        /** False at a fault, which is at the start of the token then. */
        boolean readClause() {
            nextToken();
            word = wordOfToken();
            switch (word) {
                case WORD_ALL:
                    return true;
                case WORD_KEY:
                    return readNumber(0, 0, HOSTS - 1) && readNumber(1, 0, KEYS - 1)
                            && readNumber(2, 0, CELLS - 1) && readNumber(3, 1, CELLS - numbers[2])
                            && readNumber(4, 0, MOST_RIGHTS);
                case WORD_CELL:
                    return readNumber(0, 0, HOSTS - 1) && readNumber(1, 0, CELLS - 1)
                            && readNumber(2, 0, MOST_VALUE);
                case WORD_DELAY:
                    return readNumber(0, 0, LINES - 1) && readNumber(1, 1, MOST_DELAY);
                case WORD_AIM:
                    return readNumber(0, 0, ENDS - 1) && readNumber(1, 0, KEYS - 1)
                            && readNumber(2, 0, CELLS - 1);
                case WORD_JOIN:
                    return readNumber(0, 0, LINES - 1);
                default:
                    return false;
            }
        }

        void nextToken() {
            tokenStart = tokenEnd;
            while (tokenStart < length && letters[tokenStart] == ' ') {
                tokenStart++;
            }
            tokenEnd = tokenStart;
            if (tokenStart >= length) {
                return;
            }
            char first = letters[tokenStart];
            tokenEnd++;
            if (!isSmall(first) && !isDigit(first)) {
                return;
            }
            while (tokenEnd < length && isAlike(first, letters[tokenEnd])) {
                tokenEnd++;
            }
        }

        private static boolean isSmall(char letter) {
            return letter >= 'a' && letter <= 'z';
        }

        private static boolean isDigit(char letter) {
            return letter >= '0' && letter <= '9';
        }

        private static boolean isAlike(char first, char letter) {
            return isSmall(first) ? isSmall(letter) : isDigit(letter);
        }

        private int wordOfToken() {
            if (isToken("all")) {
                return WORD_ALL;
            }
            if (isToken("key")) {
                return WORD_KEY;
            }
            if (isToken("cell")) {
                return WORD_CELL;
            }
            if (isToken("delay")) {
                return WORD_DELAY;
            }
            if (isToken("aim")) {
                return WORD_AIM;
            }
            return isToken("join") ? WORD_JOIN : NONE;
        }

        private boolean isToken(String wanted) {
            if (tokenEnd - tokenStart != wanted.length()) {
                return false;
            }
            for (int i = 0; i < wanted.length(); i++) {
                if (letters[tokenStart + i] != wanted.charAt(i)) {
                    return false;
                }
            }
            return true;
        }

        private boolean readNumber(int place, int least, int most) {
            nextToken();
            int digits = tokenEnd - tokenStart;
            if (digits < 1 || digits > MOST_DIGITS || !isDigit(letters[tokenStart])) {
                return false;
            }
            int n = 0;
            for (int i = tokenStart; i < tokenEnd; i++) {
                n = n * 10 + (letters[i] - '0');
            }
            numbers[place] = n;
            return !isOutside(n, least, most);
        }
    }
}
