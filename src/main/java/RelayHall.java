import java.util.ArrayList;
import java.util.NoSuchElementException;

/** A hall where messages are handed on; the document ../shared/DOC.md tells what each call does. */
public final class RelayHall {
    public static final int NONE = -1;

    private static final int MOST_CONNECTIONS = 4;
    private static final int MOST_CHANNELS = 3;
    private static final int MOST_TAPE = 420;
    private static final int MOST_SIZE = 400;
    private static final int MOST_OUT = 5000;
    private static final int MOST_TEXT = 40;
    private static final int MOST_TABLE = 160;
    private static final int MOST_BODY = 200;
    private static final int MOST_EXCHANGES = 12;
    private static final int MOST_QUEUES = 12;
    private static final int MOST_BINDINGS = 40;
    private static final int MOST_CONSUMERS = 16;
    private static final int MOST_MESSAGES = 300;
    private static final int MOST_DEAD = 300;
    private static final int MOST_DEATHS = 3;
    private static final int MOST_NUMBER = 12000;
    private static final int MOST_KEPT = 32;
    private static final int MOST_CRASHES = 200;
    private static final int MOST_STEPS = 1000000;
    private static final int CLOSING_TICKS = 20;

    // States of a connection.
    private static final int CLOSED = 0;
    private static final int GREETING = 1;
    private static final int STARTING = 2;
    private static final int TUNING = 3;
    private static final int OPENING = 4;
    private static final int OPEN = 5;
    private static final int CLOSING = 6;

    // States of a channel.
    private static final int SHUT = 0;
    private static final int LIVE = 1;
    private static final int ENDING = 2;

    // Modes of a channel.
    private static final int TRANSACTIONS = 1;
    private static final int CONFIRMS = 2;

    // Types of frames; a channel tells by HEADER or BODY which of them is due, by NOTHING that none is.
    private static final int NOTHING = 0;
    private static final int METHOD = 1;
    private static final int HEADER = 2;
    private static final int BODY = 3;
    private static final int HEARTBEAT = 8;

    private static final int FRAME_HEAD = 7;
    private static final int FRAME_END = 206;
    private static final int[] GREETING_BYTES = {82, 76, 65, 89, 0, 0, 9, 1};

    // Methods: the class in the upper 16 bits, the method in the lower.
    private static final int START = 10 << 16 | 10;
    private static final int START_OK = 10 << 16 | 11;
    private static final int TUNE = 10 << 16 | 30;
    private static final int TUNE_OK = 10 << 16 | 31;
    private static final int OPEN_HALL = 10 << 16 | 40;
    private static final int OPEN_HALL_OK = 10 << 16 | 41;
    private static final int CLOSE_HALL = 10 << 16 | 50;
    private static final int CLOSE_HALL_OK = 10 << 16 | 51;
    private static final int OPEN_CHANNEL = 20 << 16 | 10;
    private static final int OPEN_CHANNEL_OK = 20 << 16 | 11;
    private static final int FLOW = 20 << 16 | 20;
    private static final int FLOW_OK = 20 << 16 | 21;
    private static final int CLOSE_CHANNEL = 20 << 16 | 40;
    private static final int CLOSE_CHANNEL_OK = 20 << 16 | 41;
    private static final int DECLARE_EXCHANGE = 40 << 16 | 10;
    private static final int DECLARE_EXCHANGE_OK = 40 << 16 | 11;
    private static final int DELETE_EXCHANGE = 40 << 16 | 20;
    private static final int DELETE_EXCHANGE_OK = 40 << 16 | 21;
    private static final int DECLARE_QUEUE = 50 << 16 | 10;
    private static final int DECLARE_QUEUE_OK = 50 << 16 | 11;
    private static final int BIND = 50 << 16 | 20;
    private static final int BIND_OK = 50 << 16 | 21;
    private static final int PURGE = 50 << 16 | 30;
    private static final int PURGE_OK = 50 << 16 | 31;
    private static final int DELETE_QUEUE = 50 << 16 | 40;
    private static final int DELETE_QUEUE_OK = 50 << 16 | 41;
    private static final int UNBIND = 50 << 16 | 50;
    private static final int UNBIND_OK = 50 << 16 | 51;
    private static final int QOS = 60 << 16 | 10;
    private static final int QOS_OK = 60 << 16 | 11;
    private static final int CONSUME = 60 << 16 | 20;
    private static final int CONSUME_OK = 60 << 16 | 21;
    private static final int CANCEL = 60 << 16 | 30;
    private static final int CANCEL_OK = 60 << 16 | 31;
    private static final int PUBLISH = 60 << 16 | 40;
    private static final int RETURN = 60 << 16 | 50;
    private static final int DELIVER = 60 << 16 | 60;
    private static final int GET = 60 << 16 | 70;
    private static final int GET_OK = 60 << 16 | 71;
    private static final int GET_EMPTY = 60 << 16 | 72;
    private static final int ACK = 60 << 16 | 80;
    private static final int REJECT = 60 << 16 | 90;
    private static final int RECOVER = 60 << 16 | 110;
    private static final int RECOVER_OK = 60 << 16 | 111;
    private static final int NACK = 60 << 16 | 120;
    private static final int CONFIRM_SELECT = 85 << 16 | 10;
    private static final int CONFIRM_SELECT_OK = 85 << 16 | 11;
    private static final int TX_SELECT = 90 << 16 | 10;
    private static final int TX_SELECT_OK = 90 << 16 | 11;
    private static final int TX_COMMIT = 90 << 16 | 20;
    private static final int TX_COMMIT_OK = 90 << 16 | 21;
    private static final int TX_ROLLBACK = 90 << 16 | 30;
    private static final int TX_ROLLBACK_OK = 90 << 16 | 31;

    // Kinds of exchanges; the default one has a kind of its own.
    private static final int DEFAULT = 4;
    private static final int DIRECT = 0;
    private static final int FANOUT = 1;
    private static final int TOPIC = 2;
    private static final int HEADERS = 3;

    // Bits of 40.10 and 50.10.
    private static final int PASSIVE = 1;
    private static final int DURABLE = 2;
    private static final int EXCLUSIVE = 4;
    private static final int EXCHANGE_AUTO_DELETE = 4;
    private static final int INTERNAL = 8;
    private static final int QUEUE_AUTO_DELETE = 8;
    private static final int KEPT_BITS = 14;
    private static final int NO_ANSWER = 16;

    // Bits of 60.20.
    private static final int NO_ACK = 2;
    private static final int ALONE = 4;
    private static final int NO_CONSUME_OK = 8;

    // What becomes of an unacked message; a transaction keeps these, and publishing.
    private static final int DONE = 0;
    private static final int REQUEUED = 1;
    private static final int DEAD = 2;
    private static final int PUBLISHED = 3;

    // What an argument of a queue is if it is of another kind, or beyond its limits.
    private static final int WRONG = -2;

    private final byte[] tape = new byte[MOST_TAPE];
    private int tapeLength = 0;
    private final Connection[] connections = new Connection[MOST_CONNECTIONS];
    private final Exchange defaultExchange = new Exchange("", DEFAULT, 0, null);
    private final ArrayList<Exchange> exchanges = new ArrayList<Exchange>();
    private final ArrayList<Queue> queues = new ArrayList<Queue>();
    private final ArrayList<Binding> bindings = new ArrayList<Binding>();
    private final ArrayList<Consumer> consumers = new ArrayList<Consumer>();
    // Those that are dead and wait to be buried.
    private final ArrayList<Message> dead = new ArrayList<Message>();
    // Channels that are to be gone; a channel 0 stands for its connection as a whole.
    private final ArrayList<Channel> leaving = new ArrayList<Channel>();
    // The queues that the latest routing found.
    private final ArrayList<Queue> targets = new ArrayList<Queue>();
    private final Log log = new Log();
    private final Reader in = new Reader();
    private final StringBuilder words = new StringBuilder();
    // The method that an error is told of.
    private int blame = 0;
    private int clock = 0;
    private int held = 0;
    private int lastNumber = 0;
    private int lastGenerated = 0;
    private int deaths = 0;
    private int crashes = 0;

    public RelayHall() {
        for (int c = 0; c < MOST_CONNECTIONS; c++) {
            Connection con = new Connection();
            for (int k = 0; k <= MOST_CHANNELS; k++) {
                con.channels[k] = new Channel(con, k);
            }
            connections[c] = con;
        }
    }

    public boolean type(long word, int n) {
        if (n < 1 || n > 8 || tapeLength + n > MOST_TAPE) {
            return false;
        }
        for (int i = n - 1; i >= 0; i--) {
            tape[tapeLength] = (byte) (word >>> (8 * i));
            tapeLength++;
        }
        return true;
    }

    public boolean connect(int c) {
        if (!isConnection(c) || connections[c].state != CLOSED) {
            return false;
        }
        connections[c].restart(clock);
        return true;
    }

    public int send(int c) {
        int length = tapeLength;
        tapeLength = 0;
        if (!isConnection(c) || connections[c].state == CLOSED) {
            return NONE;
        }
        Connection con = connections[c];
        if (length > 0) {
            con.lastIn = clock;
        }
        for (int i = 0; i < length && con.state != CLOSED; i++) {
            if (!con.takes(tape[i])) {
                continue;
            }
            Channel caller = sift(con);
            if (caller != null && con.in[0] == METHOD) {
                perform(caller);
            } else if (caller != null && con.in[0] == HEADER) {
                takeHeader(caller);
            } else if (caller != null) {
                takeBody(caller);
            }
            con.inLength = 0;
            dispatch();
        }
        return con.state;
    }

    public boolean cut(int c) {
        if (!isConnection(c) || connections[c].state == CLOSED) {
            return false;
        }
        close(connections[c]);
        dispatch();
        return true;
    }

    public int waiting(int c) {
        return isConnection(c) ? connections[c].outLength : NONE;
    }

    public long read(int c, int n) throws NoSuchElementException, IndexOutOfBoundsException {
        if (n < 1 || n > 8 || !isConnection(c)) {
            throw new IndexOutOfBoundsException();
        }
        if (connections[c].outLength < n) {
            throw new NoSuchElementException();
        }
        long word = 0;
        for (int i = 0; i < n; i++) {
            word = (word << 8) | connections[c].pull();
        }
        return word;
    }

    public int tick(int n) throws IllegalArgumentException {
        if (n < 1 || n > 100) {
            throw new IllegalArgumentException();
        }
        for (int i = 0; i < n; i++) {
            log.makeSafe(log.pending.size());
            sendConfirmsDue();
            letLeave();
            clock++;
            expire();
            for (int c = 0; c < MOST_CONNECTIONS; c++) {
                watch(connections[c]);
            }
            dispatch();
        }
        return clock;
    }

    public int crash(int n) throws IllegalArgumentException {
        if (n < 0 || crashes >= MOST_CRASHES) {
            throw new IllegalArgumentException();
        }
        crashes++;
        for (int c = 0; c < MOST_CONNECTIONS; c++) {
            connections[c].drop();
        }
        log.makeSafe(n);
        forgetAll();
        restore();
        return held;
    }

    public int connection(int c, int what) {
        if (!isConnection(c)) {
            return NONE;
        }
        Connection con = connections[c];
        switch (what) {
            case 0:
                return con.state;
            case 1:
                return con.heartbeat;
            case 2:
                return con.openChannels();
            case 3:
                return con.inLength;
            default:
                return NONE;
        }
    }

    public int channel(int c, int channel, int what) {
        if (!isConnection(c) || channel < 1 || channel > MOST_CHANNELS || what < 0 || what > 6) {
            return NONE;
        }
        Channel ch = connections[c].channels[channel];
        if (what == 0) {
            return ch.state;
        }
        if (ch.state != LIVE) {
            return 0;
        }
        switch (what) {
            case 1:
                return ch.unacked.size();
            case 2:
                return ch.kept;
            case 3:
                return ch.mode;
            case 4:
                return ch.lastTag;
            case 5:
                return ch.lastConfirm;
            default:
                return consumersOn(ch);
        }
    }

    public int queue(int k, int what) {
        if (k < 0 || k >= queues.size()) {
            return NONE;
        }
        Queue q = queues.get(k);
        switch (what) {
            case 0:
                return q.ready.size();
            case 1:
                return q.unacked;
            case 2:
                return consumersOf(q);
            case 3:
                return q.bits;
            case 4:
                return q.name.length();
            case 5:
                return bindingsTo(q);
            default:
                return byteOf(q.name, what);
        }
    }

    public int exchange(int k, int what) {
        if (k < 0 || k >= exchanges.size()) {
            return NONE;
        }
        Exchange e = exchanges.get(k);
        switch (what) {
            case 0:
                return e.kind;
            case 1:
                return e.bits;
            case 2:
                return bindingsFrom(e);
            case 3:
                return e.name.length();
            default:
                return byteOf(e.name, what);
        }
    }

    public int total(int what) {
        switch (what) {
            case 0:
                return clock;
            case 1:
                return held;
            case 2:
                return queues.size();
            case 3:
                return exchanges.size();
            case 4:
                return bindings.size();
            case 5:
                return consumers.size();
            case 6:
                return log.pending.size();
            case 7:
                return deaths;
            default:
                return NONE;
        }
    }

    // ---- Looking things up ----

    private static boolean isConnection(int c) {
        return c >= 0 && c < MOST_CONNECTIONS;
    }

    private static int byteOf(String name, int what) {
        return what >= 100 && what - 100 < name.length() ? name.charAt(what - 100) : NONE;
    }

    private static boolean sameText(String a, String b) {
        return a == null ? b == null : b != null && a.equals(b);
    }

    private static int kindOf(String name) {
        if (name.equals("direct")) {
            return DIRECT;
        }
        if (name.equals("fanout")) {
            return FANOUT;
        }
        if (name.equals("topic")) {
            return TOPIC;
        }
        return name.equals("headers") ? HEADERS : NONE;
    }

    private Exchange findExchange(String name) {
        if (name.isEmpty()) {
            return defaultExchange;
        }
        for (int i = 0; i < exchanges.size(); i++) {
            if (exchanges.get(i).name.equals(name)) {
                return exchanges.get(i);
            }
        }
        return null;
    }

    private Queue findQueue(String name) {
        for (int i = 0; i < queues.size(); i++) {
            if (queues.get(i).name.equals(name)) {
                return queues.get(i);
            }
        }
        return null;
    }

    private int findConsumer(Channel ch, String tag) {
        for (int i = 0; i < consumers.size(); i++) {
            if (consumers.get(i).channel == ch && consumers.get(i).tag.equals(tag)) {
                return i;
            }
        }
        return NONE;
    }

    private int findBinding(Binding wanted) {
        for (int i = 0; i < bindings.size(); i++) {
            if (bindings.get(i).isLike(wanted)) {
                return i;
            }
        }
        return NONE;
    }

    private int consumersOf(Queue q) {
        int count = 0;
        for (int i = 0; i < consumers.size(); i++) {
            if (consumers.get(i).queue == q) {
                count++;
            }
        }
        return count;
    }

    private int consumersOn(Channel ch) {
        int count = 0;
        for (int i = 0; i < consumers.size(); i++) {
            if (consumers.get(i).channel == ch) {
                count++;
            }
        }
        return count;
    }

    private boolean hasAlone(Queue q) {
        for (int i = 0; i < consumers.size(); i++) {
            if (consumers.get(i).queue == q && consumers.get(i).alone) {
                return true;
            }
        }
        return false;
    }

    private int bindingsTo(Queue q) {
        int count = 0;
        for (int i = 0; i < bindings.size(); i++) {
            if (bindings.get(i).queue == q) {
                count++;
            }
        }
        return count;
    }

    private int bindingsFrom(Exchange e) {
        int count = 0;
        for (int i = 0; i < bindings.size(); i++) {
            if (bindings.get(i).exchange == e) {
                count++;
            }
        }
        return count;
    }

    private boolean isFull() {
        return held >= MOST_MESSAGES || lastNumber >= MOST_NUMBER;
    }

    // ---- Sending, errors and closing ----

    private void ship(Connection con) {
        if (con.state == CLOSED) {
            con.drafted = 0;
        } else if (con.fits()) {
            con.lastOut = clock;
        } else {
            close(con);
        }
    }

    /** What closing does to the rest of the hall waits in leaving, so that no half-done method is disturbed. */
    private void close(Connection con) {
        if (con.state != CLOSED) {
            con.state = CLOSED;
            con.inLength = 0;
            leaving.add(con.channels[0]);
        }
    }

    private void answer(Channel ch, int method) {
        ch.connection.method(ch.number, method);
        ch.connection.end();
        ship(ch.connection);
    }

    private void answerText(Channel ch, int method, String text) {
        ch.connection.method(ch.number, method);
        ch.connection.text(text);
        ch.connection.end();
        ship(ch.connection);
    }

    private void answerNumber(Channel ch, int method, long number, int bytes) {
        ch.connection.method(ch.number, method);
        ch.connection.put(number, bytes);
        ch.connection.end();
        ship(ch.connection);
    }

    private void draftError(Connection con, int channel, int method, int code) {
        con.method(channel, method);
        con.put(code, 2);
        con.put(0, 1);
        con.put(blame, 4);
        con.end();
    }

    private void hard(Connection con, int code) {
        draftError(con, 0, CLOSE_HALL, code);
        ship(con);
        if (con.state != CLOSED) {
            con.state = CLOSING;
            con.closingSince = clock;
            leaving.add(con.channels[0]);
        }
    }

    private void soft(Channel ch, int code) {
        draftError(ch.connection, ch.number, CLOSE_CHANNEL, code);
        ship(ch.connection);
        if (ch.connection.state != CLOSED) {
            ch.state = ENDING;
            leaving.add(ch);
        }
    }

    private boolean argumentsEnd(Channel ch) {
        if (in.done()) {
            return true;
        }
        hard(ch.connection, 502);
        return false;
    }

    private void letLeave() {
        for (int i = 0; i < leaving.size(); i++) {
            Channel ch = leaving.get(i);
            if (ch.number > 0) {
                gone(ch);
            } else {
                letLeaveWhole(ch.connection);
            }
        }
        leaving.clear();
    }

    private void letLeaveWhole(Connection con) {
        for (int k = 1; k <= MOST_CHANNELS; k++) {
            gone(con.channels[k]);
            con.channels[k].state = SHUT;
        }
        int at = 0;
        for (int left = queues.size(); left > 0 && at < queues.size(); left--) {
            Queue q = queues.get(at);
            if (q.owner == con) {
                removeQueue(q);
            } else {
                at++;
            }
        }
    }

    private void gone(Channel ch) {
        int at = 0;
        for (int left = consumers.size(); left > 0 && at < consumers.size(); left--) {
            if (consumers.get(at).channel == ch) {
                removeConsumer(at);
            } else {
                at++;
            }
        }
        for (int left = ch.unacked.size(); left > 0; left--) {
            finish(ch, 0, REQUEUED);
        }
        ch.forget();
    }

    // ---- Frames outside the state OPEN ----

    private void takeOutsideOpen(Connection con) {
        if (con.state == GREETING) {
            takeGreeting(con);
        } else if (!con.isFrame()) {
            takeNoFrame(con);
        } else if (con.state == CLOSING) {
            takeWhileClosing(con);
        } else if (!con.isIdleBeat()) {
            shakeHands(con);
        }
    }

    private void takeGreeting(Connection con) {
        boolean right = true;
        for (int i = 0; i < GREETING_BYTES.length; i++) {
            right = right && con.in[i] == GREETING_BYTES[i];
        }
        if (right) {
            con.state = STARTING;
            answerNumber(con.channels[0], START, 9, 2);
            return;
        }
        for (int i = 0; i < GREETING_BYTES.length; i++) {
            con.put(GREETING_BYTES[i], 1);
        }
        ship(con);
        close(con);
    }

    private void takeNoFrame(Connection con) {
        if (con.state == OPEN) {
            blame = 0;
            hard(con, 501);
        }
        if (con.state == CLOSING) {
            con.deaf = true;
        } else {
            close(con);
        }
    }

    private void takeWhileClosing(Connection con) {
        if (con.frameChannel() != 0) {
            return;
        }
        if (con.frameMethod() == CLOSE_HALL) {
            answer(con.channels[0], CLOSE_HALL_OK);
            close(con);
        } else if (con.frameMethod() == CLOSE_HALL_OK) {
            close(con);
        }
    }

    private void shakeHands(Connection con) {
        in.over(con.in, FRAME_HEAD + 4, con.inLength - 1);
        int method = con.frameChannel() == 0 ? con.frameMethod() : 0;
        if (con.state == STARTING && method == START_OK) {
            takeStart(con);
        } else if (con.state == TUNING && method == TUNE_OK) {
            takeTuning(con);
        } else if (con.state == OPENING && method == OPEN_HALL) {
            takeOpening(con);
        } else {
            close(con);
        }
    }

    private void takeStart(Connection con) {
        in.shortText();
        if (!in.done()) {
            close(con);
            return;
        }
        con.state = TUNING;
        con.method(0, TUNE);
        con.put(MOST_CHANNELS, 2);
        con.put(MOST_SIZE, 4);
        con.put(30, 2);
        con.end();
        ship(con);
    }

    private void takeTuning(Connection con) {
        int channels = in.u16();
        long size = in.u32();
        int beat = in.u16();
        if (!in.done() || channels > MOST_CHANNELS || size > MOST_SIZE) {
            close(con);
            return;
        }
        con.heartbeat = beat;
        con.state = OPENING;
    }

    private void takeOpening(Connection con) {
        in.shortText();
        if (!in.done()) {
            close(con);
            return;
        }
        con.state = OPEN;
        answer(con.channels[0], OPEN_HALL_OK);
    }

    // ---- Frames in the state OPEN ----

    /** Looks at what has come; the channel if there is a method or content to be taken in on it, else null. */
    private Channel sift(Connection con) {
        if (con.state != OPEN || !con.isFrame()) {
            takeOutsideOpen(con);
            return null;
        }
        blame = con.frameMethod();
        if (con.frameChannel() > MOST_CHANNELS) {
            hard(con, 504);
            return null;
        }
        Channel ch = con.channels[con.frameChannel()];
        if (ch.state == ENDING) {
            takeWhileEnding(ch);
            return null;
        }
        int fault = faultOf(ch);
        if (fault != 0) {
            hard(con, fault);
        }
        if (fault != 0 || con.in[0] == HEARTBEAT) {
            return null;
        }
        in.over(con.in, con.in[0] == METHOD ? FRAME_HEAD + 4 : FRAME_HEAD, con.inLength - 1);
        return ch;
    }

    private void takeWhileEnding(Channel ch) {
        if (blame == CLOSE_CHANNEL) {
            answer(ch, CLOSE_CHANNEL_OK);
        }
        if (blame == CLOSE_CHANNEL || blame == CLOSE_CHANNEL_OK) {
            ch.state = SHUT;
        }
    }

    private int faultOf(Channel ch) {
        Connection con = ch.connection;
        if (con.in[0] == HEARTBEAT) {
            return con.isIdleBeat() ? 0 : 501;
        }
        if (con.in[0] == METHOD) {
            return con.frameSize() < 4 ? 502 : faultOfMethod(ch);
        }
        // Channel 0 is never live.
        if (ch.state != LIVE) {
            return 504;
        }
        return con.in[0] == ch.due ? 0 : 505;
    }

    private int faultOfMethod(Channel ch) {
        boolean ofConnection = blame >>> 16 == 10;
        if (ofConnection != (ch.number == 0)) {
            return 503;
        }
        if (ofConnection) {
            return 0;
        }
        if ((blame == OPEN_CHANNEL) == (ch.state == LIVE)) {
            return 504;
        }
        return ch.due == NOTHING ? 0 : 505;
    }

    private void perform(Channel ch) {
        switch (blame) {
            case CLOSE_HALL: closeHall(ch); break;
            case START_OK: case TUNE_OK: case OPEN_HALL: case CLOSE_HALL_OK: case CLOSE_CHANNEL_OK:
                hard(ch.connection, 503); break;
            case OPEN_CHANNEL: openChannel(ch); break;
            case FLOW: flow(ch); break;
            case CLOSE_CHANNEL: closeChannel(ch); break;
            case DECLARE_EXCHANGE: declareExchange(ch); break;
            case DELETE_EXCHANGE: deleteExchange(ch); break;
            case DECLARE_QUEUE: declareQueue(ch); break;
            case BIND: bind(ch); break;
            case UNBIND: unbind(ch); break;
            case PURGE: purge(ch); break;
            case DELETE_QUEUE: deleteQueue(ch); break;
            case QOS: limit(ch); break;
            case CONSUME: consume(ch); break;
            case CANCEL: cancel(ch); break;
            case PUBLISH: beginContent(ch); break;
            case GET: get(ch); break;
            case ACK: case REJECT: case NACK: acknowledge(ch); break;
            case RECOVER: recover(ch); break;
            case CONFIRM_SELECT: selectConfirms(ch); break;
            case TX_SELECT: selectTransactions(ch); break;
            case TX_COMMIT: commit(ch); break;
            case TX_ROLLBACK: rollBack(ch); break;
            default: hard(ch.connection, 540); break;
        }
    }

    // ---- Methods of connections and channels ----

    private void skipCloseArguments() {
        in.u16();
        in.shortText();
        in.u32();
    }

    private void closeHall(Channel ch) {
        skipCloseArguments();
        if (argumentsEnd(ch)) {
            answer(ch, CLOSE_HALL_OK);
            close(ch.connection);
        }
    }

    private void openChannel(Channel ch) {
        if (argumentsEnd(ch)) {
            ch.restart();
            answer(ch, OPEN_CHANNEL_OK);
        }
    }

    private void flow(Channel ch) {
        boolean active = in.u8() != 0;
        if (argumentsEnd(ch)) {
            ch.active = active;
            answerNumber(ch, FLOW_OK, active ? 1 : 0, 1);
        }
    }

    private void closeChannel(Channel ch) {
        skipCloseArguments();
        if (!argumentsEnd(ch)) {
            return;
        }
        answer(ch, CLOSE_CHANNEL_OK);
        if (ch.connection.state != CLOSED) {
            ch.state = SHUT;
            leaving.add(ch);
        }
    }

    // ---- Methods of exchanges ----

    private void declareExchange(Channel ch) {
        String name = in.shortText();
        String kind = in.shortText();
        int bits = in.u8();
        Table table = in.table();
        if (!argumentsEnd(ch)) {
            return;
        }
        boolean there;
        if ((bits & PASSIVE) != 0) {
            there = findExchange(name) != null;
            if (!there) {
                soft(ch, 404);
            }
        } else {
            there = makeExchange(ch, new Exchange(name, kindOf(kind), bits & KEPT_BITS, table.alternate()));
        }
        if (there && (bits & NO_ANSWER) == 0) {
            answer(ch, DECLARE_EXCHANGE_OK);
        }
    }

    /** Makes an exchange if there is none such; whether it is there then. */
    private boolean makeExchange(Channel ch, Exchange wanted) {
        if (wanted.name.isEmpty()) {
            soft(ch, 403);
            return false;
        }
        if (wanted.kind == NONE) {
            hard(ch.connection, 503);
            return false;
        }
        Exchange old = findExchange(wanted.name);
        if (old != null) {
            boolean alike = old.kind == wanted.kind && old.bits == wanted.bits && sameText(old.alternate, wanted.alternate);
            if (!alike) {
                soft(ch, 406);
            }
            return alike;
        }
        if (exchanges.size() >= MOST_EXCHANGES) {
            hard(ch.connection, 506);
            return false;
        }
        exchanges.add(wanted);
        if (wanted.durable) {
            log.pending.add(wanted);
        }
        return true;
    }

    private void deleteExchange(Channel ch) {
        String name = in.shortText();
        int bits = in.u8();
        if (!argumentsEnd(ch)) {
            return;
        }
        Exchange e = exchangeFor(ch, name);
        if (e == null) {
            return;
        }
        if ((bits & 1) != 0 && bindingsFrom(e) > 0) {
            soft(ch, 406);
            return;
        }
        removeExchange(e);
        if ((bits & 2) == 0) {
            answer(ch, DELETE_EXCHANGE_OK);
        }
    }

    /** The exchange of a name that may not be empty; null behind an error. */
    private Exchange exchangeFor(Channel ch, String name) {
        if (name.isEmpty()) {
            soft(ch, 403);
            return null;
        }
        Exchange e = findExchange(name);
        if (e == null) {
            soft(ch, 404);
        }
        return e;
    }

    private void removeExchange(Exchange e) {
        int at = 0;
        for (int left = bindings.size(); left > 0 && at < bindings.size(); left--) {
            if (bindings.get(at).exchange == e) {
                bindings.remove(at);
            } else {
                at++;
            }
        }
        for (int i = 0; i < exchanges.size(); i++) {
            if (exchanges.get(i) == e) {
                exchanges.remove(i);
                break;
            }
        }
        if (e.durable) {
            log.pending.add(e);
        }
    }

    // ---- Methods of queues ----

    private void declareQueue(Channel ch) {
        String name = in.shortText();
        int bits = in.u8();
        Table table = in.table();
        if (!argumentsEnd(ch)) {
            return;
        }
        Queue q = (bits & PASSIVE) != 0 ? lookedFor(ch, name) : makeQueue(ch, name, bits & KEPT_BITS, table);
        if (q == null) {
            return;
        }
        ch.lastQueue = q.name;
        if ((bits & NO_ANSWER) == 0) {
            Connection con = ch.connection;
            con.method(ch.number, DECLARE_QUEUE_OK);
            con.text(q.name);
            con.put(q.ready.size(), 4);
            con.put(consumersOf(q), 4);
            con.end();
            ship(con);
        }
    }

    /** The queue of a name that may be used on a channel; null behind an error. */
    private Queue lookedFor(Channel ch, String name) {
        Queue q = findQueue(name);
        if (q == null) {
            soft(ch, 404);
            return null;
        }
        if (!q.isOpenTo(ch.connection)) {
            soft(ch, 405);
            return null;
        }
        return q;
    }

    /** Reads a queue's name; an empty one stands for the queue that was declared last. */
    private String readQueueName(Channel ch) {
        String name = in.shortText();
        return name.isEmpty() ? ch.lastQueue : name;
    }

    private Queue makeQueue(Channel ch, String name, int bits, Table table) {
        int generated = name.isEmpty() ? freeNumber() : NONE;
        String fullName = name.isEmpty() ? numbered("gen-", generated) : name;
        Queue wanted = new Queue(fullName, bits, (bits & EXCLUSIVE) != 0 ? ch.connection : null);
        if (!wanted.takeArguments(table)) {
            soft(ch, 406);
            return null;
        }
        Queue old = findQueue(fullName);
        if (old != null && old.isOpenTo(ch.connection) && old.isLike(wanted)) {
            return old;
        }
        if (old != null) {
            soft(ch, old.isOpenTo(ch.connection) ? 406 : 405);
            return null;
        }
        if (queues.size() >= MOST_QUEUES) {
            hard(ch.connection, 506);
            return null;
        }
        if (generated != NONE) {
            lastGenerated = generated;
        }
        queues.add(wanted);
        if (wanted.kept) {
            log.pending.add(wanted);
        }
        return wanted;
    }

    private String numbered(String start, int number) {
        words.setLength(0);
        words.append(start);
        words.append(number);
        return words.toString();
    }

    private int freeNumber() {
        int number = lastGenerated + 1;
        for (int tries = 0; tries < MOST_QUEUES && findQueue(numbered("gen-", number)) != null; tries++) {
            number++;
        }
        return number;
    }

    private void bind(Channel ch) {
        String queueName = readQueueName(ch);
        String exchangeName = in.shortText();
        String key = in.shortText();
        boolean silent = in.u8() != 0;
        Table table = in.table();
        if (!argumentsEnd(ch)) {
            return;
        }
        Queue q = lookedFor(ch, queueName);
        Exchange e = q == null ? null : exchangeFor(ch, exchangeName);
        if (e == null) {
            return;
        }
        Binding wanted = new Binding(e, q, key, table);
        if (findBinding(wanted) == NONE) {
            if (bindings.size() >= MOST_BINDINGS) {
                hard(ch.connection, 506);
                return;
            }
            bindings.add(wanted);
            if (wanted.isRecorded()) {
                log.pending.add(wanted);
            }
        }
        if (!silent) {
            answer(ch, BIND_OK);
        }
    }

    private void unbind(Channel ch) {
        String queueName = readQueueName(ch);
        String exchangeName = in.shortText();
        String key = in.shortText();
        Table table = in.table();
        if (!argumentsEnd(ch)) {
            return;
        }
        Queue q = lookedFor(ch, queueName);
        Exchange e = q == null ? null : exchangeFor(ch, exchangeName);
        if (e == null) {
            return;
        }
        int at = findBinding(new Binding(e, q, key, table));
        if (at != NONE) {
            Binding old = bindings.remove(at);
            if (old.isRecorded()) {
                log.pending.add(old);
            }
            if (e.autoDelete && bindingsFrom(e) == 0) {
                removeExchange(e);
            }
        }
        answer(ch, UNBIND_OK);
    }

    private void purge(Channel ch) {
        String name = readQueueName(ch);
        boolean silent = in.u8() != 0;
        if (!argumentsEnd(ch)) {
            return;
        }
        Queue q = lookedFor(ch, name);
        if (q == null) {
            return;
        }
        int count = q.ready.size();
        for (int left = count; left > 0; left--) {
            leave(q.ready.remove(0), false);
        }
        if (!silent) {
            answerNumber(ch, PURGE_OK, count, 4);
        }
    }

    private void deleteQueue(Channel ch) {
        String name = readQueueName(ch);
        int bits = in.u8();
        if (!argumentsEnd(ch)) {
            return;
        }
        Queue q = lookedFor(ch, name);
        if (q == null) {
            return;
        }
        int count = q.ready.size();
        if (((bits & 1) != 0 && consumersOf(q) > 0) || ((bits & 2) != 0 && count > 0)) {
            soft(ch, 406);
            return;
        }
        removeQueue(q);
        tellConsumers(q);
        if ((bits & 4) == 0) {
            answerNumber(ch, DELETE_QUEUE_OK, count, 4);
        }
    }

    /** Only 50.40 finds consumers still there: a queue that goes otherwise has lost them already. */
    private void tellConsumers(Queue q) {
        int at = 0;
        for (int left = consumers.size(); left > 0 && at < consumers.size(); left--) {
            Consumer consumer = consumers.get(at);
            if (consumer.queue != q) {
                at++;
                continue;
            }
            consumers.remove(at);
            Connection con = consumer.channel.connection;
            con.method(consumer.channel.number, CANCEL);
            con.text(consumer.tag);
            con.put(1, 1);
            con.end();
            ship(con);
        }
    }

    private void removeQueue(Queue q) {
        if (q.kept) {
            log.pending.add(q);
        }
        held -= q.ready.size() + q.unacked;
        q.gone = true;
        for (int i = 0; i < queues.size(); i++) {
            if (queues.get(i) == q) {
                queues.remove(i);
                break;
            }
        }
        int at = 0;
        for (int left = exchanges.size(); left > 0 && at < exchanges.size(); left--) {
            Exchange e = exchanges.get(at);
            if (unbindAll(e, q) && e.autoDelete && bindingsFrom(e) == 0) {
                removeExchange(e);
            } else {
                at++;
            }
        }
    }

    private boolean unbindAll(Exchange e, Queue q) {
        boolean had = false;
        int at = 0;
        for (int left = bindings.size(); left > 0 && at < bindings.size(); left--) {
            if (bindings.get(at).exchange == e && bindings.get(at).queue == q) {
                bindings.remove(at);
                had = true;
            } else {
                at++;
            }
        }
        return had;
    }

    // ---- Contents, routing and the ways of messages ----

    private void beginContent(Channel ch) {
        String exchangeName = in.shortText();
        String key = in.shortText();
        int bits = in.u8();
        if (!argumentsEnd(ch)) {
            return;
        }
        Exchange e = findExchange(exchangeName);
        if (e == null) {
            soft(ch, 404);
        } else if (e.internal) {
            soft(ch, 403);
        } else {
            ch.content = new Message(exchangeName, key, (bits & 1) != 0);
            ch.due = HEADER;
        }
    }

    private void takeHeader(Channel ch) {
        Message m = ch.content;
        int ofClass = in.u16();
        long size = in.u32();
        int flags = in.u16();
        m.priority = (flags & 1) != 0 ? in.u8() : 0;
        m.persistent = (flags & 2) != 0 && in.u8() != 0;
        m.expiration = (flags & 4) != 0 ? in.u32() : NONE;
        m.headers = (flags & 8) != 0 ? in.table() : null;
        if (!in.done() || ofClass != 60 || flags > 15) {
            hard(ch.connection, 502);
            return;
        }
        if (size > MOST_BODY) {
            blame = PUBLISH;
            soft(ch, 311);
            return;
        }
        m.body = new byte[(int) size];
        ch.filled = 0;
        ch.due = BODY;
        if (size == 0) {
            takeContent(ch);
        }
    }

    private void takeBody(Channel ch) {
        byte[] body = ch.content.body;
        int size = in.left();
        if (size > body.length - ch.filled) {
            hard(ch.connection, 501);
            return;
        }
        System.arraycopy(ch.connection.in, FRAME_HEAD, body, ch.filled, size);
        ch.filled += size;
        if (ch.filled == body.length) {
            takeContent(ch);
        }
    }

    private void takeContent(Channel ch) {
        Message m = ch.content;
        ch.content = null;
        ch.due = NOTHING;
        blame = PUBLISH;
        boolean kept = ch.mode == TRANSACTIONS;
        if (kept ? ch.kept >= MOST_KEPT : isFull()) {
            hard(ch.connection, 506);
        } else if (kept) {
            ch.keep(PUBLISHED, m);
        } else {
            boolean recorded = spread(m);
            giveBack(ch, m);
            confirm(ch, recorded);
        }
    }

    private void giveBack(Channel ch, Message m) {
        if (!m.mandatory || !targets.isEmpty()) {
            return;
        }
        Connection con = ch.connection;
        con.method(ch.number, RETURN);
        con.put(312, 2);
        con.put(0, 1);
        con.text(m.exchange);
        con.text(m.key);
        con.end();
        draftContent(ch, m);
        ship(con);
    }

    private void confirm(Channel ch, boolean recorded) {
        if (ch.mode != CONFIRMS) {
            return;
        }
        ch.lastConfirm++;
        if (recorded) {
            ch.confirmsDue.add(ch.lastConfirm);
        } else {
            sendConfirm(ch, ch.lastConfirm);
        }
    }

    private void sendConfirm(Channel ch, int number) {
        Connection con = ch.connection;
        con.method(ch.number, ACK);
        con.put(number, 4);
        con.put(0, 1);
        con.end();
        ship(con);
    }

    private void draftContent(Channel ch, Message m) {
        Connection con = ch.connection;
        con.frame(HEADER, ch.number);
        con.put(60, 2);
        con.put(m.body.length, 4);
        con.put(m.flags(), 2);
        if (m.priority != 0) {
            con.put(m.priority, 1);
        }
        if (m.persistent) {
            con.put(1, 1);
        }
        if (m.expiration != NONE) {
            con.put(m.expiration, 4);
        }
        if (m.headers != null) {
            con.put(m.headers.raw.length(), 4);
            con.chars(m.headers.raw);
        }
        con.end();
        if (m.body.length > 0) {
            con.frame(BODY, ch.number);
            con.bytes(m.body);
            con.end();
        }
    }

    /** Routes a message from its exchange to queues; whether a record of its coming was made. */
    private boolean spread(Message m) {
        route(findExchange(m.exchange), m);
        boolean recorded = false;
        for (int i = 0; i < targets.size() && !isFull(); i++) {
            Message copy = comeTo(targets.get(i), m);
            recorded = recorded || copy.recorded;
        }
        return recorded;
    }

    private void route(Exchange start, Message m) {
        targets.clear();
        Queue named = start == defaultExchange ? findQueue(m.key) : null;
        if (named != null) {
            targets.add(named);
        }
        Exchange e = start;
        // An exchange that is come to again has matched nothing before, so a bound on the steps is enough.
        for (int steps = 0; e != null && targets.isEmpty() && steps <= MOST_EXCHANGES; steps++) {
            for (int i = 0; i < queues.size(); i++) {
                boolean met = false;
                for (int j = 0; j < bindings.size() && !met; j++) {
                    Binding b = bindings.get(j);
                    met = b.exchange == e && b.queue == queues.get(i) && b.matches(m);
                }
                if (met) {
                    targets.add(queues.get(i));
                }
            }
            e = e.alternate == null ? null : findExchange(e.alternate);
        }
    }

    private Message comeTo(Queue q, Message m) {
        lastNumber++;
        held++;
        Message copy = m.inQueue(q, lastNumber, clock);
        if (copy.recorded) {
            log.pending.add(copy);
        }
        q.insert(copy);
        trim(q);
        return copy;
    }

    private void trim(Queue q) {
        if (q.max == NONE) {
            return;
        }
        for (int over = q.ready.size() - q.max; over > 0; over--) {
            leave(q.ready.remove(0), true);
        }
    }

    /** What has to be told when a message has been taken out of its queue. */
    private void leave(Message m, boolean isDead) {
        held--;
        if (m.recorded) {
            log.pending.add(m);
        }
        if (!isDead) {
            return;
        }
        deaths++;
        if (m.queue.dlx != null && m.deaths < MOST_DEATHS && dead.size() < MOST_DEAD) {
            dead.add(m);
        }
    }

    private void expire() {
        for (int i = 0; i < queues.size(); i++) {
            ArrayList<Message> ready = queues.get(i).ready;
            int at = 0;
            for (int left = ready.size(); left > 0 && at < ready.size(); left--) {
                if (ready.get(at).isExpired(clock)) {
                    leave(ready.remove(at), true);
                } else {
                    at++;
                }
            }
        }
    }

    // ---- Consumers ----

    private void limit(Channel ch) {
        int count = in.u16();
        boolean whole = in.u8() != 0;
        if (!argumentsEnd(ch)) {
            return;
        }
        if (whole) {
            ch.limit = count;
        } else {
            ch.consumerLimit = count;
        }
        answer(ch, QOS_OK);
    }

    private void consume(Channel ch) {
        String name = readQueueName(ch);
        String tag = in.shortText();
        int bits = in.u8();
        if (!argumentsEnd(ch)) {
            return;
        }
        Queue q = lookedFor(ch, name);
        if (q == null) {
            return;
        }
        if (hasAlone(q) || ((bits & ALONE) != 0 && consumersOf(q) > 0)) {
            soft(ch, 403);
            return;
        }
        if (findConsumer(ch, tag) != NONE) {
            hard(ch.connection, 530);
            return;
        }
        if (consumers.size() >= MOST_CONSUMERS) {
            hard(ch.connection, 506);
            return;
        }
        Consumer consumer = new Consumer(ch, q, tag.isEmpty() ? freeTag(ch) : tag, bits);
        consumers.add(consumer);
        if ((bits & NO_CONSUME_OK) == 0) {
            answerText(ch, CONSUME_OK, consumer.tag);
        }
    }

    private String freeTag(Channel ch) {
        ch.lastMadeTag++;
        for (int tries = 0; tries < MOST_CONSUMERS; tries++) {
            if (findConsumer(ch, numbered("ctag-", ch.lastMadeTag)) == NONE) {
                break;
            }
            ch.lastMadeTag++;
        }
        return numbered("ctag-", ch.lastMadeTag);
    }

    private void cancel(Channel ch) {
        String tag = in.shortText();
        boolean silent = in.u8() != 0;
        if (!argumentsEnd(ch)) {
            return;
        }
        int at = findConsumer(ch, tag);
        if (at != NONE) {
            removeConsumer(at);
        }
        if (!silent) {
            answerText(ch, CANCEL_OK, tag);
        }
    }

    private void removeConsumer(int at) {
        Queue q = consumers.remove(at).queue;
        if (q.autoDelete && !q.gone && consumersOf(q) == 0) {
            removeQueue(q);
        }
    }

    private void dispatch() {
        for (int steps = 0; steps < MOST_STEPS; steps++) {
            letLeave();
            if (!dispatchOne()) {
                return;
            }
        }
    }

    private boolean dispatchOne() {
        if (!dead.isEmpty()) {
            spread(dead.remove(0).buried());
            return true;
        }
        for (int i = 0; i < queues.size(); i++) {
            Queue q = queues.get(i);
            Consumer next = q.ready.isEmpty() ? null : nextConsumer(q);
            if (next != null) {
                deliver(q, next);
                return true;
            }
        }
        return false;
    }

    private Consumer nextConsumer(Queue q) {
        int count = consumers.size();
        // From the first one if the last that was served is not there any more.
        int first = 0;
        for (int i = 0; i < count; i++) {
            if (consumers.get(i) == q.lastServed) {
                first = i + 1;
            }
        }
        for (int i = 0; i < count; i++) {
            Consumer consumer = consumers.get((first + i) % count);
            if (consumer.queue == q && consumer.hasCredit()) {
                return consumer;
            }
        }
        return null;
    }

    private void deliver(Queue q, Consumer consumer) {
        Channel ch = consumer.channel;
        Connection con = ch.connection;
        q.lastServed = consumer;
        Message m = handOver(q, ch, consumer, consumer.noAck);
        con.method(ch.number, DELIVER);
        con.text(consumer.tag);
        con.put(ch.lastTag, 4);
        con.put(m.redelivered ? 1 : 0, 1);
        con.text(m.exchange);
        con.text(m.key);
        con.end();
        draftContent(ch, m);
        ship(con);
    }

    /** Takes the first ready message out for a channel; the consumer is null for 60.70. */
    private Message handOver(Queue q, Channel ch, Consumer consumer, boolean noAck) {
        Message m = q.ready.remove(0);
        ch.lastTag++;
        if (noAck) {
            leave(m, false);
            return m;
        }
        q.unacked++;
        m.tag = ch.lastTag;
        m.consumer = consumer;
        m.mark = NONE;
        ch.unacked.add(m);
        if (consumer != null) {
            consumer.unacked++;
            ch.unackedOfConsumers++;
        }
        return m;
    }

    private void get(Channel ch) {
        String name = readQueueName(ch);
        boolean noAck = in.u8() != 0;
        if (!argumentsEnd(ch)) {
            return;
        }
        Queue q = lookedFor(ch, name);
        if (q == null) {
            return;
        }
        if (q.ready.isEmpty()) {
            answer(ch, GET_EMPTY);
            return;
        }
        Connection con = ch.connection;
        Message m = handOver(q, ch, null, noAck);
        con.method(ch.number, GET_OK);
        con.put(ch.lastTag, 4);
        con.put(m.redelivered ? 1 : 0, 1);
        con.text(m.exchange);
        con.text(m.key);
        con.put(q.ready.size(), 4);
        con.end();
        draftContent(ch, m);
        ship(con);
    }

    // ---- Acknowledgements, transactions and confirms ----

    private void acknowledge(Channel ch) {
        long tag = in.u32();
        int bits = in.u8();
        if (!argumentsEnd(ch)) {
            return;
        }
        boolean multiple = blame == ACK ? bits != 0 : blame == NACK && (bits & 1) != 0;
        boolean requeue = blame == REJECT ? bits != 0 : (bits & 2) != 0;
        int refused = requeue ? REQUEUED : DEAD;
        int how = blame == ACK ? DONE : refused;
        if (!(multiple && tag == 0) && !ch.hasUnacked(tag)) {
            soft(ch, 406);
            return;
        }
        boolean kept = ch.mode == TRANSACTIONS;
        if (kept && ch.kept >= MOST_KEPT) {
            hard(ch.connection, 506);
            return;
        }
        ch.markUnacked(tag, multiple);
        if (kept) {
            ch.keep(how, null);
        } else {
            finishMarked(ch, ch.kept, how);
        }
    }

    private void recover(Channel ch) {
        boolean requeue = in.u8() != 0;
        if (!argumentsEnd(ch)) {
            return;
        }
        if (!requeue) {
            hard(ch.connection, 540);
            return;
        }
        ch.markUnacked(0, true);
        finishMarked(ch, ch.kept, REQUEUED);
        answer(ch, RECOVER_OK);
    }

    private void finishMarked(Channel ch, int mark, int how) {
        int at = 0;
        for (int left = ch.unacked.size(); left > 0 && at < ch.unacked.size(); left--) {
            if (ch.unacked.get(at).mark == mark) {
                finish(ch, at, how);
            } else {
                at++;
            }
        }
    }

    private void finish(Channel ch, int at, int how) {
        Message m = ch.unacked.remove(at);
        Queue q = m.queue;
        if (m.consumer != null) {
            m.consumer.unacked--;
            ch.unackedOfConsumers--;
        }
        if (q.gone) {
            return;
        }
        q.unacked--;
        if (how == REQUEUED) {
            m.redelivered = true;
            q.insert(m);
            trim(q);
        } else {
            leave(m, how == DEAD);
        }
    }

    private void selectTransactions(Channel ch) {
        if (!argumentsEnd(ch)) {
            return;
        }
        if (ch.mode == CONFIRMS) {
            soft(ch, 406);
            return;
        }
        ch.mode = TRANSACTIONS;
        answer(ch, TX_SELECT_OK);
    }

    private void commit(Channel ch) {
        if (!argumentsEnd(ch)) {
            return;
        }
        if (ch.mode != TRANSACTIONS) {
            soft(ch, 406);
            return;
        }
        for (int i = 0; i < ch.kept && ch.connection.state == OPEN; i++) {
            if (ch.keptKinds[i] != PUBLISHED) {
                finishMarked(ch, i, ch.keptKinds[i]);
            } else if (isFull()) {
                hard(ch.connection, 506);
            } else {
                spread(ch.keptMessages[i]);
                giveBack(ch, ch.keptMessages[i]);
            }
        }
        ch.kept = 0;
        if (ch.connection.state == OPEN) {
            answer(ch, TX_COMMIT_OK);
        }
    }

    private void rollBack(Channel ch) {
        if (!argumentsEnd(ch)) {
            return;
        }
        if (ch.mode != TRANSACTIONS) {
            soft(ch, 406);
            return;
        }
        ch.forgetKept();
        answer(ch, TX_ROLLBACK_OK);
    }

    private void selectConfirms(Channel ch) {
        boolean silent = in.u8() != 0;
        if (!argumentsEnd(ch)) {
            return;
        }
        if (ch.mode == TRANSACTIONS) {
            soft(ch, 406);
            return;
        }
        ch.mode = CONFIRMS;
        if (!silent) {
            answer(ch, CONFIRM_SELECT_OK);
        }
    }

    // ---- Ticks and crashes ----

    private void sendConfirmsDue() {
        for (int c = 0; c < MOST_CONNECTIONS; c++) {
            for (int k = 1; k <= MOST_CHANNELS; k++) {
                Channel ch = connections[c].channels[k];
                for (int i = 0; i < ch.confirmsDue.size(); i++) {
                    sendConfirm(ch, ch.confirmsDue.get(i));
                }
                ch.confirmsDue.clear();
            }
        }
    }

    private void watch(Connection con) {
        if (con.state == CLOSING) {
            if (clock - con.closingSince >= CLOSING_TICKS) {
                close(con);
            }
            return;
        }
        if (con.state != OPEN || con.heartbeat == 0) {
            return;
        }
        if (clock - con.lastIn >= 2 * con.heartbeat) {
            close(con);
        } else if (clock - con.lastOut >= con.heartbeat) {
            con.frame(HEARTBEAT, 0);
            con.end();
            ship(con);
        }
    }

    private void forgetAll() {
        exchanges.clear();
        queues.clear();
        bindings.clear();
        consumers.clear();
        dead.clear();
        held = 0;
    }

    private void restore() {
        for (int i = 0; i < log.things.size(); i++) {
            Durable thing = log.things.get(i);
            if (thing instanceof Exchange e) {
                exchanges.add(e);
            } else if (thing instanceof Queue q) {
                q.restart();
                queues.add(q);
            } else if (thing instanceof Binding b) {
                bindings.add(b);
            } else if (thing instanceof Message m) {
                m.redelivered = true;
                m.came = clock;
                m.queue.insert(m);
                held++;
            }
        }
    }

    // ---- The classes inside ----

    /** Reads numbers and texts from bytes; wrong as soon as something is not as told. */
    private static final class Reader {
        private byte[] bytes = new byte[0];
        private int at = 0;
        private int end = 0;
        private boolean wrong = false;

        void over(byte[] source, int from, int to) {
            bytes = source;
            at = from;
            end = to;
            wrong = from > to;
        }

        long number(int size) {
            if (size > end - at) {
                wrong = true;
                return 0;
            }
            long value = 0;
            for (int i = 0; i < size; i++) {
                value = (value << 8) | (bytes[at] & 255);
                at++;
            }
            return value;
        }

        int u8() {
            return (int) number(1);
        }

        int u16() {
            return (int) number(2);
        }

        long u32() {
            return number(4);
        }

        String text(long size, int most) {
            if (size > most || size > end - at) {
                wrong = true;
                return "";
            }
            char[] chars = new char[(int) size];
            for (int i = 0; i < chars.length; i++) {
                chars[i] = (char) (bytes[at] & 255);
                at++;
            }
            return new String(chars);
        }

        String shortText() {
            return text(u8(), MOST_TEXT);
        }

        Table table() {
            Table table = new Table(text(u32(), MOST_TABLE));
            if (!table.scan()) {
                wrong = true;
            }
            return table;
        }

        int left() {
            return end - at;
        }

        boolean done() {
            return !wrong && at == end;
        }
    }

    /** A table as it came, and where the entries that count stand in it. */
    private static final class Table {
        final String raw;
        int count = 0;
        final int[] from;
        final int[] to;

        Table(String bytes) {
            raw = bytes;
            // No entry is shorter than three bytes.
            from = new int[bytes.length() / 3];
            to = new int[bytes.length() / 3];
        }

        /** Finds the entries that count, of those of one name the last; false if these are no entries. */
        boolean scan() {
            int start = 0;
            for (int entries = 0; start < raw.length() && entries < MOST_TABLE; entries++) {
                int length = raw.charAt(start);
                int end = length > MOST_TEXT ? NONE : endOfValue(start + 1 + length);
                if (end == NONE) {
                    return false;
                }
                int i = find(raw.substring(start + 1, start + 1 + length));
                if (i == NONE) {
                    i = count;
                    count++;
                }
                from[i] = start;
                to[i] = end;
                start = end;
            }
            return true;
        }

        private int endOfValue(int kindAt) {
            if (kindAt >= raw.length()) {
                return NONE;
            }
            int end = NONE;
            char kind = raw.charAt(kindAt);
            if (kind == 't') {
                end = kindAt + 2;
            } else if (kind == 'I') {
                end = kindAt + 5;
            } else if (kind == 'S' && kindAt + 5 <= raw.length()) {
                int length = numberAt(kindAt + 1);
                end = length < 0 || length > MOST_TEXT ? NONE : kindAt + 5 + length;
            }
            return end > raw.length() ? NONE : end;
        }

        private int numberAt(int at) {
            int value = 0;
            for (int i = at; i < at + 4 && i < raw.length(); i++) {
                value = (value << 8) | raw.charAt(i);
            }
            return value;
        }

        int find(String name) {
            for (int i = 0; i < count; i++) {
                int start = from[i] + 1;
                int length = raw.charAt(from[i]);
                int same = 0;
                while (same < length && same < name.length() && raw.charAt(start + same) == name.charAt(same)) {
                    same++;
                }
                if (same == length && same == name.length()) {
                    return i;
                }
            }
            return NONE;
        }

        private int kindAt(int i) {
            return from[i] + 1 + raw.charAt(from[i]);
        }

        /** Whether it has an entry that is of another kind than told. */
        boolean isOtherThan(char kind, String name) {
            int i = find(name);
            return i != NONE && raw.charAt(kindAt(i)) != kind;
        }

        /** A number between limits; NONE if there is none, WRONG if it is not one such. */
        int numberOf(String name, int least, int most) {
            int i = find(name);
            if (i == NONE) {
                return NONE;
            }
            int value = numberAt(kindAt(i) + 1);
            return raw.charAt(kindAt(i)) == 'I' && value >= least && value <= most ? value : WRONG;
        }

        /** A text; null if there is none. */
        String textOf(String name) {
            int i = find(name);
            return i != NONE && raw.charAt(kindAt(i)) == 'S' ? raw.substring(kindAt(i) + 5, to[i]) : null;
        }

        String alternate() {
            String name = textOf("alt");
            return name == null || name.isEmpty() ? null : name;
        }

        /** An entry's bytes are the same just when name, kind and value are. */
        boolean holds(Table other, int i) {
            int length = other.to[i] - other.from[i];
            for (int j = 0; j < count; j++) {
                int same = 0;
                while (same < length && same < to[j] - from[j]
                        && raw.charAt(from[j] + same) == other.raw.charAt(other.from[i] + same)) {
                    same++;
                }
                if (same == length && same == to[j] - from[j]) {
                    return true;
                }
            }
            return false;
        }

        boolean isLike(Table other) {
            boolean alike = count == other.count;
            for (int i = 0; i < count && alike; i++) {
                alike = other.holds(this, i);
            }
            return alike;
        }
    }

    /** A connection: what has come in of a frame, and the ring of bytes that wait to be read. */
    private static final class Connection {
        final Channel[] channels = new Channel[MOST_CHANNELS + 1];
        int state = CLOSED;
        int heartbeat = 0;
        int lastIn = 0;
        int lastOut = 0;
        int closingSince = 0;
        final byte[] in = new byte[FRAME_HEAD + MOST_SIZE + 1];
        int inLength = 0;
        // Once it has sent what is no frame nothing is looked at any more.
        boolean deaf = false;
        private final byte[] out = new byte[MOST_OUT];
        private int outStart = 0;
        int outLength = 0;
        // Bytes behind those that wait, which are not sent yet; they count on beyond the ring's end.
        int drafted = 0;
        private int frameAt = 0;

        void restart(int clock) {
            state = GREETING;
            heartbeat = 0;
            lastIn = clock;
            lastOut = clock;
            inLength = 0;
            deaf = false;
            outLength = 0;
            drafted = 0;
        }

        /** Closes it without any effect beyond its own channels. */
        void drop() {
            state = CLOSED;
            inLength = 0;
            for (int k = 1; k < channels.length; k++) {
                channels[k].state = SHUT;
                channels[k].forget();
            }
        }

        int openChannels() {
            int count = 0;
            for (int k = 1; k < channels.length; k++) {
                if (channels[k].state == LIVE) {
                    count++;
                }
            }
            return count;
        }

        /** Takes in a byte; true when there is something whole, or what can be no frame. */
        boolean takes(byte next) {
            if (deaf || inLength >= in.length) {
                return false;
            }
            in[inLength] = next;
            inLength++;
            if (state == GREETING) {
                return inLength == GREETING_BYTES.length;
            }
            if (inLength < FRAME_HEAD) {
                return false;
            }
            return !hasFineHead() || inLength == FRAME_HEAD + frameSize() + 1;
        }

        private boolean hasFineHead() {
            int first = in[0];
            boolean known = first == METHOD || first == HEADER || first == BODY || first == HEARTBEAT;
            return known && frameSize() <= MOST_SIZE;
        }

        boolean isFrame() {
            return hasFineHead() && (in[(int) (FRAME_HEAD + frameSize())] & 255) == FRAME_END;
        }

        boolean isIdleBeat() {
            return in[0] == HEARTBEAT && frameChannel() == 0 && frameSize() == 0;
        }

        int frameChannel() {
            return (in[1] & 255) << 8 | (in[2] & 255);
        }

        long frameSize() {
            return (in[3] & 255L) << 24 | (in[4] & 255) << 16 | (in[5] & 255) << 8 | (in[6] & 255);
        }

        /** Class and method of a METHOD that has four bytes, else 0. */
        int frameMethod() {
            if (in[0] != METHOD || frameSize() < 4) {
                return 0;
            }
            return (in[7] & 255) << 24 | (in[8] & 255) << 16 | (in[9] & 255) << 8 | (in[10] & 255);
        }

        /** Drafts the lowest bytes of a word, the highest first. */
        void put(long word, int bytes) {
            for (int i = bytes - 1; i >= 0; i--) {
                int at = outLength + drafted;
                if (at < MOST_OUT) {
                    out[(outStart + at) % MOST_OUT] = (byte) (word >>> (8 * i));
                }
                drafted++;
            }
        }

        void frame(int ofType, int onChannel) {
            frameAt = drafted;
            put((long) ofType << 48 | (long) onChannel << 32, FRAME_HEAD);
        }

        void method(int onChannel, int method) {
            frameAt = drafted;
            put((long) METHOD << 48 | (long) onChannel << 32, FRAME_HEAD);
            put(method, 4);
        }

        void text(String text) {
            put(text.length(), 1);
            for (int i = 0; i < text.length(); i++) {
                put(text.charAt(i), 1);
            }
        }

        void chars(String text) {
            for (int i = 0; i < text.length(); i++) {
                put(text.charAt(i), 1);
            }
        }

        void bytes(byte[] bytes) {
            for (int i = 0; i < bytes.length; i++) {
                put(bytes[i], 1);
            }
        }

        /** Ends a frame: only now its size is known. */
        void end() {
            int size = drafted - frameAt - FRAME_HEAD;
            put(FRAME_END, 1);
            for (int i = 0; i < 4; i++) {
                int at = outLength + frameAt + 3 + i;
                if (at < MOST_OUT) {
                    out[(outStart + at) % MOST_OUT] = (byte) (size >>> (24 - 8 * i));
                }
            }
        }

        /** Sends what was drafted if it fits. */
        boolean fits() {
            boolean fitting = outLength + drafted <= MOST_OUT;
            if (fitting) {
                outLength += drafted;
            }
            drafted = 0;
            return fitting;
        }

        int pull() {
            int first = out[outStart] & 255;
            outStart = (outStart + 1) % MOST_OUT;
            outLength--;
            return first;
        }
    }

    /** A channel; that of number 0 stands for its connection, and is never live. */
    private static final class Channel {
        final Connection connection;
        final int number;
        int state = SHUT;
        int mode = 0;
        boolean active = true;
        int limit = 0;
        int consumerLimit = 0;
        int lastTag = 0;
        int lastMadeTag = 0;
        int lastConfirm = 0;
        String lastQueue = "";
        int due = NOTHING;
        Message content = null;
        int filled = 0;
        // In the order of delivery tags.
        final ArrayList<Message> unacked = new ArrayList<Message>();
        int unackedOfConsumers = 0;
        int kept = 0;
        final int[] keptKinds = new int[MOST_KEPT];
        final Message[] keptMessages = new Message[MOST_KEPT];
        final ArrayList<Integer> confirmsDue = new ArrayList<Integer>();

        Channel(Connection ofConnection, int itsNumber) {
            connection = ofConnection;
            number = itsNumber;
        }

        void restart() {
            forget();
            state = LIVE;
            mode = 0;
            active = true;
            limit = 0;
            consumerLimit = 0;
            lastTag = 0;
            lastMadeTag = 0;
            lastConfirm = 0;
            lastQueue = "";
        }

        void forget() {
            due = NOTHING;
            content = null;
            unacked.clear();
            unackedOfConsumers = 0;
            kept = 0;
            confirmsDue.clear();
        }

        void keep(int kind, Message message) {
            if (kept < MOST_KEPT) {
                keptKinds[kept] = kind;
                keptMessages[kept] = message;
                kept++;
            }
        }

        void forgetKept() {
            kept = 0;
            for (int i = 0; i < unacked.size(); i++) {
                unacked.get(i).mark = NONE;
            }
        }

        boolean hasUnacked(long tag) {
            for (int i = 0; i < unacked.size(); i++) {
                if (unacked.get(i).tag == tag && unacked.get(i).mark == NONE) {
                    return true;
                }
            }
            return false;
        }

        /** Marks what a method names with the place where a transaction would keep that method. */
        void markUnacked(long tag, boolean multiple) {
            for (int i = 0; i < unacked.size(); i++) {
                Message m = unacked.get(i);
                boolean named = m.tag == tag || (multiple && (tag == 0 || m.tag < tag));
                if (named && m.mark == NONE) {
                    m.mark = kept;
                }
            }
        }
    }

    /** What the log tells of. */
    private abstract static class Durable {
        // Whether the safe records have made it.
        boolean safe = false;

        boolean goesWith(Durable other) {
            return this == other;
        }
    }

    private static final class Exchange extends Durable {
        final String name;
        final int kind;
        final int bits;
        final String alternate;
        final boolean durable;
        final boolean autoDelete;
        final boolean internal;

        Exchange(String itsName, int itsKind, int itsBits, String itsAlternate) {
            name = itsName;
            kind = itsKind;
            bits = itsBits;
            alternate = itsAlternate;
            durable = (itsBits & DURABLE) != 0;
            autoDelete = (itsBits & EXCHANGE_AUTO_DELETE) != 0;
            internal = (itsBits & INTERNAL) != 0;
        }
    }

    private static final class Queue extends Durable {
        final String name;
        final int bits;
        final Connection owner;
        final boolean kept;
        final boolean autoDelete;
        int max = NONE;
        int ttl = NONE;
        int pri = 0;
        String dlx = null;
        String dlk = null;
        final ArrayList<Message> ready = new ArrayList<Message>();
        int unacked = 0;
        Consumer lastServed = null;
        boolean gone = false;

        Queue(String itsName, int itsBits, Connection itsOwner) {
            name = itsName;
            bits = itsBits;
            owner = itsOwner;
            kept = (itsBits & DURABLE) != 0 && (itsBits & EXCLUSIVE) == 0;
            autoDelete = (itsBits & QUEUE_AUTO_DELETE) != 0;
        }

        boolean isOpenTo(Connection con) {
            return owner == null || owner == con;
        }

        /** Takes its arguments from a table; false if one is wrong. */
        boolean takeArguments(Table table) {
            max = table.numberOf("max", 1, 50);
            ttl = table.numberOf("ttl", 1, 1000);
            int told = table.numberOf("pri", 0, 9);
            pri = told == NONE ? 0 : told;
            dlx = table.textOf("dlx");
            dlk = table.textOf("dlk");
            boolean wrongText = table.isOtherThan('S', "dlx") || table.isOtherThan('S', "dlk");
            return max != WRONG && ttl != WRONG && pri != WRONG && !wrongText;
        }

        boolean isLike(Queue other) {
            return bits == other.bits && max == other.max && ttl == other.ttl && pri == other.pri
                    && sameText(dlx, other.dlx) && sameText(dlk, other.dlk);
        }

        void restart() {
            ready.clear();
            unacked = 0;
            lastServed = null;
            gone = false;
        }

        void insert(Message m) {
            int at = ready.size();
            while (at > 0 && ready.get(at - 1).isBehind(m)) {
                at--;
            }
            ready.add(at, m);
        }
    }

    private static final class Binding extends Durable {
        final Exchange exchange;
        final Queue queue;
        final String key;
        final Table table;
        private final int matchEntry;
        private final boolean any;

        Binding(Exchange from, Queue to, String itsKey, Table itsTable) {
            exchange = from;
            queue = to;
            key = itsKey;
            table = itsTable;
            matchEntry = itsTable.find("match");
            any = sameText(itsTable.textOf("match"), "any");
        }

        @Override
        boolean goesWith(Durable other) {
            return this == other || exchange == other || queue == other;
        }

        boolean isRecorded() {
            return exchange.durable && queue.kept;
        }

        boolean isLike(Binding other) {
            return exchange == other.exchange && queue == other.queue && key.equals(other.key) && table.isLike(other.table);
        }

        boolean matches(Message m) {
            switch (exchange.kind) {
                case DIRECT:
                    return key.equals(m.key);
                case FANOUT:
                    return true;
                case TOPIC:
                    return topicMatches(key, m.key);
                default:
                    return tableMatches(m.headers);
            }
        }

        private boolean tableMatches(Table headers) {
            for (int i = 0; i < table.count; i++) {
                boolean held = headers != null && headers.holds(table, i);
                if (i != matchEntry && held == any) {
                    return any;
                }
            }
            return !any;
        }

        /** Words are told by where they start; one that starts behind a text's length is none. */
        private static boolean topicMatches(String pattern, String key) {
            int p = 0;
            int k = 0;
            int backP = NONE;
            int backK = 0;
            for (int steps = 0; k <= key.length() && steps < MOST_STEPS; steps++) {
                if (isWord(pattern, p, '#')) {
                    p += 2;
                    backP = p;
                    backK = k;
                } else if (isWord(pattern, p, '*') || isSameWord(pattern, p, key, k)) {
                    p = nextWord(pattern, p);
                    k = nextWord(key, k);
                } else if (backP != NONE) {
                    // The latest # takes one word more.
                    backK = nextWord(key, backK);
                    p = backP;
                    k = backK;
                } else {
                    return false;
                }
            }
            while (p < pattern.length() && isWord(pattern, p, '#')) {
                p += 2;
            }
            return p > pattern.length();
        }

        private static boolean isWord(String text, int at, char word) {
            return at < text.length() && text.charAt(at) == word
                    && (at + 1 == text.length() || text.charAt(at + 1) == '.');
        }

        private static int nextWord(String text, int from) {
            int at = from;
            while (at < text.length() && text.charAt(at) != '.') {
                at++;
            }
            return at + 1;
        }

        private static boolean isSameWord(String a, int aFrom, String b, int bFrom) {
            if (aFrom > a.length() || bFrom > b.length()) {
                return false;
            }
            for (int i = 0; i <= a.length(); i++) {
                boolean aEnds = aFrom + i >= a.length() || a.charAt(aFrom + i) == '.';
                boolean bEnds = bFrom + i >= b.length() || b.charAt(bFrom + i) == '.';
                if (aEnds || bEnds) {
                    return aEnds && bEnds;
                }
                if (a.charAt(aFrom + i) != b.charAt(bFrom + i)) {
                    return false;
                }
            }
            return false;
        }
    }

    /** A message: a content with its exchange and key, and, in a queue, what it has there. */
    private static final class Message extends Durable {
        final String exchange;
        final String key;
        final boolean mandatory;
        int priority = 0;
        boolean persistent = false;
        long expiration = NONE;
        Table headers = null;
        byte[] body = null;
        int deaths = 0;
        Queue queue = null;
        boolean recorded = false;
        int number = 0;
        int rank = 0;
        int came = 0;
        boolean redelivered = false;
        // While it is unacked: its delivery tag, who got it, and where a transaction keeps its end.
        int tag = 0;
        Consumer consumer = null;
        int mark = NONE;

        Message(String itsExchange, String itsKey, boolean isMandatory) {
            exchange = itsExchange;
            key = itsKey;
            mandatory = isMandatory;
        }

        /** The same content with another exchange and key. */
        private Message(Message other, String itsExchange, String itsKey) {
            exchange = itsExchange;
            key = itsKey;
            mandatory = false;
            priority = other.priority;
            persistent = other.persistent;
            expiration = other.expiration;
            headers = other.headers;
            body = other.body;
            deaths = other.deaths;
        }

        Message inQueue(Queue q, int itsNumber, int clock) {
            Message m = new Message(this, exchange, key);
            m.queue = q;
            m.recorded = persistent && q.kept;
            m.number = itsNumber;
            m.rank = Math.min(q.pri, priority);
            m.came = clock;
            return m;
        }

        /** As it is routed anew when it has been dead in its queue. */
        Message buried() {
            Message m = new Message(this, queue.dlx, queue.dlk == null ? key : queue.dlk);
            m.expiration = NONE;
            m.deaths = deaths + 1;
            return m;
        }

        @Override
        boolean goesWith(Durable other) {
            return this == other || queue == other;
        }

        boolean isBehind(Message other) {
            return rank < other.rank || (rank == other.rank && number > other.number);
        }

        boolean isExpired(int clock) {
            int age = clock - came;
            return (queue.ttl != NONE && age >= queue.ttl) || (expiration != NONE && age >= expiration);
        }

        int flags() {
            return (priority != 0 ? 1 : 0) | (persistent ? 2 : 0) | (expiration != NONE ? 4 : 0) | (headers != null ? 8 : 0);
        }
    }

    private static final class Consumer {
        final Channel channel;
        final Queue queue;
        final String tag;
        final boolean noAck;
        final boolean alone;
        private final int limit;
        int unacked = 0;

        Consumer(Channel onChannel, Queue ofQueue, String itsTag, int bits) {
            channel = onChannel;
            queue = ofQueue;
            tag = itsTag;
            noAck = (bits & NO_ACK) != 0;
            alone = (bits & ALONE) != 0;
            limit = onChannel.consumerLimit;
        }

        boolean hasCredit() {
            if (!channel.active || noAck) {
                return channel.active;
            }
            boolean below = limit == 0 || unacked < limit;
            return below && (channel.limit == 0 || channel.unackedOfConsumers < channel.limit);
        }
    }

    /** The log: the records that are not safe, and what the safe ones have made, in the order of its coming. */
    private static final class Log {
        // A thing comes once and goes once, so a record is told by its thing alone.
        final ArrayList<Durable> pending = new ArrayList<Durable>();
        final ArrayList<Durable> things = new ArrayList<Durable>();

        /** Makes the first n records safe; the rest is forgotten. */
        void makeSafe(int n) {
            for (int i = 0; i < n && i < pending.size(); i++) {
                Durable thing = pending.get(i);
                if (thing.safe) {
                    remove(thing);
                } else {
                    things.add(thing);
                }
                thing.safe = !thing.safe;
            }
            pending.clear();
        }

        /** What goes with a queue or an exchange has no record of its own. */
        private void remove(Durable gone) {
            int at = 0;
            for (int left = things.size(); left > 0 && at < things.size(); left--) {
                if (things.get(at).goesWith(gone)) {
                    things.remove(at);
                } else {
                    at++;
                }
            }
        }
    }
}
