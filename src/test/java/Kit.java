import java.io.ByteArrayOutputStream;
import java.util.ArrayList;
import java.util.NoSuchElementException;

/**
 * What the tests share: a hall, frames written as texts, and checks that count what is wrong.
 *
 * A frame is "CHANNEL CLASS.METHOD arguments", "CHANNEL H arguments", "CHANNEL B text" or "CHANNEL 8".
 * An argument is 'text (a SHORT), n (a u8), n:2 or n:4 (a u16 or u32), or {name=I5,name=Stext,name=t1} (a TABLE).
 */
final class Kit {
    static final String GREETING = "RLAY\0\0\t\1";
    private static int wrong = 0;
    private static int checks = 0;

    final RelayHall hall = new RelayHall();
    private final String name;
    private int calls = 0;
    private static Kit latest = null;

    Kit(String name) {
        this.name = name;
        lookAtCalls();
        latest = this;
    }

    /** Behind 512 calls of an object what it answers is free, so no test may go beyond them. */
    private static void lookAtCalls() {
        if (latest != null && latest.calls > 512) {
            wrong++;
            System.out.println(latest.name + ": made " + latest.calls + " calls, more than the document allows");
        }
    }

    static void end() {
        lookAtCalls();
        System.out.println(checks + " checks, " + wrong + " wrong");
        System.exit(wrong == 0 ? 0 : 1);
    }

    void due(String what, long got, long want) {
        calls++;
        checks++;
        if (got != want) {
            wrong++;
            System.out.println(name + ": " + what + " answered " + got + ", due is " + want);
        }
    }

    void due(String what, boolean got, boolean want) {
        due(what, got ? 1 : 0, want ? 1 : 0);
    }

    static byte[] frame(String text) {
        String[] words = text.split(" ");
        ByteArrayOutputStream payload = new ByteArrayOutputStream();
        int type = 1;
        if (words[1].equals("8")) {
            type = 8;
        } else if (words[1].equals("B")) {
            type = 3;
            byte[] body = bytes(text.substring(Math.min(text.length(), words[0].length() + 3)));
            payload.write(body, 0, body.length);
            words = new String[] {words[0], "B"};
        } else if (words[1].equals("H")) {
            type = 2;
        } else {
            String[] method = words[1].split("\\.");
            number(payload, Long.parseLong(method[0]), 2);
            number(payload, Long.parseLong(method[1]), 2);
        }
        for (int i = 2; i < words.length; i++) {
            argument(payload, words[i]);
        }
        return raw(type, Integer.parseInt(words[0]), payload.toByteArray());
    }

    static byte[] raw(int type, int channel, byte[] payload) {
        ByteArrayOutputStream out = new ByteArrayOutputStream();
        number(out, type, 1);
        number(out, channel, 2);
        number(out, payload.length, 4);
        out.write(payload, 0, payload.length);
        out.write(206);
        return out.toByteArray();
    }

    private static void argument(ByteArrayOutputStream out, String word) {
        if (word.startsWith("'")) {
            out.write(word.length() - 1);
            byte[] text = bytes(word.substring(1));
            out.write(text, 0, text.length);
        } else if (word.startsWith("{")) {
            byte[] table = table(word.substring(1, word.length() - 1));
            number(out, table.length, 4);
            out.write(table, 0, table.length);
        } else {
            String[] parts = word.split(":");
            number(out, Long.parseLong(parts[0]), parts.length > 1 ? Integer.parseInt(parts[1]) : 1);
        }
    }

    private static byte[] table(String text) {
        ByteArrayOutputStream out = new ByteArrayOutputStream();
        String[] entries = text.isEmpty() ? new String[0] : text.split(",");
        for (String entry : entries) {
            int at = entry.indexOf('=');
            argument(out, "'" + entry.substring(0, at));
            char kind = entry.charAt(at + 1);
            String value = entry.substring(at + 2);
            out.write(kind);
            if (kind == 'S') {
                number(out, value.length(), 4);
                out.write(bytes(value), 0, value.length());
            } else {
                number(out, Long.parseLong(value), kind == 'I' ? 4 : 1);
            }
        }
        return out.toByteArray();
    }

    static byte[] bytes(String text) {
        byte[] out = new byte[text.length()];
        for (int i = 0; i < out.length; i++) {
            out[i] = (byte) text.charAt(i);
        }
        return out;
    }

    private static void number(ByteArrayOutputStream out, long value, int bytes) {
        for (int i = bytes - 1; i >= 0; i--) {
            out.write((int) (value >>> (8 * i)));
        }
    }

    static byte[] join(String... frames) {
        ByteArrayOutputStream out = new ByteArrayOutputStream();
        for (String text : frames) {
            byte[] one = frame(text);
            out.write(one, 0, one.length);
        }
        return out.toByteArray();
    }

    static String repeat(String text, int times) {
        return text.repeat(times);
    }

    /** Types bytes and sends them, in as many tapes as they need; what the last send answered. */
    int sendBytes(int c, byte[] bytes) {
        int state = RelayHall.NONE;
        int typed = 0;
        for (int at = 0; at < bytes.length; ) {
            int n = Math.min(8, bytes.length - at);
            long word = 0;
            for (int i = 0; i < n; i++) {
                word = word << 8 | (bytes[at + i] & 255);
            }
            if (typed + n > 420) {
                state = hall.send(c);
                typed = 0;
                calls++;
            }
            calls++;
            if (!hall.type(word, n)) {
                due("type", 0, 1);
            }
            typed += n;
            at += n;
        }
        calls++;
        return hall.send(c);
    }

    int say(int c, String... frames) {
        return sendBytes(c, join(frames));
    }

    void sayDue(int c, int state, String... frames) {
        due("send(" + c + ") of " + String.join(" | ", frames), say(c, frames), state);
    }

    byte[] readAll(int c) {
        calls++;
        byte[] out = new byte[hall.waiting(c)];
        for (int at = 0; at < out.length; ) {
            int n = Math.min(8, out.length - at);
            long word = hall.read(c, n);
            calls++;
            for (int i = n - 1; i >= 0; i--) {
                out[at + i] = (byte) word;
                word >>>= 8;
            }
            at += n;
        }
        return out;
    }

    /** Reads all that waits and compares it with frames. */
    void hear(int c, String... frames) {
        checks++;
        byte[] got = readAll(c);
        byte[] want = join(frames);
        if (!show(got).equals(show(want))) {
            wrong++;
            System.out.println(name + ": connection " + c + " was sent\n  " + show(got) + "\n due is\n  " + show(want));
        }
    }

    static String show(byte[] bytes) {
        StringBuilder out = new StringBuilder();
        for (byte b : bytes) {
            out.append(b & 255).append(' ');
        }
        return out.toString();
    }

    /** Connects, and goes on to STATE 5 with a heartbeat; what it was sent is read. */
    void open(int c, int heartbeat) {
        due("connect(" + c + ")", hall.connect(c), true);
        sendBytes(c, bytes(GREETING));
        sayDue(c, 5, "0 10.11 'me", "0 10.31 3:2 400:4 " + heartbeat + ":2", "0 10.40 '/");
        readAll(c);
    }

    /** Opens a connection with its channel 1. */
    void open(int c) {
        open(c, 0);
        openChannel(c, 1);
    }

    /** Brings a connection that is CLOSED to a STATE; what it was sent is read. */
    void bring(int c, int state) {
        due("connect(" + c + ")", hall.connect(c), true);
        if (state >= 2) {
            sendBytes(c, bytes(GREETING));
        }
        String[] frames = {"0 10.11 '", "0 10.31 3:2 400:4 0:2", "0 10.40 '", "1 99.9"};
        for (int i = 3; i <= state; i++) {
            say(c, frames[i - 3]);
        }
        readAll(c);
        connected(c, 0, state);
    }

    void openChannel(int c, int channel) {
        sayDue(c, 5, channel + " 20.10");
        hear(c, channel + " 20.11");
    }

    void connected(int c, int what, int want) {
        due("connection(" + c + ", " + what + ")", hall.connection(c, what), want);
    }

    void channel(int c, int channel, int what, int want) {
        due("channel(" + c + ", " + channel + ", " + what + ")", hall.channel(c, channel, what), want);
    }

    void queue(int k, int what, int want) {
        due("queue(" + k + ", " + what + ")", hall.queue(k, what), want);
    }

    void exchange(int k, int what, int want) {
        due("exchange(" + k + ", " + what + ")", hall.exchange(k, what), want);
    }

    void total(int what, int want) {
        due("total(" + what + ")", hall.total(what), want);
    }

    void tick(int n, int want) {
        due("tick(" + n + ")", hall.tick(n), want);
    }

    void crash(int n, int want) {
        due("crash(" + n + ")", hall.crash(n), want);
    }

    /** A queue by its name, since its place changes. */
    int place(String queue) {
        int queues = hall.total(2);
        calls++;
        for (int k = 0; k < queues; k++) {
            boolean same = hall.queue(k, 4) == queue.length();
            calls++;
            for (int i = 0; i < queue.length() && same; i++) {
                same = hall.queue(k, 100 + i) == queue.charAt(i);
                calls++;
            }
            if (same) {
                return k;
            }
        }
        return RelayHall.NONE;
    }

    void ready(String queue, int want) {
        due("ready messages of " + queue, hall.queue(place(queue), 0), want);
    }

    /** Publishes on channel 1 with a HEADER that has no flags. */
    void publish(int c, String exchange, String key, String body) {
        publish(c, exchange, key, "0:2", body);
    }

    /** Publishes on channel 1; flags: those of the HEADER and what they bring. */
    void publish(int c, String exchange, String key, String flags, String body) {
        say(c, publishing(exchange, key, 0, flags, body));
    }

    static String[] publishing(String exchange, String key, int bits, String flags, String body) {
        String method = "1 60.40 '" + exchange + " '" + key + " " + bits;
        String header = "1 H 60:2 " + body.length() + ":4 " + flags;
        return body.isEmpty() ? new String[] {method, header} : new String[] {method, header, "1 B " + body};
    }

    /** Fills what waits on a connection until just so many bytes more would fit, by way of its channel 3. */
    void stuff(int c, int room) {
        say(c, "3 20.10", "3 50.10 'stuff 20 {}");
        int left = 5000 - room - hall.waiting(c) - 12;
        stuffMessage(c, 200);
        ArrayList<String> frames = new ArrayList<>();
        for (int tag = 1; left > 252 + 60; tag++) {
            frames.add("3 60.70 'stuff 0");
            frames.add("3 60.90 " + tag + ":4 1");
            left -= 252;
        }
        frames.add("3 50.30 'stuff 1");
        say(c, frames.toArray(new String[0]));
        if (left > 252) {
            stuffMessage(c, 100);
            say(c, "3 60.70 'stuff 1");
            left -= 152;
        }
        stuffMessage(c, left - 52);
        say(c, "3 60.70 'stuff 1", "3 50.40 'stuff 4", "3 20.40 0:2 ' 0:2 0:2");
        due("waiting", hall.waiting(c), 5000 - room);
    }

    /** A message of b bytes; what 60.70 sends of it has 52 more. */
    private void stuffMessage(int c, int b) {
        say(c, "3 60.40 ' 'stuff 0", "3 H 60:2 " + b + ":4 0:2", "3 B " + repeat("z", b));
    }

    /** 0 if read answers, 1 for NoSuchElementException, 2 for IndexOutOfBoundsException. */
    int thrownByRead(int c, int n) {
        try {
            hall.read(c, n);
            return 0;
        } catch (NoSuchElementException e) {
            return 1;
        } catch (IndexOutOfBoundsException e) {
            return 2;
        }
    }

    boolean tickThrows(int n) {
        try {
            hall.tick(n);
            return false;
        } catch (IllegalArgumentException e) {
            return true;
        }
    }

    boolean crashThrows(int n) {
        try {
            hall.crash(n);
            return false;
        } catch (IllegalArgumentException e) {
            return true;
        }
    }

    /** A HARD error: the connection is CLOSING, and was told why. */
    void hard(int c, int code, int ofClass, int method, String... frames) {
        sayDue(c, 6, frames);
        hear(c, "0 10.50 " + code + ":2 ' " + ofClass + ":2 " + method + ":2");
    }

    /** A HARD error of bytes that are a frame of their own; then the connection is OPEN again, with its channel 1. */
    void hardOf(int c, int code, int ofClass, int method, byte[] bytes) {
        due("send(" + c + ") of " + show(bytes), sendBytes(c, bytes), 6);
        hear(c, "0 10.50 " + code + ":2 ' " + ofClass + ":2 " + method + ":2");
        sayDue(c, 0, "0 10.51");
        open(c);
    }

    /** A SOFT error on channel 1, which is opened again behind it. */
    void soft(int c, int code, int ofClass, int method, String... frames) {
        sayDue(c, 5, frames);
        hear(c, "1 20.40 " + code + ":2 ' " + ofClass + ":2 " + method + ":2");
        channel(c, 1, 0, 2);
        sayDue(c, 5, "1 20.41");
        channel(c, 1, 0, 0);
        openChannel(c, 1);
    }

    /** Says frames and compares all that comes back. */
    void ask(int c, String frame, String... answers) {
        sayDue(c, 5, frame);
        hear(c, answers);
    }
}
