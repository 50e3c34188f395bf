import java.util.Arrays;

/** The edges that the term ERRORS names: each frame in each situation of its channel, by the order of the rules. */
public final class EdgeErrorTest {
    // Situations of the channel on which a frame comes.
    private static final int CHANNEL_0 = 0;
    private static final int SHUT = 1;
    private static final int LIVE = 2;
    private static final int HEADER_DUE = 3;
    private static final int BODY_DUE = 4;
    private static final int ENDING = 5;
    private static final int ABOVE = 6;
    private static final int[] CHANNEL_OF = {0, 2, 1, 1, 1, 1, 4};

    // What a METHOD is, apart from its channel.
    private static final char FINE = 'f';
    private static final char WRONG = 'w';
    private static final char UNKNOWN = 'u';
    private static final char NEVER = 'n';

    private static final int FITS = 0;
    private static final int CLOSES = 1;
    private static final int PASSED = 2;

    /** METHODS without their channel, led by what they are. */
    private static final String[] METHODS = {
        "f10.50 0:2 ' 0:2 0:2", "w10.50", "w10.50 0:2 ' 0:2 0:2 0", "w10.50 0:2 '" + Kit.repeat("x", 41) + " 0:2 0:2", "n10.51", "n10.51 7", "n10.11", "n10.11 'me",
        "n10.31", "n10.31 3:2 400:4 0:2", "n10.40", "n10.40 '", "u10.10", "u10.10 0 9", "u10.30", "u10.41", "u10.0", "u10.52", "u10.65535",
        "f20.10", "w20.10 0", "f20.20 1", "w20.20", "w20.20 1 1", "f20.40 0:2 ' 0:2 0:2", "w20.40", "w20.40 0:2 ' 0:2 0", "n20.41", "n20.41 1",
        "u20.11", "u20.21 1", "u20.0", "u20.42", "u20.65535", "u0.0", "u9.10", "u11.10", "u19.10", "u21.10", "u30.10", "u65535.65535", "u266.50", "u276.10",
        "f40.10 'e 'direct 0 {}", "w40.10 ' 'none 0", "w40.10 ' 'none 0 {a=Q1}", "f40.20 'e 0", "w40.20 'e", "u40.11", "u40.21", "u40.30",
        "f50.10 'q 0 {}", "w50.10 'q 0", "f50.20 'q 'e ' 0 {}", "w50.20 'q 'e ' {}", "f50.30 'q 0", "w50.30 'q", "f50.40 'q 0", "w50.40 'q 0 0", "f50.50 'q 'e ' {}",
        "w50.50 'q 'e ' 0 {}", "u50.11", "u50.21", "u50.31", "u50.41", "u50.51", "u50.60",
        "f60.10 0:2 0", "w60.10 0 0", "f60.20 'q ' 0", "w60.20 'q '", "f60.30 'c 0", "w60.30 'c", "f60.40 ' ' 0", "w60.40 ' '", "f60.70 'q 0", "w60.70 'q",
        "f60.80 0:4 1", "w60.80 0:2 1", "f60.90 1:4 1", "w60.90 1:4", "f60.120 0:4 1", "w60.120 0:4", "f60.110 1", "w60.110", "w60.110 0 0",
        "u60.11", "u60.21", "u60.31", "u60.50", "u60.60", "u60.71", "u60.72", "u60.100", "u60.111", "u60.121",
        "f85.10 0", "w85.10", "u85.11", "u85.20", "f90.10", "w90.10 0", "f90.20", "w90.20 0", "f90.30", "w90.30 0", "u90.11", "u90.21", "u90.31", "u90.40",
    };

    public static void main(String[] args) {
        for (int situation = CHANNEL_0; situation <= ABOVE; situation++) {
            methods(situation);
            shortMethods(situation);
            heartbeats(situation);
            headers(situation);
            bodies(situation);
            noFrames(situation);
        }
        headerFields();
        headerSizes();
        bodySizes();
        argumentsAheadOfMeaning();
        hardEndsAll();
        softEndsOne();
        afterSoft();
        contentMakesIt();
        Kit.end();
    }

    private static Kit in(int situation, String what) {
        Kit k = new Kit(what + " in situation " + situation);
        k.open(0);
        k.say(0, "1 50.10 'q 16 {}", "1 40.10 'e 'direct 16 {}");
        if (situation == HEADER_DUE || situation == BODY_DUE) {
            k.say(0, "1 60.40 ' 'q 0");
        }
        if (situation == BODY_DUE) {
            k.say(0, "1 H 60:2 2:4 0:2");
        }
        if (situation == ENDING) {
            k.say(0, "1 60.80 9:4 0");
        }
        k.readAll(0);
        k.channel(0, 1, 0, situation == ENDING ? 2 : 1);
        return k;
    }

    /** The code that is due for a METHOD of four bytes or more, or what else becomes of it. */
    private static int codeOf(int situation, char what, int ofClass, int method) {
        boolean opens = ofClass == 20 && method == 10;
        if (situation == ABOVE) {
            return 504;
        }
        if (situation == ENDING) {
            return PASSED;
        }
        if ((situation == CHANNEL_0) != (ofClass == 10)) {
            return 503;
        }
        if (situation != CHANNEL_0 && opens != (situation == SHUT)) {
            return 504;
        }
        if (situation == HEADER_DUE || situation == BODY_DUE) {
            return 505;
        }
        if (what == UNKNOWN) {
            return 540;
        }
        if (what == NEVER) {
            return 503;
        }
        if (what == WRONG) {
            return 502;
        }
        return situation == CHANNEL_0 ? CLOSES : FITS;
    }

    private static void judge(Kit k, int code, int ofClass, int method, byte[] frame) {
        if (code >= 500) {
            k.due("state", k.sendBytes(0, frame), 6);
            k.hear(0, "0 10.50 " + code + ":2 ' " + ofClass + ":2 " + method + ":2");
            k.connected(0, 2, 0);
            k.sayDue(0, 0, "0 10.51");
        } else if (code == CLOSES) {
            k.due("state", k.sendBytes(0, frame), 0);
        } else {
            k.due("state", k.sendBytes(0, frame), 5);
        }
    }

    private static void methods(int situation) {
        for (String text : METHODS) {
            String[] numbers = text.substring(1).split(" ")[0].split("\\.");
            int ofClass = Integer.parseInt(numbers[0]);
            int method = Integer.parseInt(numbers[1]);
            int code = codeOf(situation, text.charAt(0), ofClass, method);
            Kit k = in(situation, text);
            judge(k, code, ofClass, method, Kit.frame(CHANNEL_OF[situation] + " " + text.substring(1)));
            if (code == PASSED) {
                boolean ends = ofClass == 20 && (method == 40 || method == 41);
                k.hear(0, ends && method == 40 ? new String[] {"1 20.41"} : new String[0]);
                k.channel(0, 1, 0, ends ? 0 : 2);
            }
        }
    }

    /** Less than four bytes: 502, of class and method 0 0, even where these bytes begin like one. */
    private static void shortMethods(int situation) {
        for (int length = 0; length < 4; length++) {
            for (byte first : new byte[] {10, 20, 60}) {
                Kit k = in(situation, length + " bytes of " + first);
                int code = situation == ABOVE ? 504 : situation == ENDING ? PASSED : 502;
                judge(k, code, 0, 0, Kit.raw(1, CHANNEL_OF[situation], Arrays.copyOf(new byte[] {0, first, 0}, length)));
            }
        }
    }

    private static void heartbeats(int situation) {
        for (int size : new int[] {0, 1, 400}) {
            Kit k = in(situation, "a heartbeat of " + size);
            int code = 501;
            if (situation == ABOVE) {
                code = 504;
            } else if (situation == ENDING) {
                code = PASSED;
            } else if (situation == CHANNEL_0 && size == 0) {
                code = FITS;
            }
            judge(k, code, 0, 0, Kit.raw(8, CHANNEL_OF[situation], new byte[size]));
            k.connected(0, 3, 0);
        }
    }

    private static int codeOfContent(int situation, boolean isDue, int faultOfIt) {
        if (situation == ABOVE || situation == CHANNEL_0 || situation == SHUT) {
            return 504;
        }
        if (situation == ENDING) {
            return PASSED;
        }
        return isDue ? faultOfIt : 505;
    }

    private static void headers(int situation) {
        String[] frames = {"H 60:2 0:4 0:2", "H 60:2 0:4 0:2 0", "H 60:2 0:4", "H", "H 0:2 0:4 0:2", "H 60:2 201:4 16:2"};
        for (int i = 0; i < frames.length; i++) {
            Kit k = in(situation, frames[i]);
            int code = codeOfContent(situation, situation == HEADER_DUE, i == 0 ? FITS : 502);
            judge(k, code, 0, 0, Kit.frame(CHANNEL_OF[situation] + " " + frames[i]));
        }
    }

    private static void bodies(int situation) {
        String[] frames = {"B", "B x", "B xy", "B xyz"};
        for (int i = 0; i < frames.length; i++) {
            Kit k = in(situation, frames[i]);
            int code = codeOfContent(situation, situation == BODY_DUE, i > 2 ? 501 : FITS);
            judge(k, code, 0, 0, Kit.frame(CHANNEL_OF[situation] + " " + frames[i]));
            k.total(1, situation == BODY_DUE && i == 2 ? 1 : 0);
        }
    }

    /** What is no FRAME is found ahead of all else, also on a channel that passes all over. */
    private static void noFrames(int situation) {
        byte channel = (byte) CHANNEL_OF[situation];
        byte[][] none = {{9, 0, channel, 0, 0, 0, 0}, {1, 0, channel, 0, 0, 1, (byte) 145}, {1, 0, channel, 0, 0, 0, 0, 0}, {8, 0, channel, 0, 0, 0, 0, (byte) 207}};
        for (byte[] bytes : none) {
            Kit k = in(situation, "no frame");
            k.due("state", k.sendBytes(0, bytes), 6);
            k.hear(0, "0 10.50 501:2 ' 0:2 0:2");
            k.sayDue(0, 6, "0 10.51");
        }
    }

    /** HEADER: bytes not exactly as told, another CLASS than 60, FLAGS above 15. */
    private static void headerFields() {
        String[] wrong = {"59:2 0:4 0:2", "61:2 0:4 0:2", "0:2 0:4 0:2", "316:2 0:4 0:2", "15360:2 0:4 0:2", "60:2 0:4 16:2", "60:2 0:4 32:2", "60:2 0:4 256:2",
            "60:2 0:4 32768:2", "60:2 0:4 65535:2", "60:2 0:4 16:2 0", "60:2 0:4 1:2", "60:2 0:4 1:2 0 0", "60:2 0:4 2:2", "60:2 0:4 2:2 0 0", "60:2 0:4 4:2 0:2 0",
            "60:2 0:4 4:2 0:4 0", "60:2 0:4 8:2", "60:2 0:4 8:2 0:2 0", "60:2 0:4 8:2 0:4 0", "60:2 0:4 3:2 0", "60:2 0:4 15:2 0 0 0:4 0:2 0", "60:2 0:4 0", "60:2 0:4",
            "60:2 0:2 0", "60:2", "60", "60:2 0:4 0:2 0", "59:2 201:4 0:2", "60:2 201:4 16:2", "60:2 201:4 1:2"};
        for (String fields : wrong) {
            Kit k = in(HEADER_DUE, "headerFields " + fields);
            k.hard(0, 502, 0, 0, "1 H " + fields);
        }
        for (int flags = 0; flags <= 15; flags++) {
            String told = (flags & 1) != 0 ? " 7" : "";
            told += (flags & 2) != 0 ? " 1" : "";
            told += (flags & 4) != 0 ? " 90:4" : "";
            told += (flags & 8) != 0 ? " {a=I1}" : "";
            Kit k = in(HEADER_DUE, "headerFields " + flags);
            k.ask(0, "1 H 60:2 0:4 " + flags + ":2" + told);
            k.ask(0, "1 60.70 'q 0", "1 60.71 1:4 0 ' 'q 0:4", "1 H 60:2 0:4 " + flags + ":2" + told);
        }
    }

    /** A BODY of more than 200 bytes: 311 SOFT, of 60.40. */
    private static void headerSizes() {
        for (int size : new int[] {0, 1, 199, 200}) {
            Kit k = in(HEADER_DUE, "headerSizes " + size);
            k.ask(0, "1 H 60:2 " + size + ":4 0:2");
            if (size > 0) {
                k.ask(0, "1 B " + Kit.repeat("x", size - 1));
                k.total(1, 0);
                k.ask(0, "1 B x");
            }
            k.total(1, 1);
        }
        for (String size : new String[] {"201:4", "256:4", "65536:4", "2147483648:4", "2147483649:4", "4294967295:4"}) {
            Kit k = in(HEADER_DUE, "headerSizes " + size);
            k.soft(0, 311, 60, 40, "1 H 60:2 " + size + " 0:2");
            k.ask(0, "1 20.20 1", "1 20.21 1");
        }
    }

    /** BODY: more bytes than are left, in one frame or in several. */
    private static void bodySizes() {
        int[][] frames = {{201}, {200, 1}, {199, 2}, {1, 200}, {0, 201}, {100, 100, 1}};
        for (int[] sizes : frames) {
            Kit k = in(HEADER_DUE, "bodySizes");
            k.ask(0, "1 H 60:2 200:4 0:2");
            for (int i = 0; i < sizes.length - 1; i++) {
                k.ask(0, "1 B " + Kit.repeat("x", sizes[i]));
            }
            int before = Arrays.stream(sizes).sum() - sizes[sizes.length - 1];
            // Behind a whole content none is due.
            k.hard(0, before == 200 ? 505 : 501, 0, 0, "1 B " + Kit.repeat("x", sizes[sizes.length - 1]));
            k.total(1, before == 200 ? 1 : 0);
        }
        Kit k = in(HEADER_DUE, "no BODY for a content without bytes");
        k.ask(0, "1 H 60:2 0:4 0:2");
        k.total(1, 1);
        k.hard(0, 505, 0, 0, "1 B");
        k = in(HEADER_DUE, "other channels may speak between the frames of a content");
        k.openChannel(0, 2);
        k.ask(0, "1 H 60:2 2:4 0:2");
        k.ask(0, "2 20.20 1", "2 20.21 1");
        k.ask(0, "2 60.40 ' 'q 0");
        k.ask(0, "1 B a");
        k.ask(0, "2 H 60:2 1:4 0:2");
        k.ask(0, "1 B b");
        k.ask(0, "2 B c");
        k.ask(0, "0 8");
        k.ask(0, "1 60.70 'q 1", "1 60.71 1:4 0 ' 'q 1:4", "1 H 60:2 2:4 0:2", "1 B ab");
        k.ask(0, "1 60.70 'q 1", "1 60.71 2:4 0 ' 'q 0:4", "1 H 60:2 1:4 0:2", "1 B c");
    }

    /** Arguments are looked at ahead of what they mean. */
    private static void argumentsAheadOfMeaning() {
        Object[][] rows = {{40, 10, "' 'none 0 {} 0"}, {40, 20, "' 0 0"}, {50, 10, "'q 0 {max=I0} 0"}, {50, 20, "'none ' ' 0 {a=x1}"}, {50, 30, "'none 0 0"},
            {50, 40, "'none 0 0"}, {50, 50, "'none ' ' {} 0"}, {60, 20, "'none ' 0 0"}, {60, 40, "'none ' 0 0"}, {60, 70, "'none 0 0"}, {60, 80, "9:4 0 0"},
            {60, 90, "9:4 0 0"}, {60, 120, "9:4 0 0"}, {60, 110, "0 0"}, {90, 20, "0"}, {90, 30, "0"}};
        for (Object[] row : rows) {
            Kit k = in(LIVE, "argumentsAheadOfMeaning");
            k.hard(0, 502, (Integer) row[0], (Integer) row[1], "1 " + row[0] + "." + row[1] + " " + row[2]);
        }
        Kit k = in(LIVE, "transactions where there are confirms");
        k.say(0, "1 85.10 1");
        k.hard(0, 502, 90, 10, "1 90.10 0");
        k = in(LIVE, "confirms where there are transactions");
        k.say(0, "1 90.10");
        k.readAll(0);
        k.hard(0, 502, 85, 10, "1 85.10");
        k = in(LIVE, "an exchange of which another one is asked for");
        k.hard(0, 502, 40, 10, "1 40.10 'e 'fanout 0 {} 0");
    }

    /** HARD: the channels are GONE, EXCLUSIVE queues deleted, STATE 6; other connections go on. */
    private static void hardEndsAll() {
        Kit k = in(LIVE, "hardEndsAll");
        k.open(1);
        k.openChannel(0, 2);
        k.openChannel(0, 3);
        k.say(0, "2 50.10 'own 20 {}", "3 60.20 'q 'c 8", "2 60.80 1:4 0");
        k.readAll(0);
        k.connected(0, 2, 2);
        k.publish(1, "", "q", "x");
        k.readAll(0);
        k.total(5, 1);
        k.say(1, "1 60.20 'q 'd 8");
        k.hard(0, 540, 1, 1, "1 1.1");
        k.hear(1, "1 60.60 'd 1:4 1 ' 'q", "1 H 60:2 1:4 0:2", "1 B x");
        for (int channel = 1; channel <= 3; channel++) {
            k.channel(0, channel, 0, 0);
        }
        k.total(2, 1);
        k.total(5, 1);
        k.connected(1, 0, 5);
        k.due("connect", k.hall.connect(0), false);
        k.due("cut", k.hall.cut(0), true);
        k.due("connect", k.hall.connect(0), true);
    }

    /** SOFT: that channel is GONE and CLOSING; the others go on. */
    private static void softEndsOne() {
        Kit k = in(LIVE, "softEndsOne");
        k.openChannel(0, 2);
        k.say(0, "1 50.10 'own 20 {}", "1 60.20 'q 'c 8", "2 60.20 'q 'd 8");
        k.publish(0, "", "q", "x");
        k.readAll(0);
        k.ask(0, "1 60.80 9:4 0", "1 20.40 406:2 ' 60:2 80:2", "2 60.60 'd 1:4 1 ' 'q", "2 H 60:2 1:4 0:2", "2 B x");
        k.channel(0, 1, 0, 2);
        k.channel(0, 2, 0, 1);
        for (int what = 1; what <= 6; what++) {
            k.channel(0, 1, what, 0);
        }
        k.total(2, 2);
        k.total(5, 1);
        k.ask(0, "2 20.20 1", "2 20.21 1");
    }

    /** A channel that is CLOSING stays so through ticks, and is opened again once it is closed. */
    private static void afterSoft() {
        Kit k = in(ENDING, "afterSoft");
        k.tick(100, 100);
        k.channel(0, 1, 0, 2);
        k.sayDue(0, 5, "1 20.41");
        k.channel(0, 1, 0, 0);
        k.hard(0, 504, 20, 41, "1 20.41");
        k = in(ENDING, "20.40 twice");
        k.sayDue(0, 5, "1 20.40 0:2 ' 0:2 0:2");
        k.hear(0, "1 20.41");
        k.hard(0, 504, 20, 40, "1 20.40 0:2 ' 0:2 0:2");
        k = in(ENDING, "a connection that ends shuts it");
        k.sayDue(0, 6, "9 8");
        k.channel(0, 1, 0, 0);
    }

    /** 60 40 where a content that is there makes it; 0 0 for another FRAME. */
    private static void contentMakesIt() {
        for (String body : new String[] {"", "x"}) {
            Kit k = new Kit("contentMakesIt " + body);
            k.open(0);
            k.say(0, "1 90.10");
            for (int i = 0; i < 32; i++) {
                k.say(0, Kit.publishing("", "q", 0, "0:2", ""));
            }
            k.readAll(0);
            k.channel(0, 1, 2, 32);
            k.sayDue(0, 6, Kit.publishing("", "q", 0, "0:2", body));
            k.hear(0, "0 10.50 506:2 ' 60:2 40:2");
        }
    }
}
