import java.util.Arrays;

/** The edges that the terms BYTES and FRAME name: how long, which kind, which bit. */
public final class EdgeBytesTest {
    private static final String FORTY = "'" + Kit.repeat("x", 40);
    private static final String FORTY_ONE = "'" + Kit.repeat("x", 41);

    /** METHODS as a client may say them, with all their arguments, where q is a queue and e an exchange. */
    private static final String[] METHODS = {
        "0 10.50 0:2 'ab 0:2 0:2", "2 20.10", "1 20.20 1", "1 20.40 0:2 'ab 0:2 0:2", "1 40.10 'ex 'direct 0 {a=I5,b=Sxy,c=t1}", "1 40.20 'e 0",
        "1 50.10 'qu 0 {a=I5,b=Sxy,c=t1}", "1 50.20 'q 'e 'k 0 {a=I5,b=Sxy,c=t1}", "1 50.50 'q 'e 'k {a=I5,b=Sxy,c=t1}", "1 50.30 'q 0", "1 50.40 'q 0",
        "1 60.10 1:2 0", "1 60.20 'q 'c 0", "1 60.30 'c 0", "1 60.40 'e 'k 0", "1 60.70 'q 0", "1 60.80 1:4 0", "1 60.90 1:4 0", "1 60.120 1:4 0",
        "1 60.110 1", "1 85.10 0", "1 90.10", "1 90.20", "1 90.30",
    };

    public static void main(String[] args) {
        argumentsToTheByte();
        shortTexts();
        shortTextsOfHandshake();
        longTexts();
        longTextsThatAreTooLong();
        tableSizes();
        tableNames();
        tablesThatDoNotEnd();
        kinds();
        signs();
        lastNameCounts();
        alikeTables();
        bitsPassedOver();
        yesOrNo();
        frameTypes();
        frameSizes();
        lastBytes();
        channelNumbers();
        Kit.end();
    }

    private static Kit fresh(String name) {
        Kit k = new Kit(name);
        k.open(0);
        k.say(0, "1 50.10 'q 16 {}", "1 40.10 'e 'headers 16 {}");
        return k;
    }

    private static int number(String frame, int part) {
        return Integer.parseInt(frame.split(" ")[1].split("\\.")[part]);
    }

    private static byte[] payload(String frame) {
        byte[] whole = Kit.frame(frame);
        return Arrays.copyOfRange(whole, 7, whole.length - 1);
    }

    /** Arguments that are not exactly as told: each length that is too short, and one that is too long. */
    private static void argumentsToTheByte() {
        for (String method : METHODS) {
            byte[] payload = payload(method);
            int channel = Integer.parseInt(method.split(" ")[0]);
            for (int length = 0; length <= payload.length + 1; length++) {
                Kit k = fresh("argumentsToTheByte " + length + " of " + method);
                byte[] cut = Kit.raw(1, channel, Arrays.copyOf(payload, length));
                if (length == payload.length) {
                    k.due("just right", k.sendBytes(0, cut) != 6, true);
                } else if (length < 4) {
                    k.hardOf(0, 502, 0, 0, cut);
                } else {
                    k.hardOf(0, 502, number(method, 0), number(method, 1), cut);
                }
            }
        }
    }

    /** SHORT: at most 40 bytes. The answer to one of 40 shows that it was taken. */
    private static void shortTexts() {
        String soft = "1 20.40 404:2 ' ";
        String[][] rows = {
            {"1 20.40 0:2 @ 0:2 0:2", "1 20.41"}, {"1 40.10 @ 'direct 0 {}", "1 40.11"}, {"1 40.20 @ 0", soft + "40:2 20:2"},
            {"1 50.10 @ 0 {}", "1 50.11 @ 0:4 0:4"}, {"1 50.20 @ 'e 'k 0 {}", soft + "50:2 20:2"}, {"1 50.20 'q @ 'k 0 {}", soft + "50:2 20:2"},
            {"1 50.20 'q 'e @ 0 {}", "1 50.21"}, {"1 50.50 @ 'e 'k {}", soft + "50:2 50:2"}, {"1 50.50 'q @ 'k {}", soft + "50:2 50:2"},
            {"1 50.50 'q 'e @ {}", "1 50.51"}, {"1 50.30 @ 0", soft + "50:2 30:2"}, {"1 50.40 @ 0", soft + "50:2 40:2"},
            {"1 60.20 @ 'c 0", soft + "60:2 20:2"}, {"1 60.20 'q @ 0", "1 60.21 @"}, {"1 60.30 @ 0", "1 60.31 @"}, {"1 60.40 @ 'k 0", soft + "60:2 40:2"},
            {"1 60.40 ' @ 0"}, {"1 60.70 @ 0", soft + "60:2 70:2"},
        };
        for (String[] row : rows) {
            Kit k = fresh("shortTexts " + row[0]);
            String[] answers = row.length == 1 ? new String[0] : new String[] {row[1].replace("@", FORTY)};
            k.ask(0, row[0].replace("@", FORTY), answers);
            k = fresh("shortTexts that are too long " + row[0]);
            k.hard(0, 502, number(row[0], 0), number(row[0], 1), row[0].replace("@", FORTY_ONE));
            k = fresh("shortTexts of 255 " + row[0]);
            k.hard(0, 502, number(row[0], 0), number(row[0], 1), row[0].replace("@", "'" + Kit.repeat("x", 255)));
        }
        Kit k = fresh("a kind of 40 bytes is no kind");
        k.hard(0, 503, 40, 10, "1 40.10 'n " + FORTY + " 0 {}");
        k = fresh("a kind of 41 bytes is no SHORT");
        k.hard(0, 502, 40, 10, "1 40.10 'n " + FORTY_ONE + " 0 {}");
        k = fresh("a text of 40 bytes");
        k.sayDue(0, 0, "0 10.50 0:2 " + FORTY + " 0:2 0:2");
        k = fresh("a text of 41 bytes");
        k.hard(0, 502, 10, 50, "0 10.50 0:2 " + FORTY_ONE + " 0:2 0:2");
        k = fresh("texts that are empty");
        k.ask(0, "1 20.40 0:2 ' 0:2 0:2", "1 20.41");
        k = fresh("bytes above 127");
        k.ask(0, "1 60.20 'q '\u00ff\u0080\u0000 0", "1 60.21 '\u00ff\u0080\u0000");
        k.ask(0, "1 50.10 '\u00fe 0 {}", "1 50.11 '\u00fe 0:4 0:4");
        k.queue(1, 100, 254);
        k.ask(0, "1 40.10 '\u00fd 'topic 0 {}", "1 40.11");
        k.exchange(1, 100, 253);
    }

    private static void shortTextsOfHandshake() {
        Kit k = new Kit("shortTextsOfHandshake");
        k.bring(0, 2);
        k.sayDue(0, 3, "0 10.11 " + FORTY);
        k.sayDue(0, 4, "0 10.31 3:2 400:4 0:2");
        k.sayDue(0, 5, "0 10.40 " + FORTY);
        k.bring(1, 2);
        k.sayDue(1, 0, "0 10.11 " + FORTY_ONE);
        k.bring(2, 4);
        k.sayDue(2, 0, "0 10.40 " + FORTY_ONE);
    }

    /** Where a TABLE stands, @ being its entries; the answers to one that is fine. */
    private static final String[][] TABLES = {
        {"1 40.10 'n 'direct 0 {@}", "1 40.11"}, {"1 50.10 'n 0 {@}", "1 50.11 'n 0:4 0:4"}, {"1 50.20 'q 'e 'k 0 {@}", "1 50.21"}, {"1 50.50 'q 'e 'k {@}", "1 50.51"},
    };

    private static void fine(String what, String entries) {
        for (String[] row : TABLES) {
            Kit k = fresh(what + ": " + row[0]);
            k.ask(0, row[0].replace("@", entries), row[1]);
        }
        Kit k = fresh(what + ": HEADERS");
        k.ask(0, "1 60.40 ' 'q 0");
        k.ask(0, "1 H 60:2 0:4 8:2 {" + entries + "}");
        k.ask(0, "1 60.70 'q 1", "1 60.71 1:4 0 ' 'q 0:4", "1 H 60:2 0:4 8:2 {" + entries + "}");
    }

    private static void wrong(String what, String entries) {
        for (String[] row : TABLES) {
            Kit k = fresh(what + ": " + row[0]);
            k.hard(0, 502, number(row[0], 0), number(row[0], 1), row[0].replace("@", entries));
        }
        Kit k = fresh(what + ": HEADERS");
        k.ask(0, "1 60.40 ' 'q 0");
        k.hard(0, 502, 0, 0, "1 H 60:2 0:4 8:2 {" + entries + "}");
    }

    /** S: a LONG of at most 40 bytes. */
    private static void longTexts() {
        fine("S of none", "a=S");
        fine("S of 39", "a=S" + Kit.repeat("s", 39));
        fine("S of 40", "a=S" + Kit.repeat("s", 40));
        wrong("S of 41", "a=S" + Kit.repeat("s", 41));
    }

    /** All four bytes of a LONG's length count. */
    private static void longTextsThatAreTooLong() {
        String[] lengths = {"41:4", "256:4", "257:4", "65536:4", "65537:4", "16777217:4", "2147483648:4", "2147483649:4", "4294967295:4"};
        for (String length : lengths) {
            Kit k = fresh("longTextsThatAreTooLong " + length);
            k.hard(0, 502, 50, 10, "1 50.10 'n 0 8:4 'a 83 " + length + " 120");
        }
        Kit k = fresh("a LONG that is longer than what is left");
        k.hard(0, 502, 50, 10, "1 50.10 'n 0 8:4 'a 83 2:4 120");
        k = fresh("a LONG that is just what is left");
        k.ask(0, "1 50.10 'n 0 8:4 'a 83 1:4 120", "1 50.11 'n 0:4 0:4");
    }

    private static String entriesOf(int bytes) {
        return Kit.repeat(Kit.repeat("n", 13) + "=t1,", 9) + Kit.repeat("m", bytes - 144 - 3) + "=t2";
    }

    /** TABLE: at most 160 bytes. */
    private static void tableSizes() {
        fine("a TABLE of none", "");
        fine("a TABLE of 3", "=t0");
        fine("a TABLE of 159", entriesOf(159));
        fine("a TABLE of 160", entriesOf(160));
        wrong("a TABLE of 161", entriesOf(161));
        String[] sizes = {"1:4", "256:4", "65536:4", "16777216:4", "2147483648:4", "4294967295:4"};
        for (String size : sizes) {
            Kit k = fresh("a TABLE without its " + size);
            k.hard(0, 502, 50, 10, "1 50.10 'n 0 " + size);
        }
    }

    /** A name in a TABLE is a SHORT as well. */
    private static void tableNames() {
        fine("a name of none", "=I1");
        fine("a name of 40", Kit.repeat("n", 40) + "=I1");
        wrong("a name of 41", Kit.repeat("n", 41) + "=I1");
        wrong("a name of 41 behind a fine one", "a=t1," + Kit.repeat("n", 41) + "=I1");
    }

    /** What a TABLE's last entry says must be there, to the byte. */
    private static void tablesThatDoNotEnd() {
        String[] entries = {"'abc 73 7:4", "'abc 83 2:4 104 105", "'abc 116 1"};
        int[] sizes = {9, 11, 6};
        for (int i = 0; i < entries.length; i++) {
            byte[] whole = payload("1 50.10 'n 0 " + sizes[i] + ":4 " + entries[i]);
            for (int size = 0; size <= sizes[i]; size++) {
                byte[] cut = Arrays.copyOf(whole, whole.length - sizes[i] + size);
                cut[cut.length - size - 1] = (byte) size;
                Kit k = fresh("tablesThatDoNotEnd " + size + " of " + entries[i]);
                if (size == 0 || size == sizes[i]) {
                    k.due("whole", k.sendBytes(0, Kit.raw(1, 1, cut)), 5);
                    k.hear(0, "1 50.11 'n 0:4 0:4");
                } else {
                    k.hardOf(0, 502, 50, 10, Kit.raw(1, 1, cut));
                }
            }
        }
    }

    /** I, S and t are the kinds, and no other byte is. */
    private static void kinds() {
        for (int kind = 0; kind < 256; kind++) {
            Kit k = fresh("kind " + kind);
            if (kind == 'I' || kind == 'S') {
                k.ask(0, "1 50.10 'n 0 7:4 'a " + kind + " 0:4", "1 50.11 'n 0:4 0:4");
            } else if (kind == 't') {
                k.ask(0, "1 50.10 'n 0 4:4 'a " + kind + " 255", "1 50.11 'n 0:4 0:4");
            } else {
                k.hard(0, 502, 50, 10, "1 50.10 'n 0 7:4 'a " + kind + " 0:4");
            }
        }
    }

    /** I has a sign; u16 and u32 have none. */
    private static void signs() {
        Kit k = fresh("signs");
        String[] beyond = {"max=I-1", "max=I-2147483648", "max=I2147483647", "max=I-2147483647", "ttl=I-1", "pri=I-1", "pri=I-2147483648"};
        for (String argument : beyond) {
            k.soft(0, 406, 50, 10, "1 50.10 'n 0 {" + argument + "}");
        }
        k = fresh("a u32 has no sign");
        k.say(0, "1 50.10 'r 16 {}");
        k.publish(0, "", "q", "4:2 2147483648:4", "a");
        k.tick(100, 100);
        k.ready("q", 1);
        k.soft(0, 406, 60, 80, "1 60.80 2147483649:4 1");
        k.ask(0, "1 60.10 65535:2 0", "1 60.11");
        k.ask(0, "1 60.20 'q 'c 0", "1 60.21 'c", "1 60.60 'c 1:4 0 ' 'q", "1 H 60:2 1:4 4:2 2147483648:4", "1 B a");
    }

    private static void lastNameCounts() {
        Kit k = fresh("lastNameCounts");
        k.soft(0, 406, 50, 10, "1 50.10 'n 0 {max=I5,max=I51}");
        k.soft(0, 406, 50, 10, "1 50.10 'n 0 {max=I5,max=t1}");
        k.ask(0, "1 50.10 'n 0 {max=I51,max=t1,max=I5}", "1 50.11 'n 0:4 0:4");
        k.ask(0, "1 50.10 'n 0 {max=I5}", "1 50.11 'n 0:4 0:4");
        k.ask(0, "1 40.10 'x 'direct 0 {alt=Sa,alt=Sb}", "1 40.11");
        k.ask(0, "1 40.10 'x 'direct 0 {alt=Sb}", "1 40.11");
        k.soft(0, 406, 40, 10, "1 40.10 'x 'direct 0 {alt=Sb,alt=Sa}");
        k.ask(0, "1 40.10 'y 'direct 0 {alt=Sb,alt=S}", "1 40.11");
        k.ask(0, "1 40.10 'y 'direct 0 {}", "1 40.11");
    }

    /** Each of names, kinds and values makes two TABLES others; order and what does not count do not. */
    private static void alikeTables() {
        Kit k = fresh("alikeTables");
        String[] alike = {"{a=I1,b=t2,c=Sx}", "{c=Sx,b=t2,a=I1}", "{a=Sz,c=Sy,c=Sx,b=t2,a=I1}"};
        for (String table : alike) {
            k.ask(0, "1 50.20 'q 'e 'k 0 " + table, "1 50.21");
            k.total(4, 1);
        }
        String[] others = {"{}", "{a=I1,b=t2}", "{a=I1,b=t2,c=Sx,d=I1}", "{a=I2,b=t2,c=Sx}", "{a=I1,b=t3,c=Sx}", "{a=I1,b=t2,c=Sxx}", "{a=I1,b=t2,c=S}",
            "{a=I1,b=t2,c=Sy}", "{a=I1,b=I2,c=Sx}", "{a=I1,b=t2,cc=Sx}", "{a=I1,b=t2,=Sx}", "{A=I1,b=t2,c=Sx}", "{a=I16777216,b=t2,c=Sx}"};
        for (int i = 0; i < others.length; i++) {
            k.ask(0, "1 50.20 'q 'e 'k 0 " + others[i], "1 50.21");
            k.total(4, i + 2);
        }
        k.ask(0, "1 50.50 'q 'e 'k {b=t2,c=Sx,a=I1,a=I1}", "1 50.51");
        k.total(4, others.length);
        k = fresh("entries that have the same bytes but for how long the name is");
        k.ask(0, "1 50.20 'q 'e 'k 0 {a=Stx}", "1 50.21");
        k.ask(0, "1 50.20 'q 'e 'k 0 {aS\0\0\0\2=t120}", "1 50.21");
        k.total(4, 2);
        k.publish(0, "e", "", "8:2 {a=Stx}", "x");
        k.ready("q", 1);
        k.ask(0, "1 50.50 'q 'e 'k {a=Stx}", "1 50.51");
        k.publish(0, "e", "", "8:2 {a=Stx}", "x");
        k.ready("q", 1);
    }

    /** Bits that are not told are passed over. */
    private static void bitsPassedOver() {
        Kit k = fresh("bitsPassedOver");
        k.ask(0, "1 40.10 'n 'direct 224 {}", "1 40.11");
        k.exchange(1, 1, 0);
        k.ask(0, "1 40.10 'n 'direct 0 {}", "1 40.11");
        k.ask(0, "1 50.10 'n 224 {}", "1 50.11 'n 0:4 0:4");
        k.queue(1, 3, 0);
        k.total(6, 0);
        k.ask(0, "1 50.20 'q 'n 'k 0 {}", "1 50.21");
        k.ask(0, "1 40.20 'n 252", "1 40.21");
        k.ask(0, "1 60.20 'n 'c 241", "1 60.21 'c");
        k.ask(0, "1 60.20 'n 'd 241", "1 60.21 'd");
        k.ask(0, "1 60.40 'e 'k 254");
        k.ask(0, "1 H 60:2 0:4 0:2");
        k.publish(0, "", "n", "x");
        k.channel(0, 1, 1, 1);
        k.publish(0, "", "n", "y");
        k.channel(0, 1, 1, 2);
        k.readAll(0);
        k.ask(0, "1 60.120 2:4 252");
        k.channel(0, 1, 1, 1);
        k.total(7, 1);
        k.ask(0, "1 20.20 0", "1 20.21 0");
        k.publish(0, "", "n", "z");
        k.ask(0, "1 50.40 'n 248", "1 60.30 'c 1", "1 60.30 'd 1", "1 50.41 1:4");
    }

    /** A u8 that is yes or no is yes if it is not 0. */
    private static void yesOrNo() {
        for (int yes : new int[] {0, 1, 2, 128, 255}) {
            boolean is = yes != 0;
            String[] nothing = {};
            Kit k = fresh("yesOrNo " + yes);
            k.ask(0, "1 50.20 'q 'e 'k " + yes + " {}", is ? nothing : new String[] {"1 50.21"});
            k.ask(0, "1 50.30 'q " + yes, is ? nothing : new String[] {"1 50.31 0:4"});
            k.ask(0, "1 60.30 'c " + yes, is ? nothing : new String[] {"1 60.31 'c"});
            k.ask(0, "1 85.10 " + yes, is ? nothing : new String[] {"1 85.11"});
            k.ask(0, "1 20.20 " + yes, "1 20.21 " + (is ? 1 : 0));
            k.publish(0, "", "q", "2:2 " + yes, "a");
            k.hear(0, "1 60.80 1:4 0");
            String header = "1 H 60:2 1:4 " + (is ? "2:2 1" : "0:2");
            k.ask(0, "1 60.70 'q " + yes, "1 60.71 1:4 0 ' 'q 0:4", header, "1 B a");
            k.channel(0, 1, 1, is ? 0 : 1);
        }
        multipleYesOrNo();
        requeueYesOrNo();
        recoverYesOrNo();
        wholeYesOrNo();
    }

    private static void multipleYesOrNo() {
        for (int yes : new int[] {0, 1, 2, 128, 255}) {
            Kit k = fresh("multiple " + yes);
            k.say(0, "1 60.40 ' 'q 0", "1 H 60:2 0:4 0:2", "1 60.40 ' 'q 0", "1 H 60:2 0:4 0:2", "1 60.70 'q 0", "1 60.70 'q 0");
            k.readAll(0);
            k.ask(0, "1 60.80 2:4 " + yes);
            k.channel(0, 1, 1, yes != 0 ? 0 : 1);
        }
    }

    private static void requeueYesOrNo() {
        for (int yes : new int[] {0, 1, 2, 128, 255}) {
            Kit k = fresh("requeue " + yes);
            k.say(0, "1 60.40 ' 'q 0", "1 H 60:2 0:4 0:2", "1 60.70 'q 0");
            k.readAll(0);
            k.ask(0, "1 60.90 1:4 " + yes);
            k.ready("q", yes != 0 ? 1 : 0);
            k.total(7, yes != 0 ? 0 : 1);
        }
    }

    private static void recoverYesOrNo() {
        for (int yes : new int[] {1, 2, 128, 255}) {
            Kit k = fresh("recover " + yes);
            k.ask(0, "1 60.110 " + yes, "1 60.111");
        }
        Kit k = fresh("recover 0");
        k.hard(0, 540, 60, 110, "1 60.110 0");
    }

    private static void wholeYesOrNo() {
        for (int yes : new int[] {0, 1, 2, 128, 255}) {
            Kit k = fresh("whole " + yes);
            k.say(0, "1 60.20 'q 'c 8");
            k.ask(0, "1 60.10 1:2 " + yes, "1 60.11");
            k.publish(0, "", "q", "a");
            k.publish(0, "", "q", "b");
            k.channel(0, 1, 1, yes != 0 ? 1 : 2);
        }
    }

    /** TYPE 1, 2, 3, 8; any other one is found with the seventh byte. */
    private static void frameTypes() {
        for (int type = 0; type < 256; type++) {
            boolean is = type == 1 || type == 2 || type == 3 || type == 8;
            Kit k = new Kit("frameTypes " + type);
            k.bring(0, 5);
            k.due("six bytes", k.sendBytes(0, new byte[] {(byte) type, 0, 1, 0, 0, 0}), 5);
            k.connected(0, 3, 6);
            k.due("the seventh", k.sendBytes(0, new byte[] {0}), is ? 5 : 6);
            k.connected(0, 3, is ? 7 : 0);
            k.hear(0, is ? new String[0] : new String[] {"0 10.50 501:2 ' 0:2 0:2"});
        }
    }

    /** A SIZE above 400 is found with the seventh byte; what comes behind it is not looked at. */
    private static void frameSizes() {
        long[] sizes = {399, 400, 401, 511, 65536, 16777216, 2147483648L, 4294967295L};
        for (int type : new int[] {1, 2, 3, 8}) {
            for (long size : sizes) {
                Kit k = new Kit("frameSizes " + type + " of " + size);
                k.open(0);
                byte[] head = {(byte) type, 0, 0, (byte) (size >> 24), (byte) (size >> 16), (byte) (size >> 8), (byte) size};
                k.due("seven bytes", k.sendBytes(0, head), size > 400 ? 6 : 5);
                k.connected(0, 3, size > 400 ? 0 : 7);
                k.hear(0, size > 400 ? new String[] {"0 10.50 501:2 ' 0:2 0:2"} : new String[0]);
                if (size <= 400) {
                    byte[] rest = new byte[(int) size + 1];
                    k.due("all but the last", k.sendBytes(0, Arrays.copyOf(rest, (int) size)), 5);
                    k.connected(0, 3, (int) size + 7);
                    k.due("the last", k.sendBytes(0, new byte[] {(byte) 206}), 6);
                    int code = type == 1 ? 503 : type == 8 ? 501 : 504;
                    k.hear(0, "0 10.50 " + code + ":2 ' 0:2 0:2");
                }
                k.sayDue(0, size > 400 ? 6 : 0, "0 10.51");
            }
        }
    }

    /** The last byte is 206; a frame without it is none, whatever else it is. */
    private static void lastBytes() {
        for (int last : new int[] {0, 205, 206, 207, 255}) {
            for (String text : new String[] {"0 8", "1 20.20 1", "9 20.20 1", "1 8", "3 B x", "0 10.50 0:2 ' 0:2 0:2"}) {
                if (last != 206) {
                    byte[] frame = Kit.frame(text);
                    frame[frame.length - 1] = (byte) last;
                    Kit k = new Kit("lastBytes " + last + " of " + text);
                    k.open(0);
                    k.due("no frame", k.sendBytes(0, frame), 6);
                    k.hear(0, "0 10.50 501:2 ' 0:2 0:2");
                    k.sayDue(0, 6, "0 10.51");
                    k.sayDue(0, 6, "0 10.50 0:2 ' 0:2 0:2");
                    k.hear(0);
                }
            }
        }
        Kit k = new Kit("206");
        k.open(0);
        k.ask(0, "1 20.20 1", "1 20.21 1");
    }

    /** CHANNELS are 0 to 3; both bytes of the number count. */
    private static void channelNumbers() {
        for (int channel : new int[] {4, 5, 255, 256, 257, 259, 32769, 65535}) {
            Kit k = new Kit("channelNumbers " + channel);
            k.open(0);
            k.hardOf(0, 504, 20, 10, Kit.frame(channel + " 20.10"));
            k.hardOf(0, 504, 10, 50, Kit.frame(channel + " 10.50 0:2 ' 0:2 0:2"));
            k.hardOf(0, 504, 0, 0, Kit.raw(1, channel, new byte[3]));
            k.hardOf(0, 504, 0, 0, Kit.frame(channel + " B x"));
            k.hardOf(0, 504, 0, 0, Kit.frame(channel + " H 60:2"));
            k.hardOf(0, 504, 0, 0, Kit.frame(channel + " 8"));
        }
        Kit k = new Kit("channels 1 to 3");
        k.open(0);
        k.openChannel(0, 2);
        k.openChannel(0, 3);
        k.connected(0, 2, 3);
    }
}
