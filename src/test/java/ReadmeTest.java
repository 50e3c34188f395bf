/** The example of README.md, with the answers that are due. */
public final class ReadmeTest {
    private static int wrong = 0;

    public static void main(String[] args) {
        RelayHall hall = new RelayHall();
        due("connect", hall.connect(0) ? 1 : 0, 1);
        due("type", hall.type(0x524C415900000901L, 8) ? 1 : 0, 1);
        due("greeting", hall.send(0), 2);
        due("10.11", say(hall, 1, 0, 0, 10, 0, 11, 2, 'm', 'e'), 3);
        due("10.31", say(hall, 1, 0, 0, 10, 0, 31, 0, 3, 0, 0, 1, 144, 0, 0), 4);
        due("10.40", say(hall, 1, 0, 0, 10, 0, 40, 1, '/'), 5);
        due("20.10", say(hall, 1, 1, 0, 20, 0, 10), 5);
        due("open channels", hall.connection(0, 2), 1);
        due("50.10", say(hall, 1, 1, 0, 50, 0, 10, 1, 'q', 2, 0, 0, 0, 0), 5);
        due("60.40", say(hall, 1, 1, 0, 60, 0, 40, 0, 1, 'q', 0), 5);
        due("HEADER", say(hall, 2, 1, 0, 60, 0, 0, 0, 2, 0, 2, 1), 5);
        due("BODY", say(hall, 3, 1, 'h', 'i'), 5);
        due("READY", hall.queue(0, 0), 1);
        skip(hall, 14 + 20 + 12 + 12 + 22);
        due("60.70", say(hall, 1, 1, 0, 60, 0, 70, 1, 'q', 0), 5);
        due("waiting", hall.waiting(0), 24 + 17 + 10);
        skip(hall, 24 + 17 + 7);
        due("the body's end", hall.read(0, 3), 'h' << 16 | 'i' << 8 | 206);
        due("UNACKED", hall.channel(0, 1, 1), 1);
        due("tick", hall.tick(1), 1);
        due("crash", hall.crash(0), 1);
        due("READY again", hall.queue(0, 0), 1);
        due("CLOSED", hall.connection(0, 0), 0);
        System.out.println(wrong + " wrong");
        System.exit(wrong == 0 ? 0 : 1);
    }

    private static int say(RelayHall hall, int type, int channel, int... bytes) {
        hall.type(type, 1);
        hall.type(channel, 2);
        hall.type(bytes.length, 4);
        for (int b : bytes) {
            hall.type(b, 1);
        }
        hall.type(206, 1);
        return hall.send(0);
    }

    private static void skip(RelayHall hall, int count) {
        for (int i = 0; i < count; i++) {
            hall.read(0, 1);
        }
    }

    private static void due(String what, long got, long want) {
        if (got != want) {
            wrong++;
            System.out.println(what + " answered " + got + ", due is " + want);
        }
    }
}
