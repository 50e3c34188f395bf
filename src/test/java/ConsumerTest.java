/** Promises 4, 5 and 11, 12: consumers, credit and dispatch. */
public final class ConsumerTest {
    public static void main(String[] args) {
        consuming();
        madeTags();
        exclusiveConsumers();
        limits();
        cancelling();
        autoDelete();
        roundAndRound();
        roundBehindCancel();
        firstQueueFirst();
        ownLimit();
        channelLimit();
        limitCountsGone();
        keptAcksCount();
        withoutAck();
        doesNotFit();
        lostWithoutAck();
        gotDoesNotFit();
        Kit.end();
    }

    private static String[] delivery(int channel, String tag, int number, int again, String key, String body) {
        return new String[] {channel + " 60.60 '" + tag + " " + number + ":4 " + again + " ' '" + key,
            channel + " H 60:2 " + body.length() + ":4 0:2", channel + " B " + body};
    }

    private static void hearAll(Kit k, int c, String[]... deliveries) {
        String[] all = new String[3 * deliveries.length];
        for (int i = 0; i < all.length; i++) {
            all[i] = deliveries[i / 3][i % 3];
        }
        k.hear(c, all);
    }

    private static void consuming() {
        Kit k = new Kit("consuming");
        k.open(0);
        k.say(0, "1 50.10 'q 16 {}");
        k.publish(0, "", "q", "early");
        k.sayDue(0, 5, "1 60.20 'q 'me 0");
        k.hear(0, "1 60.21 'me", "1 60.60 'me 1:4 0 ' 'q", "1 H 60:2 5:4 0:2", "1 B early");
        k.publish(0, "", "q", "late");
        hearAll(k, 0, delivery(1, "me", 2, 0, "q", "late"));
        k.channel(0, 1, 1, 2);
        k.channel(0, 1, 4, 2);
        k.channel(0, 1, 6, 1);
        k.queue(0, 1, 2);
        k.queue(0, 2, 1);
        k.ask(0, "1 60.20 ' 'silent 8");
        k.total(5, 2);
        k.ask(0, "1 60.120 2:4 2", delivery(1, "silent", 3, 1, "q", "late"));
        k.soft(0, 404, 60, 20, "1 60.20 'x ' 0");
        k.total(5, 0);
        k.hard(0, 502, 60, 20, "1 60.20 'q '");
    }

    private static void madeTags() {
        Kit k = new Kit("madeTags");
        k.open(0);
        k.openChannel(0, 2);
        k.say(0, "1 50.10 'q 16 {}");
        k.ask(0, "1 60.20 'q ' 0", "1 60.21 'ctag-1");
        k.ask(0, "1 60.20 'q 'ctag-2 0", "1 60.21 'ctag-2");
        k.ask(0, "1 60.20 'q ' 0", "1 60.21 'ctag-3");
        k.ask(0, "1 60.30 'ctag-3 0", "1 60.31 'ctag-3");
        k.ask(0, "1 60.20 'q ' 0", "1 60.21 'ctag-4");
        k.ask(0, "2 60.20 'q ' 0", "2 60.21 'ctag-1");
        k.ask(0, "2 60.20 'q 'ctag-2 0", "2 60.21 'ctag-2");
        k.hard(0, 530, 60, 20, "2 60.20 'q 'ctag-2 0");
    }

    private static void exclusiveConsumers() {
        Kit k = new Kit("exclusiveConsumers");
        k.open(0);
        k.open(1);
        k.say(0, "1 50.10 'q 16 {}");
        k.ask(0, "1 60.20 'q 'a 4", "1 60.21 'a");
        k.soft(1, 403, 60, 20, "1 60.20 'q 'b 0");
        k.soft(1, 403, 60, 20, "1 60.20 'q 'b 4");
        k.ask(0, "1 60.30 'a 1");
        k.ask(0, "1 60.20 'q 'a 0", "1 60.21 'a");
        k.soft(1, 403, 60, 20, "1 60.20 'q 'b 4");
        k.ask(1, "1 60.20 'q 'b 0", "1 60.21 'b");
        k.soft(1, 403, 60, 20, "1 60.20 'q 'b 4");
    }

    private static void limits() {
        Kit k = new Kit("limits");
        k.open(0);
        k.say(0, "1 50.10 'q 16 {}");
        for (int i = 0; i < 16; i++) {
            k.say(0, "1 60.20 'q ' 8");
        }
        k.total(5, 16);
        k.hard(0, 506, 60, 20, "1 60.20 'q ' 0");
        k.total(5, 0);
    }

    private static void cancelling() {
        Kit k = new Kit("cancelling");
        k.open(0);
        k.say(0, "1 50.10 'q 16 {}", "1 60.20 'q 'a 8");
        k.publish(0, "", "q", "x");
        k.readAll(0);
        k.ask(0, "1 60.30 'none 0", "1 60.31 'none");
        k.ask(0, "1 60.30 'a 0", "1 60.31 'a");
        k.total(5, 0);
        k.channel(0, 1, 1, 1);
        k.ready("q", 0);
        k.publish(0, "", "q", "y");
        k.ready("q", 1);
        k.ask(0, "1 60.80 1:4 0");
        k.total(1, 1);
        k.ask(0, "1 60.30 'a 1");
    }

    private static void autoDelete() {
        Kit k = new Kit("autoDelete");
        k.open(0);
        k.say(0, "1 50.10 'q 26 {}", "1 60.20 'q 'a 8", "1 60.20 'q 'b 8");
        k.publish(0, "", "q", "2:2 1", "x");
        k.readAll(0);
        k.ask(0, "1 60.30 'a 0", "1 60.31 'a");
        k.total(2, 1);
        k.ask(0, "1 60.30 'b 0", "1 60.31 'b");
        k.total(2, 0);
        k.total(1, 0);
        k.channel(0, 1, 1, 1);
        k.total(6, 3);
        k.tick(1, 1);
        k.crash(0, 0);
        k.total(2, 0);
    }

    private static void roundAndRound() {
        Kit k = new Kit("roundAndRound");
        k.open(0);
        k.say(0, "1 50.10 'q 16 {}", "1 60.20 'q 'a 10", "1 60.20 'q 'b 10", "1 60.20 'q 'c 10");
        for (int i = 1; i <= 5; i++) {
            k.publish(0, "", "q", "" + i);
        }
        hearAll(k, 0, delivery(1, "a", 1, 0, "q", "1"), delivery(1, "b", 2, 0, "q", "2"), delivery(1, "c", 3, 0, "q", "3"),
                delivery(1, "a", 4, 0, "q", "4"), delivery(1, "b", 5, 0, "q", "5"));
        k.say(0, "1 20.20 0");
        k.publish(0, "", "q", "6");
        k.say(0, "1 60.70 'q 1");
        k.readAll(0);
        k.say(0, "1 20.20 1");
        k.readAll(0);
        k.publish(0, "", "q", "7");
        hearAll(k, 0, delivery(1, "c", 7, 0, "q", "7"));
    }

    private static void roundBehindCancel() {
        Kit k = new Kit("roundBehindCancel");
        k.open(0);
        k.say(0, "1 50.10 'q 16 {}", "1 60.20 'q 'a 10", "1 60.20 'q 'b 10", "1 60.20 'q 'c 10");
        k.publish(0, "", "q", "1");
        k.publish(0, "", "q", "2");
        k.say(0, "1 60.30 'b 1");
        k.readAll(0);
        k.publish(0, "", "q", "3");
        hearAll(k, 0, delivery(1, "a", 3, 0, "q", "3"));
        k.say(0, "1 60.30 'c 1");
        k.publish(0, "", "q", "4");
        hearAll(k, 0, delivery(1, "a", 4, 0, "q", "4"));
    }

    private static void firstQueueFirst() {
        Kit k = new Kit("firstQueueFirst");
        k.open(0);
        k.say(0, "1 50.10 'q 16 {}", "1 50.10 'r 16 {}", "1 20.20 0", "1 60.20 'r 'r 10", "1 60.20 'q 'q 10");
        k.publish(0, "", "r", "1");
        k.publish(0, "", "q", "2");
        k.publish(0, "", "r", "3");
        k.publish(0, "", "q", "4");
        k.readAll(0);
        k.say(0, "1 20.20 1");
        k.due("the answer", k.hall.read(0, 8) >>> 56, 1);
        k.hall.read(0, 5);
        hearAll(k, 0, delivery(1, "q", 1, 0, "q", "2"), delivery(1, "q", 2, 0, "q", "4"),
                delivery(1, "r", 3, 0, "r", "1"), delivery(1, "r", 4, 0, "r", "3"));
    }

    private static void ownLimit() {
        Kit k = new Kit("ownLimit");
        k.open(0);
        k.say(0, "1 50.10 'q 16 {}", "1 60.20 'q 'free 8", "1 60.30 'free 1");
        k.ask(0, "1 60.10 2:2 0", "1 60.11");
        k.say(0, "1 60.20 'q 'a 8");
        k.ask(0, "1 60.10 1:2 0", "1 60.11");
        k.say(0, "1 60.20 'q 'b 8");
        for (int i = 1; i <= 5; i++) {
            k.publish(0, "", "q", "" + i);
        }
        hearAll(k, 0, delivery(1, "a", 1, 0, "q", "1"), delivery(1, "b", 2, 0, "q", "2"), delivery(1, "a", 3, 0, "q", "3"));
        k.ready("q", 2);
        k.say(0, "1 60.70 'q 0", "1 60.80 4:4 0");
        k.readAll(0);
        k.ask(0, "1 60.80 2:4 0", delivery(1, "b", 5, 0, "q", "5"));
        k.ask(0, "1 60.10 0:2 0", "1 60.11");
        k.publish(0, "", "q", "6");
        k.hear(0);
        k.ask(0, "1 60.20 'q 'c 8", delivery(1, "c", 6, 0, "q", "6"));
    }

    private static void channelLimit() {
        Kit k = new Kit("channelLimit");
        k.open(0);
        k.openChannel(0, 2);
        k.say(0, "1 50.10 'q 16 {}", "1 60.20 'q 'a 8");
        k.ask(0, "1 60.10 2:2 1", "1 60.11");
        for (int i = 1; i <= 4; i++) {
            k.publish(0, "", "q", "" + i);
        }
        hearAll(k, 0, delivery(1, "a", 1, 0, "q", "1"), delivery(1, "a", 2, 0, "q", "2"));
        k.ready("q", 2);
        k.ask(0, "1 60.20 'q 'free 10", delivery(1, "free", 3, 0, "q", "3")[0], "1 H 60:2 1:4 0:2", "1 B 3",
                delivery(1, "free", 4, 0, "q", "4")[0], "1 H 60:2 1:4 0:2", "1 B 4");
        k.say(0, "1 60.30 'free 1");
        k.publish(0, "", "q", "5");
        k.ask(0, "1 60.80 1:4 0", delivery(1, "a", 5, 0, "q", "5"));
        k.publish(0, "", "q", "6");
        k.hear(0);
        k.sayDue(0, 5, "1 60.10 0:2 1");
        k.hear(0, "1 60.11", delivery(1, "a", 6, 0, "q", "6")[0], "1 H 60:2 1:4 0:2", "1 B 6");
    }

    private static void limitCountsGone() {
        Kit k = new Kit("limitCountsGone");
        k.open(0);
        k.say(0, "1 50.10 'q 16 {}", "1 50.10 'r 16 {}", "1 60.10 1:2 1", "1 60.20 'q 'a 8");
        k.readAll(0);
        k.publish(0, "", "q", "1");
        k.say(0, "1 50.40 'q 4");
        k.readAll(0);
        k.say(0, "1 60.20 'r 'b 8");
        k.publish(0, "", "r", "2");
        k.hear(0);
        k.ready("r", 1);
        k.ask(0, "1 60.80 1:4 0", delivery(1, "b", 2, 0, "r", "2"));
        k.say(0, "1 60.30 'b 1", "1 60.20 'r 'c 8");
        k.publish(0, "", "r", "3");
        k.hear(0);
        k.ask(0, "1 60.80 2:4 0", delivery(1, "c", 3, 0, "r", "3"));
    }

    private static void keptAcksCount() {
        Kit k = new Kit("keptAcksCount");
        k.open(0);
        k.openChannel(0, 2);
        k.say(0, "1 50.10 'q 16 {}", "2 90.10", "2 60.10 1:2 0", "2 60.20 'q 'a 8");
        k.readAll(0);
        k.publish(0, "", "q", "1");
        k.publish(0, "", "q", "2");
        hearAll(k, 0, delivery(2, "a", 1, 0, "q", "1"));
        k.ask(0, "2 60.80 1:4 0");
        k.sayDue(0, 5, "2 90.20");
        k.hear(0, "2 90.21", delivery(2, "a", 2, 0, "q", "2")[0], "2 H 60:2 1:4 0:2", "2 B 2");
    }

    private static void withoutAck() {
        Kit k = new Kit("withoutAck");
        k.open(0);
        k.say(0, "1 50.10 'q 18 {}", "1 60.10 1:2 0", "1 60.10 1:2 1", "1 60.20 'q 'a 10");
        k.readAll(0);
        for (int i = 1; i <= 3; i++) {
            k.publish(0, "", "q", "2:2 1", "" + i);
        }
        k.channel(0, 1, 4, 3);
        k.channel(0, 1, 1, 0);
        k.total(1, 0);
        k.total(6, 7);
        k.readAll(0);
        k.soft(0, 406, 60, 80, "1 60.80 1:4 0");
    }

    private static void doesNotFit() {
        Kit k = new Kit("doesNotFit");
        k.open(0);
        k.open(1);
        k.say(0, "1 50.10 'q 16 {}");
        k.say(1, "1 60.20 'q 'full 8", "1 50.10 'own 20 {}");
        k.readAll(1);
        k.stuff(1, 8);
        k.say(0, "1 60.20 'q 'a 8");
        k.publish(0, "", "q", "x");
        k.connected(1, 0, 0);
        k.due("waiting", k.hall.waiting(1), 4992);
        k.total(2, 1);
        hearAll(k, 0, delivery(1, "a", 1, 1, "q", "x"));
    }

    private static void lostWithoutAck() {
        Kit k = new Kit("lostWithoutAck");
        k.open(0);
        k.open(1);
        k.say(0, "1 50.10 'q 18 {}");
        k.say(1, "1 60.20 'q 'full 10");
        k.stuff(1, 8);
        k.publish(0, "", "q", "2:2 1", "x");
        k.connected(1, 0, 0);
        k.total(1, 0);
        k.total(6, 3);
        k.total(7, 0);
    }

    private static void gotDoesNotFit() {
        Kit k = new Kit("gotDoesNotFit");
        k.open(0);
        k.open(1);
        k.say(0, "1 50.10 'q 16 {}");
        k.publish(0, "", "q", "x");
        k.publish(0, "", "q", "y");
        k.stuff(1, 8);
        k.sayDue(1, 0, "1 60.70 'q 0", "1 60.70 'q 0");
        k.ready("q", 2);
        k = new Kit("gotDoesNotFit without ack");
        k.open(0);
        k.open(1);
        k.say(0, "1 50.10 'q 16 {}");
        k.publish(0, "", "q", "x");
        k.publish(0, "", "q", "y");
        k.stuff(1, 8);
        k.sayDue(1, 0, "1 60.70 'q 1");
        k.ready("q", 1);
        k.ask(0, "1 60.70 'q 1", "1 60.71 1:4 0 ' 'q 0:4", "1 H 60:2 1:4 0:2", "1 B y");
        k = new Kit("a return does not fit");
        k.open(1);
        k.say(1, "1 50.10 'q 16 {}", "1 90.10");
        k.say(1, Kit.publishing("", "q", 0, "0:2", "1"));
        k.say(1, Kit.publishing("", "none", 1, "0:2", "2"));
        k.say(1, Kit.publishing("", "q", 0, "0:2", "3"));
        k.readAll(1);
        k.stuff(1, 8);
        k.sayDue(1, 0, "1 90.20");
        k.ready("q", 1);
    }
}
