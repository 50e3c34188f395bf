/** Promise 11: channels, soft errors, acknowledgements, transactions and confirms. */
public final class ChannelTest {
    public static void main(String[] args) {
        wrongPlaces();
        openAndClose();
        softErrors();
        freshAgain();
        flow();
        acknowledging();
        refusing();
        recovering();
        goneChannel();
        transactionModes();
        transactionOfMessages();
        transactionOfAcks();
        transactionLimits();
        commitEndsHalfWay();
        confirms();
        confirmsBehindReturn();
        Kit.end();
    }

    private static void wrongPlaces() {
        Kit k = new Kit("wrongPlaces");
        k.open(0);
        k.channel(0, 0, 0, -1);
        k.channel(0, 4, 0, -1);
        k.channel(-1, 1, 0, -1);
        k.channel(4, 1, 0, -1);
        k.channel(0, 1, 7, -1);
        k.channel(0, 1, -1, -1);
        k.channel(0, 2, 7, -1);
        k.channel(0, 2, 6, 0);
    }

    private static void openAndClose() {
        Kit k = new Kit("openAndClose");
        k.open(0);
        k.channel(0, 1, 0, 1);
        k.openChannel(0, 3);
        k.connected(0, 2, 2);
        k.ask(0, "1 20.40 0:2 'why 0:2 0:2", "1 20.41");
        k.channel(0, 1, 0, 0);
        k.connected(0, 2, 1);
        k.openChannel(0, 1);
        k.channel(0, 1, 0, 1);
    }

    private static void softErrors() {
        Kit k = new Kit("softErrors");
        k.open(0);
        k.ask(0, "1 60.80 9:4 0", "1 20.40 406:2 ' 60:2 80:2");
        k.channel(0, 1, 0, 2);
        k.connected(0, 2, 0);
        k.sayDue(0, 5, "1 20.10", "1 8", "1 B x", "1 60.80", "1 99.9");
        k.hear(0);
        k.ask(0, "1 20.40", "1 20.41");
        k.channel(0, 1, 0, 0);
        k.openChannel(0, 1);
        k.ask(0, "1 60.80 9:4 0", "1 20.40 406:2 ' 60:2 80:2");
        k.ask(0, "1 20.41 7");
        k.channel(0, 1, 0, 0);
    }

    private static void freshAgain() {
        Kit k = new Kit("freshAgain");
        k.open(0);
        k.say(0, "1 50.10 'q 16 {}", "1 90.10", "1 60.20 'q ' 0", "1 60.10 1:2 1");
        k.readAll(0);
        k.channel(0, 1, 3, 1);
        k.channel(0, 1, 6, 1);
        k.publish(0, "", "q", "x");
        k.channel(0, 1, 2, 1);
        k.sayDue(0, 5, "1 20.40 0:2 ' 0:2 0:2", "1 20.10");
        k.hear(0, "1 20.41", "1 20.11");
        for (int what = 1; what <= 6; what++) {
            k.channel(0, 1, what, 0);
        }
        k.total(1, 0);
        k.soft(0, 404, 60, 70, "1 60.70 ' 0");
        k.say(0, "1 60.10 1:2 0", "1 60.10 1:2 1", "1 20.20 0", "1 20.40 0:2 ' 0:2 0:2", "1 20.10");
        k.readAll(0);
        k.ask(0, "1 60.20 'q ' 0", "1 60.21 'ctag-1");
        k.publish(0, "", "q", "x");
        k.publish(0, "", "q", "y");
        k.channel(0, 1, 1, 2);
    }

    private static void flow() {
        Kit k = new Kit("flow");
        k.open(0);
        k.say(0, "1 50.10 'q 16 {}");
        k.ask(0, "1 60.20 'q 'a 2", "1 60.21 'a");
        k.ask(0, "1 20.20 0", "1 20.21 0");
        k.publish(0, "", "q", "x");
        k.hear(0);
        k.ready("q", 1);
        k.ask(0, "1 20.20 7", "1 20.21 1", "1 60.60 'a 1:4 0 ' 'q", "1 H 60:2 1:4 0:2", "1 B x");
        k.channel(0, 1, 4, 1);
        k.channel(0, 1, 1, 0);
    }

    private static Kit withUnacked(String name, int count) {
        Kit k = new Kit(name);
        k.open(0);
        k.say(0, "1 50.10 'q 16 {}");
        for (int i = 1; i <= count; i++) {
            k.publish(0, "", "q", "" + i);
            k.ask(0, "1 60.70 'q 0", "1 60.71 " + i + ":4 0 ' 'q 0:4", "1 H 60:2 1:4 0:2", "1 B " + i);
        }
        return k;
    }

    private static void acknowledging() {
        Kit k = withUnacked("acknowledging", 5);
        k.channel(0, 1, 1, 5);
        k.channel(0, 1, 4, 5);
        k.queue(0, 1, 5);
        k.ask(0, "1 60.80 2:4 0");
        k.channel(0, 1, 1, 4);
        k.total(1, 4);
        k.ask(0, "1 60.80 3:4 1");
        k.channel(0, 1, 1, 2);
        k.ask(0, "1 60.80 0:4 1");
        k.channel(0, 1, 1, 0);
        k.total(1, 0);
        k.ask(0, "1 60.80 0:4 1");
        k.soft(0, 406, 60, 80, "1 60.80 0:4 0");
        k = withUnacked("acknowledging wrong tags", 2);
        k.ask(0, "1 60.80 1:4 0");
        k.soft(0, 406, 60, 80, "1 60.80 1:4 1");
        k.ready("q", 1);
        k.soft(0, 406, 60, 80, "1 60.80 4294967295:4 1");
    }

    private static void refusing() {
        Kit k = withUnacked("refusing", 4);
        k.ask(0, "1 60.90 2:4 1");
        k.ready("q", 1);
        k.total(7, 0);
        k.ask(0, "1 60.90 1:4 0");
        k.total(7, 1);
        k.total(1, 3);
        k.ask(0, "1 60.120 4:4 3");
        k.ready("q", 3);
        k.ask(0, "1 60.70 'q 0", "1 60.71 5:4 1 ' 'q 2:4", "1 H 60:2 1:4 0:2", "1 B 2");
        k.ask(0, "1 60.90 5:4 1");
        k.ask(0, "1 60.70 'q 0", "1 60.71 6:4 1 ' 'q 2:4", "1 H 60:2 1:4 0:2", "1 B 2");
        k.ask(0, "1 60.120 0:4 1");
        k.total(7, 2);
        k.total(1, 2);
        k.soft(0, 406, 60, 120, "1 60.120 0:4 2");
        k.soft(0, 406, 60, 90, "1 60.90 0:4 0");
    }

    private static void recovering() {
        Kit k = withUnacked("recovering", 3);
        k.ask(0, "1 60.110 1", "1 60.111");
        k.channel(0, 1, 1, 0);
        k.ready("q", 3);
        k.ask(0, "1 60.70 'q 1", "1 60.71 4:4 1 ' 'q 2:4", "1 H 60:2 1:4 0:2", "1 B 1");
    }

    private static void goneChannel() {
        Kit k = withUnacked("goneChannel", 3);
        k.say(0, "2 20.10", "1 50.10 'auto 24 {}", "1 50.10 'other 24 {}", "1 60.20 'auto 'x 8", "1 60.20 'other 'y 8", "2 60.20 'other 'y 8");
        k.readAll(0);
        k.channel(0, 1, 6, 2);
        k.channel(0, 2, 6, 1);
        k.total(2, 3);
        k.ask(0, "1 20.40 0:2 ' 0:2 0:2", "1 20.41");
        k.total(2, 2);
        k.total(5, 1);
        k.ready("q", 3);
        k.queue(0, 1, 0);
        for (int i = 1; i <= 3; i++) {
            k.ask(0, "2 60.70 'q 1", "2 60.71 " + i + ":4 1 ' 'q " + (3 - i) + ":4", "2 H 60:2 1:4 0:2", "2 B " + i);
        }
        k.openChannel(0, 1);
        k.ask(0, "1 60.40 ' 'q 0");
        k.hall.cut(0);
        k.open(0);
        k.ask(0, "1 20.20 1", "1 20.21 1");
    }

    private static void transactionModes() {
        Kit k = new Kit("transactionModes");
        k.open(0);
        k.soft(0, 406, 90, 20, "1 90.20");
        k.soft(0, 406, 90, 30, "1 90.30");
        k.ask(0, "1 90.10", "1 90.11");
        k.ask(0, "1 90.10", "1 90.11");
        k.channel(0, 1, 3, 1);
        k.soft(0, 406, 85, 10, "1 85.10 0");
        k.ask(0, "1 85.10 0", "1 85.11");
        k.ask(0, "1 85.10 1");
        k.channel(0, 1, 3, 2);
        k.soft(0, 406, 90, 10, "1 90.10");
        k.channel(0, 1, 3, 0);
    }

    private static void transactionOfMessages() {
        Kit k = new Kit("transactionOfMessages");
        k.open(0);
        k.say(0, "1 50.10 'q 16 {}", "1 90.10");
        k.readAll(0);
        k.publish(0, "", "q", "a");
        k.say(0, Kit.publishing("", "nowhere", 1, "0:2", "b"));
        k.publish(0, "", "q", "c");
        k.channel(0, 1, 2, 3);
        k.total(1, 0);
        k.ask(0, "1 90.20", "1 60.50 312:2 ' ' 'nowhere", "1 H 60:2 1:4 0:2", "1 B b", "1 90.21");
        k.total(1, 2);
        k.channel(0, 1, 2, 0);
        k.publish(0, "", "q", "d");
        k.ask(0, "1 90.30", "1 90.31");
        k.channel(0, 1, 2, 0);
        k.total(1, 2);
        k.say(0, "1 40.10 'e 'fanout 16 {}", "1 50.20 'q 'e ' 1 {}");
        k.say(0, Kit.publishing("e", "k", 1, "0:2", "e"));
        k.ask(0, "1 40.20 'e 2");
        k.ask(0, "1 90.20", "1 60.50 312:2 ' 'e 'k", "1 H 60:2 1:4 0:2", "1 B e", "1 90.21");
    }

    private static void transactionOfAcks() {
        Kit k = withUnacked("transactionOfAcks", 5);
        k.ask(0, "1 90.10", "1 90.11");
        k.ask(0, "1 60.80 2:4 1");
        k.channel(0, 1, 1, 5);
        k.channel(0, 1, 2, 1);
        k.ask(0, "1 60.120 0:4 3");
        k.ask(0, "1 60.80 0:4 1");
        k.channel(0, 1, 2, 3);
        k.ask(0, "1 60.110 1", "1 60.111");
        k.channel(0, 1, 1, 5);
        k.ask(0, "1 90.20", "1 90.21");
        k.channel(0, 1, 1, 0);
        k.ready("q", 3);
        k = withUnacked("what counts as done", 2);
        k.say(0, "1 90.10", "1 60.90 1:4 0");
        k.readAll(0);
        k.ask(0, "1 90.30", "1 90.31");
        k.ask(0, "1 60.90 1:4 0");
        k.sayDue(0, 5, "1 60.80 1:4 0");
        k.hear(0, "1 20.40 406:2 ' 60:2 80:2");
        k.ready("q", 2);
        k.total(7, 0);
    }

    private static void transactionLimits() {
        Kit k = withUnacked("transactionLimits", 1);
        k.say(0, "1 90.10");
        for (int i = 0; i < 32; i++) {
            k.ask(0, "1 60.80 0:4 1", i == 0 ? new String[] {"1 90.11"} : new String[0]);
        }
        k.channel(0, 1, 2, 32);
        k.hard(0, 506, 60, 80, "1 60.80 0:4 1");
        k = new Kit("transactionLimits of messages");
        k.open(0);
        k.say(0, "1 90.10");
        k.readAll(0);
        for (int i = 0; i < 32; i++) {
            k.publish(0, "", "q", "");
        }
        k.soft(0, 406, 60, 80, "1 60.80 9:4 0");
        k.say(0, "1 90.10");
        k.readAll(0);
        for (int i = 0; i < 32; i++) {
            k.publish(0, "", "q", "");
        }
        k.channel(0, 1, 2, 32);
        k.ask(0, "1 60.40 ' 'q 0");
        k.hard(0, 506, 60, 40, "1 H 60:2 0:4 0:2");
    }

    private static void commitEndsHalfWay() {
        Kit k = new Kit("commitEndsHalfWay");
        k.open(0);
        k.say(0, "1 40.10 'f 'fanout 16 {}");
        for (int i = 0; i < 12; i++) {
            k.say(0, "1 50.10 'q" + i + " 16 {}", "1 50.20 ' 'f ' 1 {}");
        }
        for (int i = 0; i < 24; i++) {
            k.publish(0, "f", "", "");
        }
        k.total(1, 288);
        k.say(0, "1 90.10");
        k.readAll(0);
        k.publish(0, "f", "", "");
        k.publish(0, "f", "", "");
        k.ask(0, "1 60.70 'q0 0", "1 60.71 1:4 0 'f ' 23:4", "1 H 60:2 0:4 0:2");
        k.ask(0, "1 60.80 1:4 0");
        k.hard(0, 506, 90, 20, "1 90.20");
        k.total(1, 300);
        k.ready("q0", 25);
    }

    private static void confirms() {
        Kit k = new Kit("confirms");
        k.open(0);
        k.openChannel(0, 2);
        k.say(0, "1 50.10 'kept 18 {}", "1 50.10 'loose 16 {}", "1 85.10 1");
        k.tick(1, 1);
        k.publish(0, "", "loose", "2:2 1", "a");
        k.hear(0, "1 60.80 1:4 0");
        k.publish(0, "", "kept", "2:2 1", "b");
        k.publish(0, "", "kept", "2:2 0", "c");
        k.hear(0, "1 60.80 3:4 0");
        k.publish(0, "", "kept", "2:2 9", "d");
        k.channel(0, 1, 5, 4);
        k.hear(0);
        k.total(6, 2);
        k.tick(1, 2);
        k.hear(0, "1 60.80 2:4 0", "1 60.80 4:4 0");
        k.tick(1, 3);
        k.hear(0);
        k.publish(0, "", "kept", "2:2 1", "e");
        k.sayDue(0, 5, "1 20.40 0:2 ' 0:2 0:2", "1 20.10");
        k.hear(0, "1 20.41", "1 20.11");
        k.tick(1, 4);
        k.hear(0);
        k.channel(0, 1, 5, 0);
        k.openChannel(0, 3);
        k.say(0, "3 85.10 1", "3 60.40 ' 'kept 0", "3 H 60:2 0:4 2:2 1", "1 85.10 1");
        k.publish(0, "", "kept", "2:2 1", "f");
        k.hear(0);
        k.tick(1, 5);
        k.hear(0, "1 60.80 1:4 0", "3 60.80 1:4 0");
        k.publish(0, "", "kept", "2:2 1", "g");
        k.crash(1, 6);
        k.open(0, 0);
        k.tick(1, 6);
        k.hear(0);
    }

    private static void confirmsBehindReturn() {
        Kit k = new Kit("confirmsBehindReturn");
        k.open(0);
        k.say(0, "1 85.10 1");
        k.say(0, Kit.publishing("", "none", 1, "15:2 3 1 9:4 {a=I1,a=t2}", "x"));
        k.hear(0, "1 60.50 312:2 ' ' 'none", "1 H 60:2 1:4 15:2 3 1 9:4 {a=I1,a=t2}", "1 B x", "1 60.80 1:4 0");
        k.say(0, Kit.publishing("", "none", 0, "0:2", ""));
        k.hear(0, "1 60.80 2:4 0");
    }
}
