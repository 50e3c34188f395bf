/** Promise 12: queues, their arguments, and messages in them. */
public final class QueueTest {
    public static void main(String[] args) {
        declaring();
        generatedNames();
        arguments();
        exclusive();
        limits();
        purging();
        deleting();
        deletedWithUnacked();
        deletedWithConsumers();
        deletedWithFullConsumer();
        getting();
        priorities();
        length();
        requeuedBeyondMax();
        deadLetters();
        deathsEnd();
        deadLetterKeys();
        threeHundredWait();
        fullOfMessages();
        fullOfNumbers();
        Kit.end();
    }

    private static void declaring() {
        Kit k = new Kit("declaring");
        k.open(0);
        k.ask(0, "1 50.10 'first 2 {}", "1 50.11 'first 0:4 0:4");
        k.ask(0, "1 50.10 'b 26 {}");
        k.queue(0, 0, 0);
        k.queue(0, 1, 0);
        k.queue(0, 2, 0);
        k.queue(0, 3, 2);
        k.queue(1, 3, 10);
        k.queue(0, 4, 5);
        k.queue(0, 5, 0);
        k.queue(0, 100, 'f');
        k.queue(0, 104, 't');
        k.queue(0, 105, -1);
        k.queue(0, 6, -1);
        k.queue(0, 99, -1);
        k.queue(0, -1, -1);
        k.queue(0, Integer.MIN_VALUE, -1);
        k.queue(2, 0, -1);
        k.queue(-1, 0, -1);
        k.publish(0, "", "first", "x");
        k.say(0, "1 50.10 'third 16 {}", "1 60.20 'third 'c 8");
        k.ask(0, "1 50.10 'first 2 {other=I1}", "1 50.11 'first 1:4 0:4");
        k.ask(0, "1 50.10 'third 1 {max=I0}", "1 50.11 'third 0:4 1:4");
        k.ask(0, "1 50.10 'b 17 {}");
        k.soft(0, 404, 50, 10, "1 50.10 'x 1 {}");
        k.soft(0, 404, 50, 10, "1 50.10 ' 1 {}");
        k.soft(0, 406, 50, 10, "1 50.10 'first 0 {}");
        k.soft(0, 406, 50, 10, "1 50.10 'first 6 {}");
        k.soft(0, 406, 50, 10, "1 50.10 'first 10 {}");
        k.total(2, 3);
        k.total(6, 2);
        k.ask(0, "1 50.10 'first 1 {}", "1 50.11 'first 1:4 0:4");
        k.ask(0, "1 60.70 ' 1", "1 60.71 1:4 0 ' 'first 0:4", "1 H 60:2 1:4 0:2", "1 B x");
    }

    private static void generatedNames() {
        Kit k = new Kit("generatedNames");
        k.open(0);
        k.ask(0, "1 50.10 ' 0 {}", "1 50.11 'gen-1 0:4 0:4");
        k.ask(0, "1 50.10 'gen-2 0 {}", "1 50.11 'gen-2 0:4 0:4");
        k.ask(0, "1 50.10 'gen-3 2 {}", "1 50.11 'gen-3 0:4 0:4");
        k.ask(0, "1 50.10 ' 0 {}", "1 50.11 'gen-4 0:4 0:4");
        k.ask(0, "1 50.40 ' 0", "1 50.41 0:4");
        k.soft(0, 406, 50, 10, "1 50.10 ' 0 {max=I0}");
        k.ask(0, "1 50.10 ' 0 {}", "1 50.11 'gen-5 0:4 0:4");
        k.crash(9, 0);
        k.open(0);
        k.ask(0, "1 50.10 ' 0 {}", "1 50.11 'gen-6 0:4 0:4");
    }

    private static void arguments() {
        Kit k = new Kit("arguments");
        k.open(0);
        String[] wrong = {"max=I0", "max=I51", "max=I-1", "max=t5", "ttl=I0", "ttl=I1001", "ttl=S5", "pri=I-1", "pri=I10", "pri=t1",
            "dlx=I1", "dlk=t1", "max=I5,max=I0"};
        for (String argument : wrong) {
            k.soft(0, 406, 50, 10, "1 50.10 'q 0 {" + argument + "}");
        }
        k.total(2, 0);
        k = new Kit("arguments that are others");
        k.open(0);
        k.ask(0, "1 50.10 'q 0 {max=I0,max=I50,ttl=I1000,pri=I9,dlx=S,dlk=Sk}", "1 50.11 'q 0:4 0:4");
        k.ask(0, "1 50.10 'q 0 {dlk=Sk,dlx=S,pri=I9,ttl=I1000,max=I50,more=I1}", "1 50.11 'q 0:4 0:4");
        String[] other = {"max=I49,ttl=I1000,pri=I9,dlx=S,dlk=Sk", "max=I50,ttl=I1,pri=I9,dlx=S,dlk=Sk", "max=I50,ttl=I1000,dlx=S,dlk=Sk",
            "max=I50,ttl=I1000,pri=I9,dlk=Sk", "max=I50,ttl=I1000,pri=I9,dlx=S,dlk=S", "max=I50,ttl=I1000,pri=I9,dlx=S", "ttl=I1000,pri=I9,dlx=S,dlk=Sk"};
        for (String argument : other) {
            k.soft(0, 406, 50, 10, "1 50.10 'q 0 {" + argument + "}");
        }
        k.ask(0, "1 50.10 'p 0 {max=I1,ttl=I1,pri=I0}", "1 50.11 'p 0:4 0:4");
        k.ask(0, "1 50.10 'p 0 {ttl=I1,max=I1}", "1 50.11 'p 0:4 0:4");
        k.ask(0, "1 50.10 'o 0 {ma=I0,maximum=I0,m=t1,=t2}", "1 50.11 'o 0:4 0:4");
        k.ask(0, "1 50.10 'o 0 {}", "1 50.11 'o 0:4 0:4");
    }

    private static void exclusive() {
        Kit k = new Kit("exclusive");
        k.open(0);
        k.open(1);
        k.ask(0, "1 50.10 'mine 6 {}", "1 50.11 'mine 0:4 0:4");
        k.queue(0, 3, 6);
        k.total(6, 0);
        k.ask(0, "1 50.10 'mine 6 {}", "1 50.11 'mine 0:4 0:4");
        k.soft(0, 406, 50, 10, "1 50.10 'mine 2 {}");
        k.soft(1, 405, 50, 10, "1 50.10 'mine 6 {}");
        k.soft(1, 405, 50, 10, "1 50.10 'mine 1 {}");
        k.soft(1, 406, 50, 10, "1 50.10 'mine 6 {max=I0}");
        k.soft(1, 405, 50, 30, "1 50.30 'mine 0");
        k.soft(1, 405, 50, 40, "1 50.40 'mine 0");
        k.soft(1, 405, 60, 20, "1 60.20 'mine ' 0");
        k.soft(1, 405, 60, 70, "1 60.70 'mine 0");
        k.publish(1, "", "mine", "x");
        k.ready("mine", 1);
        k.hall.cut(0);
        k.total(2, 0);
        k.total(1, 0);
    }

    private static void limits() {
        Kit k = new Kit("limits");
        k.open(0);
        for (int i = 0; i < 12; i++) {
            k.say(0, "1 50.10 'q" + i + " 16 {}");
        }
        k.ask(0, "1 50.10 'q11 0 {}", "1 50.11 'q11 0:4 0:4");
        k.hard(0, 506, 50, 10, "1 50.10 ' 0 {}");
        k.sayDue(0, 0, "0 10.51");
        k.open(0);
        k.say(0, "1 50.40 'q3 4");
        k.ask(0, "1 50.10 ' 0 {}", "1 50.11 'gen-1 0:4 0:4");
        k.queue(3, 101, '4');
        k.queue(11, 100, 'g');
    }

    private static void purging() {
        Kit k = new Kit("purging");
        k.open(0);
        k.say(0, "1 50.10 'q 18 {}");
        k.publish(0, "", "q", "2:2 1", "a");
        k.publish(0, "", "q", "b");
        k.publish(0, "", "q", "2:2 1", "c");
        k.tick(1, 1);
        k.ask(0, "1 60.70 'q 0", "1 60.71 1:4 0 ' 'q 2:4", "1 H 60:2 1:4 2:2 1", "1 B a");
        k.ask(0, "1 50.30 'q 0", "1 50.31 2:4");
        k.total(6, 1);
        k.total(7, 0);
        k.queue(0, 1, 1);
        k.total(1, 1);
        k.ask(0, "1 50.30 ' 1");
        k.soft(0, 404, 50, 30, "1 50.30 'x 0");
        k.soft(0, 404, 50, 30, "1 50.30 ' 0");
    }

    private static void deleting() {
        Kit k = new Kit("deleting");
        k.open(0);
        k.say(0, "1 50.10 'q 18 {}", "1 40.10 'e 'fanout 18 {}", "1 50.20 'q 'e ' 1 {}");
        k.publish(0, "", "q", "2:2 1", "a");
        k.soft(0, 406, 50, 40, "1 50.40 'q 2");
        k.soft(0, 404, 50, 40, "1 50.40 'x 2");
        k.soft(0, 404, 50, 40, "1 50.40 ' 0");
        k.say(0, "1 20.20 0", "1 60.20 'q 'c 8");
        k.readAll(0);
        k.soft(0, 406, 50, 40, "1 50.40 'q 1");
        k.total(6, 4);
        k.ask(0, "1 50.40 'q 1", "1 50.41 1:4");
        k.total(6, 5);
        k.total(1, 0);
        k.total(2, 0);
        k.total(4, 0);
        k.say(0, "1 50.10 'q 16 {}");
        k.ask(0, "1 50.40 'q 7");
        k.total(2, 0);
    }

    private static void deletedWithUnacked() {
        Kit k = new Kit("deletedWithUnacked");
        k.open(0);
        k.say(0, "1 50.10 'q 18 {dlx=S,dlk=Sr}", "1 50.10 'r 16 {}");
        for (int i = 0; i < 4; i++) {
            k.publish(0, "", "q", "2:2 1", "x");
            k.say(0, "1 60.70 'q 0");
        }
        k.say(0, "1 50.40 'q 4");
        k.total(1, 0);
        k.channel(0, 1, 1, 4);
        k.total(6, 6);
        k.readAll(0);
        k.say(0, "1 60.90 1:4 0", "1 60.80 2:4 0", "1 60.90 3:4 1");
        k.channel(0, 1, 1, 1);
        k.hear(0);
        k.total(7, 0);
        k.total(6, 6);
        k.total(1, 0);
        k.say(0, "1 50.10 'q 16 {}");
        k.ask(0, "1 60.110 1", "1 60.111");
        k.channel(0, 1, 1, 0);
        k.total(1, 0);
    }

    private static void deletedWithConsumers() {
        Kit k = new Kit("deletedWithConsumers");
        k.open(0);
        k.open(1);
        k.openChannel(1, 2);
        k.say(0, "1 50.10 'q 16 {}", "1 60.20 'q 'a 8");
        k.say(1, "2 60.20 'q 'b 8");
        k.say(0, "1 60.20 'q 'c 8");
        k.queue(0, 2, 3);
        k.total(5, 3);
        k.ask(0, "1 50.40 'q 0", "1 60.30 'a 1", "1 60.30 'c 1", "1 50.41 0:4");
        k.hear(1, "2 60.30 'b 1");
        k.total(5, 0);
    }

    private static void deletedWithFullConsumer() {
        Kit k = new Kit("deletedWithFullConsumer");
        k.open(0);
        k.open(1);
        k.say(0, "1 50.10 'q 24 {}");
        k.say(1, "1 60.20 'q 'a 8", "1 60.20 'q 'b 8", "1 50.10 'own 20 {}", "1 50.10 'side 24 {}", "1 60.20 'side 's 8");
        k.say(0, "1 60.20 'q 'c 8");
        k.stuff(1, 8);
        k.ask(0, "1 50.40 'q 0", "1 60.30 'c 1", "1 50.41 0:4");
        k.connected(1, 0, 0);
        k.due("nothing was sent", k.hall.waiting(1), 4992);
        k.total(2, 0);
        k.total(5, 0);
    }

    private static void getting() {
        Kit k = new Kit("getting");
        k.open(0);
        k.say(0, "1 50.10 'q 18 {}");
        k.ask(0, "1 60.70 'q 0", "1 60.72");
        k.channel(0, 1, 4, 0);
        k.publish(0, "", "q", "15:2 255 7 4294967295:4 {x=t1,x=Sy}", "ab");
        k.publish(0, "", "q", "");
        k.ask(0, "1 60.70 'q 0", "1 60.71 1:4 0 ' 'q 1:4", "1 H 60:2 2:4 15:2 255 1 4294967295:4 {x=t1,x=Sy}", "1 B ab");
        k.queue(0, 1, 1);
        k.queue(0, 0, 1);
        k.ask(0, "1 60.70 'q 9", "1 60.71 2:4 0 ' 'q 0:4", "1 H 60:2 0:4 0:2");
        k.queue(0, 1, 1);
        k.total(1, 1);
        k.soft(0, 404, 60, 70, "1 60.70 'x 0");
        k.ask(0, "1 60.70 'q 1", "1 60.71 1:4 1 ' 'q 0:4", "1 H 60:2 2:4 15:2 255 1 4294967295:4 {x=t1,x=Sy}", "1 B ab");
        k.total(1, 0);
        k.total(6, 3);
    }

    private static void drain(Kit k, String queue, String bodies) {
        StringBuilder got = new StringBuilder();
        while (k.hall.queue(k.place(queue), 0) > 0) {
            k.readAll(0);
            k.say(0, "1 60.70 '" + queue + " 1");
            byte[] bytes = k.readAll(0);
            got.append((char) bytes[bytes.length - 2]);
        }
        k.due(queue + " holds " + got + ", due is " + bodies, got.toString().equals(bodies), true);
    }

    private static void priorities() {
        Kit k = new Kit("priorities");
        k.open(0);
        k.say(0, "1 50.10 'p 16 {pri=I5}", "1 50.10 'q 16 {}", "1 40.10 'f 'fanout 16 {}", "1 50.20 'p 'f ' 1 {}", "1 50.20 'q 'f ' 1 {}");
        String[] flags = {"0:2", "1:2 9", "1:2 3", "1:2 5", "1:2 0", "1:2 3"};
        for (int i = 0; i < flags.length; i++) {
            k.publish(0, "f", "", flags[i], "" + i);
        }
        drain(k, "p", "132504");
        drain(k, "q", "012345");
        k.publish(0, "", "p", "1:2 4", "a");
        k.publish(0, "", "p", "1:2 4", "b");
        k.say(0, "1 60.70 'p 0");
        k.publish(0, "", "p", "1:2 4", "c");
        k.readAll(0);
        k.say(0, "1 60.110 1");
        drain(k, "p", "abc");
    }

    private static void length() {
        Kit k = new Kit("length");
        k.open(0);
        k.say(0, "1 50.10 'q 18 {max=I2,pri=I9}");
        k.tick(1, 1);
        k.publish(0, "", "q", "2:2 1", "a");
        k.publish(0, "", "q", "3:2 2 1", "b");
        k.total(7, 0);
        k.total(6, 2);
        k.publish(0, "", "q", "3:2 1 1", "c");
        k.total(7, 1);
        k.total(6, 4);
        k.publish(0, "", "q", "1:2 7", "d");
        k.total(7, 2);
        drain(k, "q", "ca");
    }

    private static void requeuedBeyondMax() {
        Kit k = new Kit("requeuedBeyondMax");
        k.open(0);
        k.say(0, "1 50.10 'q 16 {max=I1,dlx=S,dlk=Sd}", "1 50.10 'd 16 {}");
        k.publish(0, "", "q", "a");
        k.say(0, "1 60.70 'q 0");
        k.publish(0, "", "q", "b");
        k.ready("q", 1);
        k.readAll(0);
        k.ask(0, "1 60.90 1:4 1");
        k.total(7, 1);
        k.ask(0, "1 60.70 'd 1", "1 60.71 2:4 0 ' 'd 0:4", "1 H 60:2 1:4 0:2", "1 B a");
        drain(k, "q", "b");
    }

    private static void deadLetters() {
        Kit k = new Kit("deadLetters");
        k.open(0);
        k.say(0, "1 40.10 'dl 'fanout 24 {}", "1 50.10 'd0 16 {}", "1 50.10 'd1 18 {}", "1 50.20 'd0 'dl ' 1 {}", "1 50.20 'd1 'dl ' 1 {}");
        k.say(0, "1 50.10 'q 16 {dlx=Sdl}");
        k.publish(0, "", "q", "15:2 3 1 100:4 {a=I1}", "x");
        k.tick(1, 1);
        k.say(0, "1 60.70 'q 0", "1 60.90 1:4 0");
        k.readAll(0);
        k.ready("q", 0);
        k.ready("d0", 1);
        k.total(6, 1);
        k.ask(0, "1 60.70 'd1 0", "1 60.71 2:4 0 'dl 'q 0:4", "1 H 60:2 1:4 11:2 3 1 {a=I1}", "1 B x");
        k.say(0, "1 40.20 'dl 2");
        k.publish(0, "", "q", "y");
        k.say(0, "1 60.70 'q 0", "1 60.120 3:4 0");
        k.total(7, 2);
        k.total(1, 2);
    }

    private static void deathsEnd() {
        Kit k = new Kit("deathsEnd");
        k.open(0);
        k.say(0, "1 50.10 'q 16 {ttl=I1,dlx=S}");
        k.publish(0, "", "q", "4:2 0:4", "x");
        for (int i = 1; i <= 3; i++) {
            k.tick(1, i);
            k.total(7, i);
            k.ready("q", 1);
        }
        k.tick(1, 4);
        k.total(7, 4);
        k.ready("q", 0);
    }

    private static void deadLetterKeys() {
        Kit k = new Kit("deadLetterKeys");
        k.open(0);
        k.say(0, "1 40.10 'dl 'direct 16 {}", "1 50.10 'own 16 {}", "1 50.20 'own 'dl 'q 1 {}", "1 50.10 'told 16 {}", "1 50.20 'told 'dl ' 1 {}");
        k.say(0, "1 50.10 'q 16 {ttl=I1,dlx=Sdl}", "1 50.10 'r 16 {ttl=I1,dlx=Sdl,dlk=S}", "1 50.10 'z 16 {ttl=I1,dlk=Sown}");
        k.publish(0, "", "q", "a");
        k.publish(0, "", "r", "b");
        k.publish(0, "", "z", "c");
        k.tick(1, 1);
        k.total(7, 3);
        k.total(1, 2);
        k.ask(0, "1 60.70 'own 1", "1 60.71 1:4 0 'dl 'q 0:4", "1 H 60:2 1:4 0:2", "1 B a");
        k.ask(0, "1 60.70 'told 1", "1 60.71 2:4 0 'dl ' 0:4", "1 H 60:2 1:4 0:2", "1 B b");
    }

    private static void threeHundredWait() {
        Kit k = new Kit("threeHundredWait");
        k.open(0);
        k.say(0, "1 40.10 'f 'fanout 16 {}", "1 50.10 'c 16 {max=I50}");
        for (int i = 0; i < 11; i++) {
            k.say(0, "1 50.10 'q" + i + " 16 {max=I1,dlx=S,dlk=Sc}", "1 50.20 ' 'f ' 1 {}");
        }
        k.say(0, "1 90.10");
        for (int i = 0; i < 32; i++) {
            k.publish(0, "f", "", "");
        }
        k.say(0, "1 90.20");
        k.total(1, 61);
        // 31 of each of the eleven, then those of the 300 that were buried for which c had no room.
        k.total(7, 341 + 250);
    }

    private static Kit withTwelve(String name, String table) {
        Kit k = new Kit(name);
        k.open(0);
        k.say(0, "1 40.10 'f 'fanout 16 {}");
        for (int i = 0; i < 12; i++) {
            k.say(0, "1 50.10 'q" + i + " 16 {" + table + "}", "1 50.20 ' 'f ' 1 {}");
        }
        k.total(4, 12);
        return k;
    }

    private static void fullOfMessages() {
        Kit k = withTwelve("fullOfMessages", "");
        k.publish(0, "", "q0", "x");
        for (int i = 0; i < 24; i++) {
            k.publish(0, "f", "", "x");
        }
        k.total(1, 289);
        k.publish(0, "f", "", "last");
        k.total(1, 300);
        k.ready("q10", 25);
        k.ready("q11", 24);
        k.ask(0, "1 60.40 ' 'nowhere 0");
        k.hard(0, 506, 60, 40, "1 H 60:2 0:4 0:2");
        k.sayDue(0, 0, "0 10.51");
        k.open(0);
        k.say(0, "1 60.70 'q0 0", "1 60.80 1:4 0");
        k.readAll(0);
        k.publish(0, "", "q11", "x");
        k.ready("q11", 25);
        k.connected(0, 0, 5);
    }

    private static void fullOfNumbers() {
        Kit k = withTwelve("fullOfNumbers", "max=I1,dlx=Sf");
        k.publish(0, "f", "", "x");
        k.total(1, 12);
        int published = 1;
        while (k.hall.connection(0, 0) == 5 && published < 40) {
            k.publish(0, "f", "", "x");
            published++;
        }
        k.hear(0, "0 10.50 506:2 ' 60:2 40:2");
        // Each of the 12000 numbers but those of the 12 that are still there was dead.
        k.total(1, 12);
        k.total(7, 11988);
        k.crash(0, 0);
        k.open(0);
        k.say(0, "1 50.10 'q 16 {}");
        k.ask(0, "1 60.40 ' 'q 0");
        k.hard(0, 506, 60, 40, "1 H 60:2 0:4 0:2");
    }
}
