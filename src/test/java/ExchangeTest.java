/** Promise 13, and routing: exchanges, their kinds, alternates and bindings. */
public final class ExchangeTest {
    public static void main(String[] args) {
        declaring();
        redeclaring();
        limits();
        deleting();
        autoDelete();
        binding();
        bindingLimit();
        direct();
        fanout();
        topics();
        headers();
        alternates();
        internal();
        returned();
        Kit.end();
    }

    private static void declaring() {
        Kit k = new Kit("declaring");
        k.open(0);
        k.ask(0, "1 40.10 'one 'direct 2 {}", "1 40.11");
        k.ask(0, "1 40.10 'second 'topic 255 {}", "1 20.40 404:2 ' 40:2 10:2");
        k.say(0, "1 20.41", "1 20.10");
        k.readAll(0);
        k.ask(0, "1 40.10 'second 'topic 254 {}");
        k.ask(0, "1 40.10 'h 'headers 4 {}", "1 40.11");
        k.ask(0, "1 40.10 'f 'fanout 0 {}", "1 40.11");
        k.total(3, 4);
        k.exchange(0, 0, 0);
        k.exchange(1, 0, 2);
        k.exchange(2, 0, 3);
        k.exchange(3, 0, 1);
        k.exchange(0, 1, 2);
        k.exchange(1, 1, 14);
        k.exchange(2, 1, 4);
        k.exchange(0, 2, 0);
        k.exchange(0, 3, 3);
        k.exchange(1, 3, 6);
        k.exchange(1, 100, 's');
        k.exchange(1, 105, 'd');
        k.exchange(1, 106, -1);
        k.exchange(1, 99, -1);
        k.exchange(1, 4, -1);
        k.exchange(1, -1, -1);
        k.exchange(1, Integer.MAX_VALUE, -1);
        k.exchange(4, 0, -1);
        k.exchange(-1, 0, -1);
        k.total(6, 2);
    }

    private static void redeclaring() {
        Kit k = new Kit("redeclaring");
        k.open(0);
        k.ask(0, "1 40.10 'e 'direct 2 {alt=Sx,other=I1}", "1 40.11");
        k.ask(0, "1 40.10 'e 'direct 2 {alt=I1,alt=Sx}", "1 40.11");
        k.ask(0, "1 40.10 'e 'nonsense 1 {}", "1 40.11");
        k.ask(0, "1 40.10 ' ' 1 {}", "1 40.11");
        k.ask(0, "1 40.10 ' ' 17 {}");
        k.soft(0, 404, 40, 10, "1 40.10 'no 'direct 1 {}");
        k.soft(0, 403, 40, 10, "1 40.10 ' 'nonsense 0 {}");
        k.soft(0, 406, 40, 10, "1 40.10 'e 'fanout 2 {alt=Sx}");
        k.soft(0, 406, 40, 10, "1 40.10 'e 'direct 0 {alt=Sx}");
        k.soft(0, 406, 40, 10, "1 40.10 'e 'direct 10 {alt=Sx}");
        k.soft(0, 406, 40, 10, "1 40.10 'e 'direct 2 {alt=Sy}");
        k.soft(0, 406, 40, 10, "1 40.10 'e 'direct 2 {}");
        k.ask(0, "1 40.10 'none 'direct 0 {alt=S}", "1 40.11");
        k.ask(0, "1 40.10 'none 'direct 0 {alt=t1}", "1 40.11");
        k.ask(0, "1 40.10 'none 'direct 0 {alt=Sx,alt=I1}", "1 40.11");
        k.total(3, 2);
        k.hard(0, 503, 40, 10, "1 40.10 'e 'Direct 2 {alt=Sx}");
    }

    private static void limits() {
        Kit k = new Kit("limits");
        k.open(0);
        for (int i = 0; i < 12; i++) {
            k.ask(0, "1 40.10 'e" + i + " 'direct 0 {}", "1 40.11");
        }
        k.ask(0, "1 40.10 'e11 'direct 0 {}", "1 40.11");
        k.hard(0, 506, 40, 10, "1 40.10 'e12 'direct 0 {}");
        k.total(3, 12);
    }

    private static void deleting() {
        Kit k = new Kit("deleting");
        k.open(0);
        k.say(0, "1 40.10 'a 'fanout 18 {}", "1 40.10 'b 'fanout 16 {}", "1 50.10 'q 18 {}", "1 50.20 'q 'a ' 1 {}", "1 50.20 'q 'b ' 1 {}");
        k.total(6, 3);
        k.soft(0, 403, 40, 20, "1 40.20 ' 0");
        k.soft(0, 404, 40, 20, "1 40.20 'x 1");
        k.soft(0, 406, 40, 20, "1 40.20 'a 1");
        k.ask(0, "1 40.20 'a 0", "1 40.21");
        k.total(3, 1);
        k.total(4, 1);
        k.total(6, 4);
        k.exchange(0, 100, 'b');
        k.queue(0, 5, 1);
        k.say(0, "1 50.50 'q 'b ' {}");
        k.readAll(0);
        k.ask(0, "1 40.20 'b 3");
        k.total(3, 0);
        k.total(6, 4);
    }

    private static void autoDelete() {
        Kit k = new Kit("autoDelete");
        k.open(0);
        k.say(0, "1 40.10 'a 'fanout 22 {}", "1 40.10 'b 'fanout 20 {}", "1 50.10 'q 18 {}", "1 50.10 'r 18 {}");
        k.say(0, "1 50.20 'q 'a 'x 1 {}", "1 50.20 'q 'a 'y 1 {}", "1 50.20 'r 'a 'x 1 {}", "1 50.20 'q 'b ' 1 {}");
        k.total(4, 4);
        k.total(6, 6);
        k.ask(0, "1 50.50 'r 'a 'other {}", "1 50.51");
        k.total(4, 4);
        k.ask(0, "1 50.40 'q 0", "1 50.41 0:4");
        k.total(3, 1);
        k.total(4, 1);
        k.total(6, 7);
        k.exchange(0, 100, 'a');
        k.ask(0, "1 50.50 'r 'a 'x {}", "1 50.51");
        k.total(3, 0);
        k.total(6, 9);
        k.say(0, "1 40.10 'unbound 'fanout 20 {}", "1 50.10 'other 16 {}", "1 50.40 'other 4");
        k.total(3, 1);
        k.crash(8, 0);
        k.total(3, 1);
        k.total(4, 0);
    }

    private static void binding() {
        Kit k = new Kit("binding");
        k.open(0);
        k.open(1);
        k.say(0, "1 40.10 'e 'headers 18 {}", "1 50.10 'q 18 {}", "1 50.10 'mine 20 {}");
        k.ask(0, "1 50.20 'q 'e 'k 0 {a=I1,b=Sx}", "1 50.21");
        k.ask(0, "1 50.20 'q 'e 'k 7 {b=Sx,a=I1}");
        k.ask(0, "1 50.20 'q 'e 'k 0 {a=t9,b=Sx,a=I1}", "1 50.21");
        k.total(4, 1);
        k.ask(0, "1 50.20 'q 'e 'k 0 {a=I1}", "1 50.21");
        k.ask(0, "1 50.20 'q 'e 'k 0 {a=I1,b=Sy}", "1 50.21");
        k.ask(0, "1 50.20 'q 'e 'j 0 {a=I1}", "1 50.21");
        k.ask(0, "1 50.20 'q 'e 'j 0 {a=t1}", "1 50.21");
        k.ask(0, "1 50.20 'q 'e 'j 0 {c=I1}", "1 50.21");
        k.total(4, 6);
        k.total(6, 8);
        k.exchange(0, 2, 6);
        k.queue(0, 5, 6);
        k.ask(0, "1 50.50 'q 'e 'k {b=Sx,a=I1}", "1 50.51");
        k.ask(0, "1 50.50 'q 'e 'k {b=Sx,a=I1}", "1 50.51");
        k.total(4, 5);
        k.total(6, 9);
        k.ask(0, "1 50.20 ' 'e 'k 0 {}", "1 50.21");
        k.queue(1, 5, 1);
        k.total(6, 9);
        k.soft(0, 404, 50, 20, "1 50.20 'x ' 'k 0 {}");
        k.soft(0, 404, 50, 20, "1 50.20 ' 'e 'k 0 {}");
        k.soft(0, 403, 50, 20, "1 50.20 'q ' 'k 0 {}");
        k.soft(0, 404, 50, 20, "1 50.20 'q 'x 'k 0 {}");
        k.soft(1, 405, 50, 20, "1 50.20 'mine ' 'k 0 {}");
        k.soft(0, 404, 50, 50, "1 50.50 'x ' 'k {}");
        k.soft(0, 403, 50, 50, "1 50.50 'q ' 'k {}");
        k.soft(0, 404, 50, 50, "1 50.50 'q 'x 'k {}");
        k.soft(1, 405, 50, 50, "1 50.50 'mine 'e 'k {}");
    }

    private static void bindingLimit() {
        Kit k = new Kit("bindingLimit");
        k.open(0);
        k.say(0, "1 40.10 'e 'direct 16 {}", "1 50.10 'q 16 {}");
        for (int i = 0; i < 40; i++) {
            k.say(0, "1 50.20 'q 'e 'k" + i + " 1 {}");
        }
        k.ask(0, "1 50.20 'q 'e 'k0 0 {}", "1 50.21");
        k.hard(0, 506, 50, 20, "1 50.20 'q 'e 'k40 0 {}");
        k.total(4, 40);
    }

    private static Kit withQueues(String name, String kind, String... bindings) {
        Kit k = new Kit(name);
        k.open(0);
        k.say(0, "1 40.10 'e '" + kind + " 16 {}");
        for (int i = 0; i < bindings.length; i++) {
            k.say(0, "1 50.10 'q" + i + " 16 {}", "1 50.20 'q" + i + " 'e " + bindings[i].replace(" ", " 1 "));
        }
        k.total(4, bindings.length);
        return k;
    }

    /** Which queues a message came to since they were looked at last, as bits. */
    private static int reached(Kit k, int[] before) {
        int bits = 0;
        for (int i = 0; i < before.length; i++) {
            int now = k.hall.queue(i, 0);
            if (now == before[i] + 1) {
                bits |= 1 << i;
            } else if (now != before[i]) {
                bits |= 1 << 30;
            }
            before[i] = now;
        }
        return bits;
    }

    private static void direct() {
        int[] before = new int[4];
        Kit k = withQueues("direct", "direct", "'a {}", "'b {}", "'a {}", "' {}");
        k.say(0, "1 50.20 'q0 'e 'b 1 {}", "1 50.20 'q0 'e 'a 1 {x=I1}");
        k.publish(0, "e", "a", "x");
        k.due("a", reached(k, before), 5);
        k.publish(0, "e", "b", "x");
        k.due("b", reached(k, before), 3);
        k.publish(0, "e", "", "x");
        k.due("empty", reached(k, before), 8);
        k.publish(0, "e", "A", "x");
        k.due("A", reached(k, before), 0);
        k.publish(0, "", "q2", "x");
        k.due("the default one", reached(k, before), 4);
    }

    private static void fanout() {
        int[] before = new int[3];
        Kit k = withQueues("fanout", "fanout", "'a {}", "'b {}", "' {}");
        k.say(0, "1 50.20 'q0 'e 'b 1 {}");
        k.publish(0, "e", "zzz", "x");
        k.due("all, each once", reached(k, before), 7);
    }

    private static void topics() {
        String[] patterns = {"a.b", "*.b", "a.#", "#", "#.b", "*", "", "a.*.#.c", "#.x.#", "*.*", "a.#.#", "a."};
        String[] bindings = new String[patterns.length];
        for (int i = 0; i < patterns.length; i++) {
            bindings[i] = "'" + patterns[i] + " {}";
        }
        int[] before = new int[patterns.length];
        Kit k = withQueues("topics", "topic", bindings);
        String[] keys = {"a.b", "a", "", "b", "a.b.c", "a.x.b.x.c", "x", "a.", ".b", "*.b", "a.#", "a..c", "x.x.b", "#"};
        for (String key : keys) {
            k.publish(0, "e", key, "x");
            int want = 0;
            for (int i = 0; i < patterns.length; i++) {
                want |= matches(patterns[i].split("\\.", -1), 0, key.split("\\.", -1), 0) ? 1 << i : 0;
            }
            k.due("key " + key, reached(k, before), want);
        }
        k.publish(0, "e", "a.b", "x");
        k.due("told out", reached(k, before), 1 | 2 | 4 | 8 | 16 | 512 | 1024);
        k.publish(0, "e", "", "x");
        k.due("an empty key is one empty word", reached(k, before), 8 | 32 | 64);
    }

    /** The plainest way to match words, as a measure. */
    private static boolean matches(String[] pattern, int p, String[] key, int n) {
        if (p == pattern.length) {
            return n == key.length;
        }
        if (pattern[p].equals("#")) {
            return matches(pattern, p + 1, key, n) || (n < key.length && matches(pattern, p, key, n + 1));
        }
        return n < key.length && (pattern[p].equals("*") || pattern[p].equals(key[n])) && matches(pattern, p + 1, key, n + 1);
    }

    private static void headers() {
        int[] before = new int[7];
        Kit k = withQueues("headers", "headers", "' {a=I1,b=Sx}", "' {a=I1,b=Sx,match=Sany}", "' {}", "' {match=Sany}",
                "' {match=I1,a=I1}", "' {a=t1}", "' {match=Sany,a=I7,match=Sall}");
        k.publish(0, "e", "", "8:2 {b=Sx,a=I1,c=I9}", "m");
        k.due("both", reached(k, before), 1 | 2 | 4 | 16);
        k.publish(0, "e", "", "8:2 {a=I1}", "m");
        k.due("one", reached(k, before), 2 | 4 | 16);
        k.publish(0, "e", "", "8:2 {a=I1,a=I2}", "m");
        k.due("the last one counts", reached(k, before), 4);
        k.publish(0, "e", "", "8:2 {a=t1}", "m");
        k.due("kinds", reached(k, before), 4 | 32);
        k.publish(0, "e", "", "8:2 {a=I7}", "m");
        k.due("any and all", reached(k, before), 4 | 64);
        k.publish(0, "e", "", "m");
        k.due("none", reached(k, before), 4);
    }

    private static void alternates() {
        int[] before = new int[2];
        Kit k = new Kit("alternates");
        k.open(0);
        k.say(0, "1 40.10 'a 'direct 16 {alt=Sb}", "1 40.10 'b 'direct 24 {alt=Sc}", "1 40.10 'c 'direct 16 {alt=Sa}");
        k.say(0, "1 50.10 'q0 16 {}", "1 50.10 'q1 16 {}", "1 50.20 'q0 'a 'x 1 {}", "1 50.20 'q1 'b 'x 1 {}", "1 50.20 'q1 'c 'y 1 {}");
        k.publish(0, "a", "x", "m");
        k.due("x", reached(k, before), 1);
        k.publish(0, "a", "y", "m");
        k.due("y by b and c", reached(k, before), 2);
        k.publish(0, "c", "x", "m");
        k.due("x by a", reached(k, before), 1);
        k.say(0, Kit.publishing("a", "z", 1, "0:2", "m"));
        k.hear(0, "1 60.50 312:2 ' 'a 'z", "1 H 60:2 1:4 0:2", "1 B m");
        k.say(0, "1 40.20 'b 2");
        k.publish(0, "a", "y", "m");
        k.due("the alternate is gone", reached(k, before), 0);
    }

    private static void internal() {
        Kit k = new Kit("internal");
        k.open(0);
        k.say(0, "1 40.10 'i 'fanout 24 {}", "1 50.10 'q 16 {}", "1 50.20 'q 'i ' 1 {}");
        k.soft(0, 403, 60, 40, "1 60.40 'i ' 0", "1 H 60:2 0:4 0:2");
        k.soft(0, 404, 60, 40, "1 60.40 'x ' 0");
        k.total(1, 0);
    }

    private static void returned() {
        Kit k = new Kit("returned");
        k.open(0);
        k.say(0, "1 40.10 'e 'fanout 16 {}");
        k.say(0, Kit.publishing("e", "k", 1, "3:2 0 0", ""));
        k.hear(0, "1 60.50 312:2 ' 'e 'k", "1 H 60:2 0:4 0:2");
        k.say(0, Kit.publishing("e", "k", 254, "0:2", "x"));
        k.hear(0);
        k.say(0, "1 60.40 'e 'k 1", "1 H 60:2 1:4 0:2", "1 20.20 1");
        k.hear(0, "0 10.50 505:2 ' 20:2 20:2");
    }
}
