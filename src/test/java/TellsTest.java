/** Promises 19 to 22 and 26: person, fact, worth, urgent, count. */
public final class TellsTest {
    public static void main(String[] args) {
        person();
        personStates();
        fact();
        ageing();
        bits();
        worth();
        urgent();
        count();
        wrong();
        Due.end("TellsTest");
    }

    private static void person() {
        LivesAhead x = Due.reads("70r5,0x3,1x4,0x2;60r9");
        int[] first = {70, 5, 0, 3, 9, 0, 2, 120, LivesAhead.NONE, LivesAhead.NONE, 1};
        int[] second = {60, 9, 0, 0, 0, 0, 0, 190, LivesAhead.NONE, LivesAhead.NONE, 0};
        for (int what = 0; what <= 10; what++) {
            Due.due("person(0, " + what + ")", x.person(0, what), first[what]);
            Due.due("person(1, " + what + ")", x.person(1, what), second[what]);
        }
        x.trust(0, 20);
        Due.due("stale facts", x.person(0, 5), 2);
        Due.due("urgency with stale facts", x.person(0, 7), 130);
        Due.due("could not be printed", x.person(0, 10), 0);
    }

    private static void personStates() {
        LivesAhead x = Due.reads("70r5,0x3,1x4");
        x.print();
        x.tellDeath(0, 0);
        Due.due("told: state", x.person(0, 2), 1);
        Due.due("told: urgency", x.person(0, 7), LivesAhead.NONE);
        Due.due("told: day", x.person(0, 8), 1);
        x.print();
        x.decide(0, true);
        Due.due("dead: state", x.person(0, 2), 2);
        Due.due("dead: urgency", x.person(0, 7), LivesAhead.NONE);
        Due.due("dead: day", x.person(0, 8), 2);
        Due.due("dead: not printed", x.person(0, 9), LivesAhead.NONE);
        x.set(3, 3);
        x.print();
        x.set(3, 2);
        x.print();
        Due.due("printed: state", x.person(0, 2), 3);
        Due.due("printed: urgency", x.person(0, 7), LivesAhead.NONE);
        Due.due("printed: day", x.person(0, 8), 2);
        Due.due("printed: day of printing", x.person(0, 9), 3);
        Due.due("printed: could be", x.person(0, 10), 1);
        x.trust(1, 0);
        Due.due("printed: stale", x.person(0, 5), 1);
        Due.due("printed: could not be", x.person(0, 10), 0);
    }

    private static void fact() {
        LivesAhead x = Due.reads("70r5,5x9");
        x.print();
        x.write(0, 2, 1);
        Due.due("source", x.fact(0, 0, 0), 5);
        Due.due("lines", x.fact(0, 0, 1), 9);
        Due.due("day", x.fact(0, 0, 2), 0);
        Due.due("day of the second", x.fact(0, 1, 2), 1);
        Due.due("stale", x.fact(0, 0, 3), 0);
        Due.due("bits", x.fact(0, 0, 4), Float.floatToIntBits(0.5f));
        x.trust(5, 29);
        Due.due("stale then", x.fact(0, 0, 3), 1);
        Due.due("bits then", x.fact(0, 0, 4), Float.floatToIntBits(29.0f / 100.0f));
        Due.due("not stale", x.fact(0, 1, 3), 0);
        x.trust(5, 30);
        Due.due("as much as the bound", x.fact(0, 0, 3), 0);
    }

    private static void ageing() {
        LivesAhead x = Due.reads("70r5,0x1");
        x.trust(0, 77);
        float worth = 77.0f / 100.0f;
        for (int day = 0; day < 120; day++) {
            if (day > 0 && day % 10 == 0) {
                worth *= 0.9f;
            }
            Due.due("bits on day " + day, x.fact(0, 0, 4), Float.floatToIntBits(worth));
            x.print();
        }
        x.check(0, 0);
        Due.due("fresh again", x.fact(0, 0, 4), Float.floatToIntBits(0.77f));
    }

    private static void bits() {
        LivesAhead x = Due.reads("70r5,0x1");
        for (int trust = 0; trust <= 100; trust++) {
            x.trust(0, trust);
            float worth = (float) trust / 100.0f;
            Due.due("bits of " + trust, x.fact(0, 0, 4), Float.floatToIntBits(worth));
            Due.dueFloat("worth of " + trust, x.worth(0), worth);
        }
    }

    private static void worth() {
        LivesAhead x = Due.reads("70r5,0x3,1x7,2x9;60r1");
        x.trust(0, 33);
        x.trust(1, 71);
        x.trust(2, 99);
        Due.pass(x, 10);
        float sum = 0.0f;
        sum += 33.0f / 100.0f * 0.9f * 3.0f;
        sum += 71.0f / 100.0f * 0.9f * 7.0f;
        sum += 99.0f / 100.0f * 0.9f * 9.0f;
        Due.dueFloat("worth(0)", x.worth(0), sum);
        Due.dueFloat("worth(1)", x.worth(1), 0.0f);
        Due.dueFloat("worth(2)", x.worth(2), -1.0f);
        Due.dueFloat("worth(-1)", x.worth(-1), -1.0f);
        Due.dueFloat("worth(max)", x.worth(Integer.MAX_VALUE), -1.0f);
    }

    private static void urgent() {
        LivesAhead x = Due.reads("50r5,0x1;60r4,0x1;55r4,1x1;0r6,0x1;10r5;20r2");
        x.trust(1, 0);
        // 100, 100, 100, 60, 100, 80
        int[] want = {0, 1, 2, 4, 5, 3};
        for (int i = 0; i < want.length; i++) {
            Due.due("urgent(" + i + ")", x.urgent(i), want[i]);
        }
        Due.due("urgent(6)", x.urgent(6), LivesAhead.NONE);
        Due.due("urgent(max)", x.urgent(Integer.MAX_VALUE), LivesAhead.NONE);
        Due.due("urgent(-1)", x.urgent(-1), LivesAhead.BAD_VALUE);
        Due.due("urgent(min)", x.urgent(Integer.MIN_VALUE), LivesAhead.BAD_VALUE);
        x.tellDeath(0, 0);
        x.tellDeath(2, 0);
        x.decide(2, true);
        Due.due("without the told", x.urgent(0), 1);
        Due.due("without the dead", x.urgent(1), 4);
        Due.due("four are left", x.urgent(4), LivesAhead.NONE);
    }

    private static void count() {
        LivesAhead x = Due.reads("70r5,0x3,1x4;60r9,2x1,2x1;50r1,0x1,2x1;40r2");
        x.tellDeath(0, 0);
        x.decide(0, true);
        x.print();
        x.tellDeath(1, 0);
        x.tellDeath(2, 0);
        x.tellDeath(2, 1);
        x.trust(0, 10);
        x.trust(5, 11);
        x.correct(0, 1, 5);
        x.write(3, 3, 5);
        x.set(1, 50);
        x.set(3, 1);
        Due.type(x, "abc");
        int[] want = {1, 4, 3, 1, 1, 1, 1, 7, 1, 50, 1, 8, 50, 30, 1, 3, 4, 3};
        for (int what = 0; what < want.length; what++) {
            Due.due("count(" + what + ")", x.count(what), want[what]);
        }
        x.trust(0, 60);
        Due.due("lines free with a page", x.count(9), 48);
        Due.due("count(18)", x.count(18), LivesAhead.BAD_VALUE);
        Due.due("count(-1)", x.count(-1), LivesAhead.BAD_VALUE);
        Due.due("count(max)", x.count(Integer.MAX_VALUE), LivesAhead.BAD_VALUE);
    }

    private static void wrong() {
        LivesAhead x = Due.reads("70r5,0x3");
        int[] far = {-1, 1, 20, Integer.MAX_VALUE, Integer.MIN_VALUE};
        for (int f : far) {
            Due.due("person " + f, x.person(f, 99), LivesAhead.UNKNOWN);
            Due.due("fact of person " + f, x.fact(f, 0, 0), LivesAhead.UNKNOWN);
            Due.due("fact " + f, x.fact(0, f, 99), LivesAhead.UNKNOWN);
        }
        Due.due("person(0, 11)", x.person(0, 11), LivesAhead.BAD_VALUE);
        Due.due("person(0, -1)", x.person(0, -1), LivesAhead.BAD_VALUE);
        Due.due("fact(0, 0, 5)", x.fact(0, 0, 5), LivesAhead.BAD_VALUE);
        Due.due("fact(0, 0, -1)", x.fact(0, 0, -1), LivesAhead.BAD_VALUE);
    }
}
