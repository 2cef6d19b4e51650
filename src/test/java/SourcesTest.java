/** Promises 8, 9, 24 and 25: trust, set, source, staleIn. */
public final class SourcesTest {
    private static final int[] LEAST = {1, 10, 0, 1, 1};
    private static final int[] MOST = {24, 200, 100, 3, 9};
    private static final int[] FIRST = {8, 40, 30, 2, 3};

    public static void main(String[] args) {
        trust();
        set();
        hoursOfADay();
        source();
        staleIn();
        bound();
        Due.end("SourcesTest");
    }

    private static void trust() {
        LivesAhead x = new LivesAhead();
        String before = Due.all(x);
        Due.due("trust(6, 5)", x.trust(6, 5), LivesAhead.UNKNOWN);
        Due.due("trust(-1, -1)", x.trust(-1, -1), LivesAhead.UNKNOWN);
        Due.due("trust(0, -1)", x.trust(0, -1), LivesAhead.BAD_VALUE);
        Due.due("trust(0, 101)", x.trust(0, 101), LivesAhead.BAD_VALUE);
        Due.due("trust(5, 50)", x.trust(5, 50), LivesAhead.NONE);
        Due.due("trust changes nothing", Due.all(x), before);
        Due.due("trust(5, 100)", x.trust(5, 100), 50);
        Due.due("trust(5, 0)", x.trust(5, 0), 100);
        Due.due("trust(5, 0) again", x.trust(5, 0), LivesAhead.NONE);
        Due.due("trust(5, 1)", x.trust(5, 1), 0);
        Due.due("the others", x.source(4, 0), 50);
        Due.due("an act", x.count(16), 3);
        x.undo();
        Due.due("undone", x.source(5, 0), 0);
    }

    private static void set() {
        LivesAhead x = new LivesAhead();
        Due.due("set(-1, 5)", x.set(-1, 5), LivesAhead.BAD_VALUE);
        Due.due("set(5, 5)", x.set(5, 5), LivesAhead.BAD_VALUE);
        Due.due("set(max, 5)", x.set(Integer.MAX_VALUE, 5), LivesAhead.BAD_VALUE);
        for (int which = 0; which < 5; which++) {
            String name = "set(" + which + ") ";
            Due.due(name + "too little", x.set(which, LEAST[which] - 1), LivesAhead.BAD_VALUE);
            Due.due(name + "too much", x.set(which, MOST[which] + 1), LivesAhead.BAD_VALUE);
            Due.due(name + "the same", x.set(which, FIRST[which]), LivesAhead.NONE);
            Due.due(name + "least", x.set(which, LEAST[which]), FIRST[which]);
            Due.due(name + "most", x.set(which, MOST[which]), LEAST[which]);
            Due.due(name + "most again", x.set(which, MOST[which]), LivesAhead.NONE);
            Due.due(name + "is so", x.count(11 + which), MOST[which]);
        }
        Due.due("lines of the page are so at once", x.count(9), 200);
        x.undo();
        Due.due("an act", x.count(15), 1);
    }

    private static void hoursOfADay() {
        LivesAhead x = new LivesAhead();
        x.set(0, 3);
        Due.due("hours of today stay", x.count(2), 8);
        x.print();
        Due.due("hours from the next day on", x.count(2), 3);
        x.addPerson(1, 1);
        x.write(0, 0, 2);
        x.print();
        Due.due("hours are there again", x.count(2), 3);
    }

    private static void source() {
        LivesAhead x = Due.reads("70r5,0x1,1x2;70r5,0x3,0x4;70r5");
        x.tellDeath(0, 0);
        x.decide(0, true);
        x.print();
        Due.due("printed", x.person(0, 2), 3);
        Due.due("trust", x.source(0, 0), 50);
        Due.due("facts of all lives", x.source(0, 1), 3);
        Due.due("stale", x.source(0, 2), 0);
        Due.due("lines", x.source(0, 3), 8);
        Due.due("another", x.source(1, 3), 2);
        Due.due("none", x.source(2, 1) + x.source(2, 2) + x.source(2, 3), 0);
        x.trust(0, 29);
        Due.due("stale ones of printed too", x.source(0, 2), 3);
        Due.due("stale ones of another", x.source(1, 2), 0);
        Due.due("source(6, 0)", x.source(6, 0), LivesAhead.UNKNOWN);
        Due.due("source(-1, 9)", x.source(-1, 9), LivesAhead.UNKNOWN);
        Due.due("source(0, 4)", x.source(0, 4), LivesAhead.BAD_VALUE);
        Due.due("source(0, -1)", x.source(0, -1), LivesAhead.BAD_VALUE);
    }

    private static void staleIn() {
        LivesAhead x = Due.reads("70r5,0x1,1x2;70r5,0x3,2x4;70r5,3x1");
        x.tellDeath(0, 0);
        x.decide(0, true);
        x.print();
        x.tellDeath(1, 0);
        x.tellDeath(2, 0);
        x.decide(2, true);
        x.trust(2, 31);
        x.trust(1, 0);
        Due.due("staleIn(-1)", x.staleIn(-1), LivesAhead.BAD_VALUE);
        Due.due("staleIn(1000)", x.staleIn(1000), LivesAhead.BAD_VALUE);
        Due.due("staleIn(0)", x.staleIn(0), 0);
        Due.due("staleIn(8)", x.staleIn(8), 0);
        Due.due("staleIn(9)", x.staleIn(9), 1);
        // 50 hundredths fall below 30 with the fifth ten of days, on the day 50
        Due.due("staleIn(48)", x.staleIn(48), 1);
        Due.due("staleIn(49)", x.staleIn(49), 3);
        Due.due("staleIn(999)", x.staleIn(999), 3);
        Due.due("no act", x.count(0), 1);
        x.set(2, 0);
        Due.due("nothing is less than 0", x.staleIn(999), 0);
    }

    private static void bound() {
        LivesAhead x = Due.reads("70r5,0x1");
        x.set(2, 50);
        Due.due("worth is the bound", x.person(0, 5), 0);
        x.set(2, 51);
        Due.due("worth is less", x.person(0, 5), 1);
        x.set(2, 100);
        x.trust(0, 100);
        Due.due("100 is not less than 100", x.person(0, 5), 0);
        Due.due("count(8)", x.count(8), 0);
        Due.due("staleIn(10)", x.staleIn(10), 1);
    }
}
