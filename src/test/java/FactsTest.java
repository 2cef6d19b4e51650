/** Promises 1, 2 and 4 to 7: a new object, addPerson, write, check, strike, checkUrgent. */
public final class FactsTest {
    public static void main(String[] args) {
        newObject();
        addPerson();
        write();
        writeOnOtherStates();
        check();
        checkOrder();
        strike();
        checkUrgent();
        checkUrgentOrder();
        checkUrgentAlive();
        checkUrgentDaily();
        checkUrgentChanging();
        Due.end("FactsTest");
    }

    private static void newObject() {
        LivesAhead x = new LivesAhead();
        int[] want = {0, 0, 8, 0, 0, 0, 0, 0, 0, 40, 0, 8, 40, 30, 2, 3, 0, 0};
        for (int what = 0; what < want.length; what++) {
            Due.due("new: count(" + what + ")", x.count(what), want[what]);
        }
        for (int source = 0; source < 6; source++) {
            Due.due("new: source " + source, x.source(source, 0), 50);
        }
        Due.due("new: undo()", x.undo(), LivesAhead.NONE);
        Due.due("new: restore()", x.restore(), LivesAhead.NONE);
        Due.due("new: clearText()", x.clearText(), 0);
        Due.due("new: urgent(0)", x.urgent(0), LivesAhead.NONE);
        Due.due("new: page(0)", x.page(0), LivesAhead.NONE);
        Due.due("new: person(0, 0)", x.person(0, 0), LivesAhead.UNKNOWN);
    }

    private static void addPerson() {
        LivesAhead x = new LivesAhead();
        int[][] bad = {{-1, 1}, {111, 1}, {0, 0}, {0, 10}, {Integer.MIN_VALUE, 5},
            {Integer.MAX_VALUE, 5}, {5, Integer.MIN_VALUE}, {5, Integer.MAX_VALUE}};
        String before = Due.all(x);
        for (int[] b : bad) {
            Due.due("addPerson bad " + b[0] + " " + b[1], x.addPerson(b[0], b[1]),
                    LivesAhead.BAD_VALUE);
        }
        Due.due("addPerson bad changes nothing", Due.all(x), before);
        Due.due("addPerson(0, 1)", x.addPerson(0, 1), 0);
        Due.due("addPerson(110, 9)", x.addPerson(110, 9), 1);
        Due.due("age", x.person(1, 0), 110);
        Due.due("rank", x.person(1, 1), 9);
        Due.due("state", x.person(1, 2), 0);
        Due.due("facts", x.person(1, 3), 0);
        Due.due("an act", x.count(16), 2);
        for (int i = 2; i < 20; i++) {
            Due.due("addPerson " + i, x.addPerson(i, 3), i);
        }
        before = Due.all(x);
        Due.due("21st", x.addPerson(1, 1), LivesAhead.FULL);
        Due.due("21st bad", x.addPerson(1, 0), LivesAhead.BAD_VALUE);
        Due.due("21st changes nothing", Due.all(x), before);
        x.undo();
        Due.due("20th again", x.addPerson(70, 2), 19);
        Due.due("20th again age", x.person(19, 0), 70);
    }

    private static void write() {
        LivesAhead x = new LivesAhead();
        x.set(0, 24);
        x.print();
        x.addPerson(50, 5);
        Due.due("write lines 9", x.write(0, 0, 9), 0);
        Due.due("write lines 1", x.write(0, 5, 1), 1);
        Due.due("source", x.fact(0, 1, 0), 5);
        Due.due("lines", x.fact(0, 1, 1), 1);
        Due.due("day", x.fact(0, 1, 2), 1);
        Due.due("hours", x.count(2), 14);
        Due.due("an act", x.count(16), 4);
        String before = Due.all(x);
        Due.due("no person", x.write(1, 0, 1), LivesAhead.UNKNOWN);
        Due.due("no person -1", x.write(-1, 0, 1), LivesAhead.UNKNOWN);
        Due.due("no source 6", x.write(0, 6, 0), LivesAhead.UNKNOWN);
        Due.due("no source -1", x.write(0, -1, 1), LivesAhead.UNKNOWN);
        Due.due("no source max", x.write(0, Integer.MAX_VALUE, 1), LivesAhead.UNKNOWN);
        Due.due("0 lines", x.write(0, 0, 0), LivesAhead.BAD_VALUE);
        Due.due("10 lines", x.write(0, 0, 10), LivesAhead.BAD_VALUE);
        Due.due("errors change nothing", Due.all(x), before);
        for (int i = 2; i < 8; i++) {
            Due.due("write " + i, x.write(0, 1, 1), i);
        }
        Due.due("ninth", x.write(0, 1, 1), LivesAhead.FULL);
        Due.due("ninth bad", x.write(0, 1, 10), LivesAhead.BAD_VALUE);
        Due.due("hours are left", x.count(2), 8);
        x.addPerson(60, 1);
        Due.due("too few hours", x.write(1, 0, 9), LivesAhead.FULL);
        Due.due("just enough hours", x.write(1, 0, 8), 0);
        Due.due("no hours", x.write(1, 0, 1), LivesAhead.FULL);
    }

    private static void writeOnOtherStates() {
        LivesAhead x = Due.reads("70r5,0x1,1x1;70r5;70r5");
        x.tellDeath(0, 0);
        x.decide(0, true);
        x.print();
        Due.due("printed", x.person(0, 2), 3);
        Due.due("write on printed", x.write(0, 0, 1), LivesAhead.NOT_POSSIBLE);
        Due.due("write on printed, bad first", x.write(0, 0, 0), LivesAhead.BAD_VALUE);
        Due.due("write on printed, too long", x.write(0, 0, 9), LivesAhead.NOT_POSSIBLE);
        x.tellDeath(1, 0);
        Due.due("write on told", x.write(1, 0, 1), 0);
        x.tellDeath(2, 0);
        x.decide(2, true);
        Due.due("write on dead", x.write(2, 0, 1), 0);
    }

    private static void check() {
        LivesAhead x = Due.reads("70r5,0x1,1x1;70r5");
        Due.due("check today", x.check(0, 0), LivesAhead.NONE);
        x.print();
        String before = Due.all(x);
        Due.due("check no person", x.check(2, 0), LivesAhead.UNKNOWN);
        Due.due("check person -1", x.check(-1, 0), LivesAhead.UNKNOWN);
        Due.due("check no fact", x.check(0, 2), LivesAhead.UNKNOWN);
        Due.due("check fact -1", x.check(0, -1), LivesAhead.UNKNOWN);
        Due.due("check no fact at all", x.check(1, 0), LivesAhead.UNKNOWN);
        Due.due("check errors change nothing", Due.all(x), before);
        Due.due("check", x.check(0, 1), 7);
        Due.due("check day", x.fact(0, 1, 2), 1);
        Due.due("check leaves the other", x.fact(0, 0, 2), 0);
        Due.due("check again", x.check(0, 1), LivesAhead.NONE);
        Due.due("check takes 1 hour", x.count(2), 7);
        Due.due("check is an act", x.undo(), 2);
        Due.due("check undone", Due.state(x), before.substring(0, before.lastIndexOf('\n')));
    }

    private static void checkOrder() {
        LivesAhead x = Due.reads("70r5,0x1,1x1;70r5,0x1");
        x.tellDeath(0, 0);
        x.decide(0, true);
        x.print();
        Due.due("check printed", x.check(0, 0), LivesAhead.NOT_POSSIBLE);
        Due.due("check printed no fact", x.check(0, 2), LivesAhead.UNKNOWN);
        x.write(1, 1, 8);
        Due.due("no hours before none", x.check(1, 1), LivesAhead.FULL);
        x.undo();
        x.write(1, 1, 7);
        Due.due("the last hour", x.check(1, 0), 0);
        x.undo();
        x.write(1, 1, 1);
        Due.due("no hours", x.check(1, 0), LivesAhead.FULL);
        Due.due("no hours, printed", x.check(0, 0), LivesAhead.NOT_POSSIBLE);
    }

    private static void strike() {
        LivesAhead x = Due.reads("70r5,0x1,1x2,2x3,3x4;60r5,0x1,1x1");
        x.tellDeath(1, 0);
        x.decide(1, true);
        x.print();
        String before = Due.all(x);
        Due.due("strike no person", x.strike(2, 0), LivesAhead.UNKNOWN);
        Due.due("strike no fact", x.strike(0, 4), LivesAhead.UNKNOWN);
        Due.due("strike fact -1", x.strike(0, -1), LivesAhead.UNKNOWN);
        Due.due("strike printed", x.strike(1, 0), LivesAhead.NOT_POSSIBLE);
        Due.due("strike printed no fact", x.strike(1, 2), LivesAhead.UNKNOWN);
        Due.due("strike errors change nothing", Due.all(x), before);
        x.check(0, 2);
        Due.due("strike", x.strike(0, 1), 3);
        Due.due("moved source", x.fact(0, 1, 0), 2);
        Due.due("moved lines", x.fact(0, 1, 1), 3);
        Due.due("moved day", x.fact(0, 1, 2), 1);
        Due.due("moved last", x.fact(0, 2, 0), 3);
        Due.due("gone", x.fact(0, 3, 0), LivesAhead.UNKNOWN);
        Due.due("first stays", x.fact(0, 0, 0), 0);
        Due.due("strike takes no hours", x.count(2), 7);
        Due.due("strike last", x.strike(0, 2), 2);
        Due.due("strike first", x.strike(0, 0), 1);
        Due.due("left", x.fact(0, 0, 0), 2);
        Due.due("strike only", x.strike(0, 0), 0);
        Due.due("strike is an act", x.undo(), 3);
        Due.due("again there", x.person(0, 3), 1);
        LivesAhead full = Due.reads("1r1,0x1,1x2,2x3,3x4,4x5,5x6,0x7,1x8");
        Due.due("strike of 8", full.strike(0, 7), 7);
        Due.due("strike of 7", full.strike(0, 0), 6);
        Due.due("lines moved up", full.person(0, 4), 2 + 3 + 4 + 5 + 6 + 7);
        full = Due.reads("1r1,0x1,1x2,2x3,3x4,4x5,5x6,0x7,1x8");
        Due.due("strike first of 8", full.strike(0, 0), 7);
        Due.due("the last moved up, too", full.fact(0, 6, 1), 8);
        Due.due("its source, too", full.fact(0, 6, 0), 1);
    }

    private static void checkUrgent() {
        LivesAhead x = Due.reads("70r5,0x1,1x1,2x1");
        Due.due("nothing stale", x.checkUrgent(), LivesAhead.NONE);
        x.trust(0, 10);
        x.trust(2, 10);
        Due.due("written today", x.checkUrgent(), LivesAhead.NONE);
        x.print();
        String before = Due.state(x);
        Due.due("two are stale", x.checkUrgent(), 2);
        Due.due("first", x.fact(0, 0, 2), 1);
        Due.due("not stale", x.fact(0, 1, 2), 0);
        Due.due("last", x.fact(0, 2, 2), 1);
        Due.due("hours", x.count(2), 6);
        Due.due("none left", x.checkUrgent(), LivesAhead.NONE);
        Due.due("still stale", x.person(0, 5), 2);
        x.undo();
        Due.due("one act", Due.state(x), before);
    }

    private static void checkUrgentOrder() {
        LivesAhead x = Due.reads("10r1,0x1,0x1;50r1,0x1,0x1;50r1,0x1,0x1");
        x.trust(0, 0);
        x.set(0, 3);
        x.print();
        Due.due("as many as hours", x.checkUrgent(), 3);
        Due.due("lowest number first", x.fact(1, 0, 2) + x.fact(1, 1, 2), 2);
        Due.due("then the next", x.fact(2, 0, 2), 1);
        Due.due("its second not", x.fact(2, 1, 2), 0);
        Due.due("the least urgent not", x.fact(0, 0, 2), 0);
        Due.due("no hours", x.checkUrgent(), LivesAhead.NONE);
        Due.due("no hours changes nothing", x.count(16), 4);
    }

    private static void checkUrgentAlive() {
        LivesAhead x = Due.reads("90r9,0x1;90r9,0x1;90r9,0x1;0r1,0x1");
        x.set(3, 1);
        x.tellDeath(0, 0);
        x.tellDeath(1, 0);
        x.decide(1, true);
        x.trust(0, 0);
        x.print();
        Due.due("only the alive", x.checkUrgent(), 2);
        Due.due("told not", x.fact(0, 0, 2), 0);
        Due.due("dead not", x.fact(1, 0, 2), 0);
        Due.due("alive", x.fact(2, 0, 2), 1);
        Due.due("alive too", x.fact(3, 0, 2), 1);
    }

    private static void checkUrgentDaily() {
        LivesAhead x = Due.reads("50r5,0x1");
        x.trust(0, 29);
        for (int day = 1; day <= 3; day++) {
            x.print();
            Due.due("each day " + day, x.checkUrgent(), 1);
            Due.due("each day once " + day, x.checkUrgent(), LivesAhead.NONE);
        }
    }

    /** 60 + 10 + 2 * 5 and 65 + 10 + 1 * 5 are the same, until one of the first is fresh again. */
    private static void checkUrgentChanging() {
        LivesAhead x = Due.reads("60r1,0x1,0x1;65r1,0x1");
        x.set(2, 46);
        x.set(0, 1);
        Due.pass(x, 10);
        Due.due("stale all", x.count(8), 3);
        Due.due("urgency 0", x.person(0, 7), 80);
        Due.due("urgency 1", x.person(1, 7), 80);
        Due.due("one hour", x.checkUrgent(), 1);
        Due.due("lowest number", x.fact(0, 0, 2), 10);
        Due.due("urgency 0 then", x.person(0, 7), 75);
        x.undo();
        x.set(0, 2);
        x.print();
        Due.due("two hours", x.checkUrgent(), 2);
        Due.due("first of 0", x.fact(0, 0, 2), 11);
        Due.due("second of 0 waits", x.fact(0, 1, 2), 0);
        Due.due("1 is more urgent then", x.fact(1, 0, 2), 11);
    }
}
