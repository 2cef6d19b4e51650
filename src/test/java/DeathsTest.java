/** Promises 10 to 13 and 23: tellDeath, decide, print, correct, page. */
public final class DeathsTest {
    public static void main(String[] args) {
        tellDeath();
        decide();
        takenBackByDays();
        pageOrder();
        rankBeforeDay();
        pageFits();
        pageNeeds();
        printNeedsEarlierDay();
        printFirstThenTakesBack();
        lastDay();
        correct();
        Due.end("DeathsTest");
    }

    private static void tellDeath() {
        LivesAhead x = Due.reads("70r5;60r5");
        String before = Due.all(x);
        Due.due("tell no person", x.tellDeath(2, 0), LivesAhead.UNKNOWN);
        Due.due("tell person -1", x.tellDeath(-1, 0), LivesAhead.UNKNOWN);
        Due.due("tell no source", x.tellDeath(0, 6), LivesAhead.UNKNOWN);
        Due.due("tell source -1", x.tellDeath(0, -1), LivesAhead.UNKNOWN);
        Due.due("tell errors change nothing", Due.all(x), before);
        x.print();
        Due.due("told", x.tellDeath(0, 3), 0);
        Due.due("state told", x.person(0, 2), 1);
        Due.due("day told", x.person(0, 8), 1);
        Due.due("no urgency", x.person(0, 7), LivesAhead.NONE);
        Due.due("told by the same", x.tellDeath(0, 3), LivesAhead.NONE);
        Due.due("an act only if told", x.count(16), 3);
        x.print();
        Due.due("told by another", x.tellDeath(0, 4), 1);
        Due.due("state dead", x.person(0, 2), 2);
        Due.due("day confirmed", x.person(0, 8), 2);
        Due.due("told of a dead", x.tellDeath(0, 3), LivesAhead.NOT_POSSIBLE);
        Due.due("told of a dead, no source", x.tellDeath(0, 6), LivesAhead.UNKNOWN);
        x.undo();
        Due.due("undo of a confirmation", x.person(0, 2), 1);
        Due.due("told by the same still", x.tellDeath(0, 3), LivesAhead.NONE);
        x.decide(0, false);
        Due.due("nobody told it", x.tellDeath(0, 3), 0);
    }

    private static void decide() {
        LivesAhead x = Due.reads("70r5;60r5;50r5");
        Due.due("decide no person", x.decide(3, true), LivesAhead.UNKNOWN);
        Due.due("decide alive", x.decide(0, true), LivesAhead.NOT_POSSIBLE);
        Due.due("decide alive back", x.decide(0, false), LivesAhead.NOT_POSSIBLE);
        x.tellDeath(0, 0);
        x.tellDeath(1, 0);
        x.tellDeath(2, 0);
        x.print();
        Due.due("confirm", x.decide(0, true), 2);
        Due.due("confirmed", x.person(0, 2), 2);
        Due.due("day of confirmation", x.person(0, 8), 1);
        Due.due("decide dead", x.decide(0, false), LivesAhead.NOT_POSSIBLE);
        Due.due("take back", x.decide(1, false), 1);
        Due.due("alive again", x.person(1, 2), 0);
        Due.due("no day", x.person(1, 8), LivesAhead.NONE);
        Due.due("take back last", x.decide(2, false), 0);
        Due.due("an act", x.undo(), 3);
        Due.due("told again", x.person(2, 2), 1);
    }

    private static void takenBackByDays() {
        for (int days = 1; days <= 9; days++) {
            LivesAhead x = Due.reads("70r5");
            x.set(4, days);
            x.print();
            x.tellDeath(0, 0);
            for (int i = 1; i < days; i++) {
                x.print();
                Due.due("told still, " + days + " at " + i, x.person(0, 2), 1);
            }
            x.print();
            Due.due("taken back, " + days, x.person(0, 2), 0);
            Due.due("no one told it, " + days, x.tellDeath(0, 0), 0);
        }
        LivesAhead x = Due.reads("70r5");
        x.set(4, 9);
        x.tellDeath(0, 0);
        Due.pass(x, 4);
        x.set(4, 1);
        Due.due("not before a day passes", x.person(0, 2), 1);
        x.print();
        Due.due("then at once", x.person(0, 2), 0);
    }

    private static LivesAhead dead(String text) {
        LivesAhead x = Due.reads(text);
        for (int i = 0; i < x.count(1); i++) {
            x.tellDeath(i, 0);
            x.decide(i, true);
        }
        return x;
    }

    private static void pageOrder() {
        LivesAhead x = Due.reads("1r3,0x1,1x1;2r5,0x1,1x1;3r5,0x1,1x1;4r9,0x1,1x1;5r5,0x1,1x1");
        x.set(3, 3);
        x.tellDeath(4, 0);
        x.decide(4, true);
        x.print();
        for (int i = 0; i < 4; i++) {
            x.tellDeath(i, 0);
            x.decide(i, true);
        }
        x.set(3, 2);
        int[] want = {3, 4, 1, 2, 0};
        for (int i = 0; i < 5; i++) {
            Due.due("page(" + i + ")", x.page(i), want[i]);
        }
        Due.due("page(5)", x.page(5), LivesAhead.NONE);
        Due.due("page(max)", x.page(Integer.MAX_VALUE), LivesAhead.NONE);
        Due.due("page(-1)", x.page(-1), LivesAhead.BAD_VALUE);
        Due.due("page(min)", x.page(Integer.MIN_VALUE), LivesAhead.BAD_VALUE);
        Due.due("lines free", x.count(9), 30);
        Due.due("print()", x.print(), 5);
        Due.due("day of printing", x.person(0, 9), 1);
        Due.due("day confirmed stays", x.person(4, 8), 0);
        Due.due("the page is empty", x.page(0), LivesAhead.NONE);
        Due.due("printed", x.count(6), 5);
        Due.due("print() again", x.print(), 0);
        Due.due("an act", x.undo(), 3);
        x.undo();
        Due.due("not printed", x.count(6), 0);
        Due.due("not printed, no day", x.person(0, 9), LivesAhead.NONE);
    }

    private static void rankBeforeDay() {
        LivesAhead x = Due.reads("1r2,0x1,1x1;1r3,0x1,1x1;1r3,0x1,1x1;1r2,0x1,1x1");
        x.set(3, 3);
        int[] order = {0, 3, 2, 1};
        for (int person : order) {
            x.tellDeath(person, 0);
            x.decide(person, true);
            Due.pass(x, 5);
        }
        x.set(3, 2);
        int[] want = {2, 1, 0, 3};
        for (int i = 0; i < 4; i++) {
            Due.due("a rank weighs more than days, page(" + i + ")", x.page(i), want[i]);
        }
    }

    private static void pageFits() {
        LivesAhead x = dead("1r9,0x5,1x3;2r8,0x2,1x1;3r7,0x1,1x1;4r6,0x1,1x1");
        x.set(1, 10);
        Due.due("first fits", x.page(0), 0);
        Due.due("one is passed over, a later fits", x.page(1), 2);
        Due.due("full", x.page(2), LivesAhead.NONE);
        Due.due("no lines free", x.count(9), 0);
        Due.due("print()", x.print(), 2);
        Due.due("passed over is dead still", x.person(1, 2), 2);
        Due.due("lines the next day", x.count(9), 5);
        Due.due("print() the rest", x.print(), 2);
        Due.due("day of the rest", x.person(1, 9), 1);
        LivesAhead wide = dead("1r9,0x9,1x9;1r9,0x1,1x1");
        wide.set(1, 17);
        Due.due("the greatest does not fit", wide.page(0), 1);
        wide.set(1, 18);
        Due.due("it just fits", wide.page(0), 0);
    }

    private static void pageNeeds() {
        LivesAhead x = dead("1r9,0x1,0x1;1r8,0x1,1x1;1r7,0x1,1x1,2x1;1r6");
        Due.due("two sources", x.page(0), 1);
        Due.due("could print", x.person(0, 10) * 10 + x.person(1, 10), 1);
        x.set(3, 3);
        Due.due("three sources", x.page(0), 2);
        x.set(3, 1);
        Due.due("one source", x.page(0), 0);
        Due.due("never without a fact", x.page(3), LivesAhead.NONE);
        x.trust(2, 0);
        Due.due("a stale fact", x.page(2), LivesAhead.NONE);
        Due.due("a stale fact, print()", x.print(), 2);
    }

    /** What goes stale with the day that begins is printed before. */
    private static void printNeedsEarlierDay() {
        LivesAhead x = Due.reads("1r9,0x1,1x1;1r9,0x1,1x1");
        x.set(2, 50);
        Due.pass(x, 9);
        x.tellDeath(0, 0);
        x.decide(0, true);
        Due.due("printed on the day 9", x.print(), 1);
        Due.due("day 9", x.person(0, 9), 9);
        x.tellDeath(1, 0);
        x.decide(1, true);
        Due.due("stale on the day 10", x.print(), 0);
    }

    private static void printFirstThenTakesBack() {
        LivesAhead x = Due.reads("1r9,0x1,1x1;2r9,0x1,1x1;3r9,0x1,1x1");
        x.set(4, 1);
        x.tellDeath(0, 0);
        x.tellDeath(1, 0);
        x.tellDeath(1, 1);
        Due.due("print()", x.print(), 1);
        Due.due("told is not printed, but taken back", x.person(0, 2), 0);
        Due.due("dead is printed", x.person(1, 2), 3);
        Due.due("alive stays", x.person(2, 2), 0);
        Due.due("printed day of death", x.person(1, 8), 0);
        Due.due("tell of a printed", x.tellDeath(1, 2), LivesAhead.NOT_POSSIBLE);
        Due.due("decide of a printed", x.decide(1, false), LivesAhead.NOT_POSSIBLE);
    }

    /** More calls than the document promises for: it is the one way to the last day. */
    private static void lastDay() {
        LivesAhead x = Due.reads("1r9,0x1");
        for (int day = 0; day < 9999; day++) {
            if (x.print() != 0) {
                Due.due("print() on day " + day, -1, 0);
            }
        }
        String before = Due.all(x);
        Due.due("day 9999", x.count(0), 9999);
        Due.due("print() on day 9999", x.print(), LivesAhead.FULL);
        Due.due("nothing has changed", Due.all(x), before);
        float worth = 0.5f;
        for (int i = 0; i < 999; i++) {
            worth *= 0.9f;
        }
        Due.due("the least worth as bits", x.fact(0, 0, 4), Float.floatToIntBits(worth));
    }

    private static void correct() {
        LivesAhead x = dead("1r9,0x1,1x1");
        x.addPerson(5, 5);
        x.write(1, 0, 1);
        Due.due("correct before printing", x.correct(0, 0, 2), LivesAhead.NOT_POSSIBLE);
        x.print();
        x.print();
        String before = Due.all(x);
        Due.due("correct no person", x.correct(2, 0, 0), LivesAhead.UNKNOWN);
        Due.due("correct no fact", x.correct(0, 2, 0), LivesAhead.UNKNOWN);
        Due.due("correct fact -1", x.correct(0, -1, 0), LivesAhead.UNKNOWN);
        Due.due("correct no source", x.correct(0, 0, 6), LivesAhead.UNKNOWN);
        Due.due("correct source -1", x.correct(0, 0, -1), LivesAhead.UNKNOWN);
        Due.due("correct alive, no source", x.correct(1, 0, 6), LivesAhead.UNKNOWN);
        Due.due("correct alive", x.correct(1, 0, 0), LivesAhead.NOT_POSSIBLE);
        Due.due("correct the same", x.correct(0, 0, 0), LivesAhead.NONE);
        Due.due("correct changes nothing", Due.all(x), before);
        Due.due("correct", x.correct(0, 0, 5), 1);
        Due.due("its source", x.fact(0, 0, 0), 5);
        Due.due("its day stays", x.fact(0, 0, 2), 0);
        Due.due("its lines stay", x.fact(0, 0, 1), 1);
        Due.due("no hours", x.count(2), 8);
        Due.due("correct another", x.correct(0, 1, 5), 2);
        Due.due("one source then", x.person(0, 6), 1);
        Due.due("count(10)", x.count(10), 2);
        x.undo();
        Due.due("an act", x.count(10), 1);
        Due.due("its source again", x.fact(0, 1, 0), 1);
    }
}
