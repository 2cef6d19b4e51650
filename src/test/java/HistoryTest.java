/** Promises 16 to 18: undo, keep, restore; and which calls are acts. */
public final class HistoryTest {
    public static void main(String[] args) {
        undo();
        fourStates();
        ringGoesRound();
        keepAndRestore();
        snapshotStays();
        anotherPerson();
        everyAct();
        noActs();
        Due.end("HistoryTest");
    }

    private static void undo() {
        LivesAhead x = new LivesAhead();
        Due.due("undo() of nothing", x.undo(), LivesAhead.NONE);
        x.addPerson(1, 1);
        x.addPerson(2, 2);
        Due.due("states", x.count(16), 2);
        Due.due("undo()", x.undo(), 1);
        Due.due("persons", x.count(1), 1);
        Due.due("undo() again", x.undo(), 0);
        Due.due("no persons", x.count(1), 0);
        Due.due("undo() at the end", x.undo(), LivesAhead.NONE);
        x.addPerson(3, 3);
        Due.due("after undo", x.person(0, 0), 3);
        Due.due("no facts of before", x.person(0, 3), 0);
    }

    private static void fourStates() {
        LivesAhead x = new LivesAhead();
        for (int i = 0; i < 6; i++) {
            x.addPerson(i, 1);
            Due.due("states after " + i, x.count(16), Math.min(4, i + 1));
        }
        for (int left = 3; left >= 0; left--) {
            Due.due("undo()", x.undo(), left);
            Due.due("persons", x.count(1), left + 2);
        }
        Due.due("the oldest are dropped", x.undo(), LivesAhead.NONE);
        Due.due("persons at the end", x.count(1), 2);
    }

    private static void ringGoesRound() {
        LivesAhead x = new LivesAhead();
        for (int round = 0; round < 30; round++) {
            x.print();
            x.print();
            x.print();
            Due.due("undo() " + round, x.undo(), round == 0 ? 2 : 3);
            Due.due("day " + round, x.count(0), 2 * round + 2);
        }
        for (int back = 1; back <= 3; back++) {
            x.undo();
            Due.due("day back " + back, x.count(0), 60 - back);
        }
    }

    private static void keepAndRestore() {
        LivesAhead x = Due.reads("70r5,0x1");
        Due.due("restore() of nothing", x.restore(), LivesAhead.NONE);
        x.print();
        String kept = Due.state(x);
        Due.due("keep()", x.keep(), 1);
        Due.due("keep is no act", x.count(16), 2);
        x.print();
        x.write(0, 1, 5);
        x.trust(0, 10);
        String later = Due.state(x);
        Due.due("restore()", x.restore(), 1);
        Due.due("the state of the snapshot", Due.state(x), kept);
        Due.due("restore is an act", x.count(16), 4);
        Due.due("undo()", x.undo(), 3);
        Due.due("the state before restore", Due.state(x), later);
        Due.due("the snapshot stays", x.restore(), 1);
        Due.due("the same again", Due.state(x), kept);
    }

    private static void snapshotStays() {
        LivesAhead x = new LivesAhead();
        Due.due("keep() of nothing", x.keep(), 0);
        x.addPerson(1, 1);
        Due.due("restore() of nothing kept", x.restore(), 0);
        Due.due("no persons", x.count(1), 0);
        x.print();
        x.print();
        Due.due("keep() in place", x.keep(), 2);
        x.undo();
        x.undo();
        Due.due("undo leaves the snapshot", x.restore(), 2);
        x.addPerson(5, 5);
        x.write(0, 1, 1);
        Due.due("acts leave the snapshot", x.restore(), 2);
        Due.due("no persons still", x.count(1), 0);
    }

    /** Nothing of a person who is undone is left for the next one of the same number. */
    private static void anotherPerson() {
        LivesAhead x = new LivesAhead();
        x.keep();
        String[] before = {"70r5,0x1,1x1", "70r5,0x1", "60r4,2x2"};
        for (int state = 1; state <= 3; state++) {
            Due.type(x, before[state % 3]);
            x.addPersons();
            x.clearText();
            x.tellDeath(0, 0);
            if (state > 1) {
                x.decide(0, true);
            }
            x.set(3, 1);
            x.print();
            Due.due("state of the one before", x.person(0, 2), state == 1 ? 1 : 3);
            x.restore();
            x.addPerson(30, 3);
            int[] want = {30, 3, 0, 0, 0, 0, 0, 100, LivesAhead.NONE, LivesAhead.NONE, 0};
            for (int what = 0; what <= 10; what++) {
                Due.due("person(0, " + what + ") after " + state, x.person(0, what), want[what]);
            }
            Due.due("told first", x.tellDeath(0, 0), 0);
            x.restore();
        }
        x.addPerson(1, 2);
        x.keep();
        x.undo();
        x.addPerson(3, 4);
        x.restore();
        Due.due("age of the snapshot", x.person(0, 0), 1);
        Due.due("rank of the snapshot", x.person(0, 1), 2);
        x.undo();
        Due.due("age of the history", x.person(0, 0), 3);
        Due.due("rank of the history", x.person(0, 1), 4);
    }

    private static LivesAhead ready() {
        LivesAhead x = Due.reads("70r5,0x1,1x1;60r4,0x1;50r3,2x2;40r2,3x1,4x1");
        x.tellDeath(3, 0);
        x.decide(3, true);
        x.trust(0, 20);
        x.trust(3, 60);
        x.print();
        x.tellDeath(1, 0);
        x.keep();
        Due.type(x, "5r5,0x1");
        return x;
    }

    private static int act(LivesAhead x, int which) {
        switch (which) {
            case 0: return x.addPerson(5, 5);
            case 1: return x.addPersons();
            case 2: return x.write(0, 0, 3);
            case 3: return x.check(0, 0);
            case 4: return x.strike(0, 0);
            case 5: return x.checkUrgent();
            case 6: return x.trust(1, 3);
            case 7: return x.set(2, 60);
            case 8: return x.tellDeath(0, 2);
            case 9: return x.tellDeath(1, 2);
            case 10: return x.decide(1, true);
            case 11: return x.decide(1, false);
            case 12: return x.print();
            case 13: return x.correct(3, 0, 0);
            default: return x.restore();
        }
    }

    private static void everyAct() {
        for (int which = 0; which <= 14; which++) {
            LivesAhead x = ready();
            x.undo();
            x.tellDeath(1, 0);
            String before = Due.state(x);
            Due.due("act " + which, act(x, which) >= 0 ? 1 : 0, 1);
            Due.due("history of act " + which, x.count(16), 4);
            Due.due("undo of act " + which, x.undo(), 3);
            Due.due("state before act " + which, Due.state(x), before);
        }
    }

    private static void noActs() {
        LivesAhead x = ready();
        x.undo();
        String before = Due.state(x);
        x.type('a');
        x.clearText();
        x.keep();
        x.urgent(0);
        x.page(0);
        x.staleIn(100);
        x.worth(0);
        Due.due("no acts", x.count(16), 3);
        Due.due("no acts change nothing", Due.state(x), before);
    }
}
