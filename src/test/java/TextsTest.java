/** Promises 3, 14 and 15: addPersons, type, clearText. */
public final class TextsTest {
    public static void main(String[] args) {
        faults();
        reads();
        eightFacts();
        fifteenPersons();
        full();
        allOrNone();
        typing();
        strangeCharacters();
        everyEnding();
        Due.end("TextsTest");
    }

    private static void fault(String text, int fault) {
        LivesAhead x = new LivesAhead();
        Due.type(x, text);
        String before = Due.all(x);
        Due.due("addPersons() of '" + text + "'", x.addPersons(), -100 - fault);
        Due.due("fault changes nothing '" + text + "'", Due.all(x), before);
    }

    private static void faults() {
        fault("", 0);
        fault("r", 0);
        fault(" 5r1", 0);
        fault("-5r1", 0);
        fault("5", 1);
        fault("05r1", 1);
        fault("00r1", 1);
        fault("111r1", 2);
        fault("119", 2);
        fault("120r1", 2);
        fault("990r1", 2);
        fault("1100r1", 3);
        fault("1000r1", 3);
        fault("109", 3);
        fault("110r", 4);
        fault("5R1", 1);
        fault("5r0", 2);
        fault("5r", 2);
        fault("5r10", 3);
        fault("5r11", 3);
        fault("5r1 ", 3);
        fault("5r1,", 4);
        fault("5r1,6x1", 4);
        fault("5r1,x1", 4);
        fault("5r1,0", 5);
        fault("5r1,00x1", 5);
        fault("5r1,0X1", 5);
        fault("5r1,0x", 6);
        fault("5r1,0x0", 6);
        fault("5r1,0x10", 7);
        fault("5r1,0x1,", 8);
        fault("5r1;", 4);
        fault("5r1;;", 4);
        fault(";5r1", 0);
        fault("5r1,;", 4);
        fault("5r1;5r1;x", 8);
        fault("5r1,0x1;111r1", 10);
    }

    private static void reads() {
        LivesAhead x = new LivesAhead();
        x.print();
        Due.type(x, "0r1;110r9,0x1,5x9;109r5");
        Due.due("addPersons()", x.addPersons(), 3);
        Due.due("the text stays", x.count(17), 23);
        Due.due("persons", x.count(1), 3);
        Due.due("age 0", x.person(0, 0), 0);
        Due.due("age 110", x.person(1, 0), 110);
        Due.due("age 109", x.person(2, 0), 109);
        Due.due("rank 9", x.person(1, 1), 9);
        Due.due("facts", x.person(1, 3), 2);
        Due.due("source", x.fact(1, 1, 0), 5);
        Due.due("lines", x.fact(1, 1, 1), 9);
        Due.due("day", x.fact(1, 1, 2), 1);
        Due.due("no hours are taken", x.count(2), 8);
        Due.due("one act", x.count(16), 2);
        Due.due("again", x.addPersons(), 3);
        Due.due("behind", x.person(4, 0), 110);
        Due.due("undo", x.undo(), 2);
        Due.due("undo takes all", x.count(1), 3);
        Due.due("undo leaves the text", x.count(17), 23);
    }

    private static void eightFacts() {
        LivesAhead x = Due.reads("5r1,0x1,0x2,0x3,0x4,0x5,0x6,0x7,0x8;7r2");
        Due.due("eight", x.person(0, 3), 8);
        Due.due("the eighth", x.fact(0, 7, 1), 8);
        Due.due("behind eight", x.person(1, 0), 7);
        fault("5r1,0x1,0x2,0x3,0x4,0x5,0x6,0x7,0x8,", 35);
        fault("5r1,0x1,0x2,0x3,0x4,0x5,0x6,0x7,0x8,0x9", 35);
        fault("5r1;5r1,0x1,0x2,0x3,0x4,0x5,0x6,0x7,0x8,0x9", 39);
    }

    private static void fifteenPersons() {
        StringBuilder text = new StringBuilder("0r1");
        for (int i = 1; i < 15; i++) {
            text.append(";").append(i % 10).append("r1");
        }
        LivesAhead x = Due.reads(text.toString());
        Due.due("fifteen", x.count(1), 15);
        Due.due("the last", x.person(14, 0), 4);
        fault(text + ";", 60);
    }

    private static void full() {
        LivesAhead x = new LivesAhead();
        for (int i = 0; i < 18; i++) {
            x.addPerson(i, 1);
        }
        Due.type(x, "1r1;2r2");
        x.keep();
        Due.due("up to 20", x.addPersons(), 2);
        Due.due("the 20th", x.person(19, 0), 2);
        x.restore();
        Due.type(x, ";3r3");
        String before = Due.all(x);
        Due.due("more than 20", x.addPersons(), LivesAhead.FULL);
        Due.due("none of them", Due.all(x), before);
        Due.type(x, ";");
        Due.due("a fault comes first", x.addPersons(), -100 - 12);
    }

    private static void allOrNone() {
        LivesAhead x = Due.reads("80r8");
        Due.type(x, "9r9;9r9,0x");
        Due.due("fault at the end", x.addPersons(), -110);
        Due.due("no one is added", x.count(1), 1);
        Due.type(x, "5");
        Due.due("mended", x.addPersons(), 2);
        Due.due("all are added", x.count(1), 3);
        Due.due("one fact", x.person(2, 3), 1);
        x.clearText();
        Due.type(x, "9r9,0x1,0x1;9r9,0x1;");
        Due.due("fault behind facts", x.addPersons(), -120);
        x.clearText();
        Due.type(x, "8r8;7r7,1x1");
        Due.due("read anew", x.addPersons(), 2);
        Due.due("no facts of the first reading", x.person(3, 3), 0);
        Due.due("nor of its second", x.person(4, 3), 1);
        Due.due("the new fact", x.fact(4, 0, 0), 1);
    }

    private static void typing() {
        LivesAhead x = new LivesAhead();
        for (int i = 1; i <= 60; i++) {
            Due.due("type " + i, x.type('1'), i);
        }
        Due.due("type 61", x.type('1'), LivesAhead.FULL);
        Due.due("count(17)", x.count(17), 60);
        Due.due("type is no act", x.count(16), 0);
        Due.due("fault of 60", x.addPersons(), -102);
        Due.due("clearText()", x.clearText(), 60);
        Due.due("clearText() again", x.clearText(), 0);
        Due.due("clearText is no act", x.count(16), 0);
        Due.due("type then", x.type('a'), 1);
        x.keep();
        Due.type(x, "bc");
        x.restore();
        Due.due("restore leaves the text", x.count(17), 3);
    }

    private static void strangeCharacters() {
        char[] strange = {0, 10, 127, 128, 255, 256, 0x661, 0xd800, 0xffff};
        for (char c : strange) {
            LivesAhead x = new LivesAhead();
            Due.due("type strange", x.type(c), 1);
            Due.due("fault of strange", x.addPersons(), -100);
            x.clearText();
            Due.type(x, "5r1");
            x.type(c);
            Due.due("fault of strange behind", x.addPersons(), -103);
        }
    }

    /** Behind texts that stop at each kind of place: every ending of up to 3 characters. */
    private static void everyEnding() {
        String[] starts = {"", "1", "11", "9;110", "7r", "7r3", "7r3,", "7r3,4", "7r3,4x", "7r3,4x5",
            "7r3,4x5;", "0r1,0x1,0x2,0x3,0x4,0x5,0x6,0x7", "1r1;0r1,0x1,0x2,0x3,0x4,0x5,0x6,0x7,0x8"};
        for (String start : starts) {
            endings(start, 3);
        }
    }

    private static void endings(String text, int more) {
        asTheModel(text);
        for (char c : "/01569:rx,; ".toCharArray()) {
            if (more > 0) {
                endings(text + c, more - 1);
            }
        }
    }

    private static void asTheModel(String text) {
        LivesAhead x = new LivesAhead();
        Model model = new Model();
        Due.type(x, text);
        for (char c : text.toCharArray()) {
            model.type(c);
        }
        int added = model.addPersons();
        Due.due("addPersons() of " + text, x.addPersons(), added);
        for (int person = 0; person < added; person++) {
            for (int what : new int[] {0, 1, 3, 4, 6}) {
                Due.due("person(" + person + ", " + what + ") of " + text,
                        x.person(person, what), model.person(person, what));
            }
        }
    }
}
