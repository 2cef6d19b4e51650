/** The sentences of the promises 1 to 18: what changes an object. */
final class ActsEdges {
    private static final String ACT = "This is an act";

    private ActsEdges() {
    }

    static void add(Edges edges) {
        newObject(edges);
        addPerson(edges);
        addPersons(edges);
        write(edges);
        check(edges);
        strike(edges);
        checkUrgent(edges);
        checkUrgentOrder(edges);
        trust(edges);
        set(edges);
        tellDeath(edges);
        decide(edges);
        print(edges);
        correct(edges);
        texts(edges);
        history(edges);
    }

    private static void newObject(Edges edges) {
        edges.in("Promise 1");
        edges.plain("`LivesAhead()`");
        edges.edge("Creates a desk without persons", """
                count 0 = 0
                count 1 = 0
                count 2 = 8
                count 3 = 0
                count 4 = 0
                count 5 = 0
                count 6 = 0
                count 7 = 0
                count 8 = 0
                count 9 = 40
                count 10 = 0
                count 16 = 0
                count 17 = 0
                person 0 0 = UNKNOWN
                fact 0 0 0 = UNKNOWN
                worth 0 = -1.0
                urgent 0 = NONE
                page 0 = NONE
                source 5 1 = 0
                staleIn 999 = 0
                write 0 0 1 = UNKNOWN
                check 0 0 = UNKNOWN
                strike 0 0 = UNKNOWN
                checkUrgent = NONE
                tellDeath 0 0 = UNKNOWN
                decide 0 true = UNKNOWN
                correct 0 0 0 = UNKNOWN
                addPersons = fault 0
                clearText = 0
                undo = NONE
                restore = NONE
                print = 0
                """);
    }

    private static void addPerson(Edges edges) {
        edges.in("Promise 2");
        edges.plain("`int addPerson(int age, int rank)`", ACT);
        edges.edge("Adds a person who is alive", """
                addPerson 30 3 = 0
                person 0 0 = 30
                person 0 1 = 3
                person 0 2 = 0
                person 0 3 = 0
                person 0 8 = NONE
                person 0 9 = NONE
                count 3 = 1
                """);
        // nothing is left of the one who had this number before
        edges.edge("Adds a person who is alive", """
                keep = 0
                persons 70r5,0x1,1x1
                dead 0
                print = 1
                restore = 0
                addPerson 30 3 = 0
                person 0 1 = 3
                person 0 2 = 0
                person 0 3 = 0
                person 0 7 = 100
                person 0 8 = NONE
                person 0 9 = NONE
                tellDeath 0 0 = 0
                """);
        edges.edge("`age`: 0 to 110", """
                addPerson -1 5 = BAD_VALUE
                addPerson MIN 5 = BAD_VALUE
                addPerson 111 5 = BAD_VALUE
                addPerson MAX 5 = BAD_VALUE
                addPerson 0 5 = 0
                addPerson 110 5 = 1
                """);
        edges.edge("`rank`: 1 to 9", """
                addPerson 50 0 = BAD_VALUE
                addPerson 50 -1 = BAD_VALUE
                addPerson 50 MIN = BAD_VALUE
                addPerson 50 10 = BAD_VALUE
                addPerson 50 MAX = BAD_VALUE
                addPerson 50 1 = 0
                addPerson 50 9 = 1
                """);
        edges.edge("Returns the number; BAD_VALUE", """
                addPerson 1 1 = 0
                addPerson 2 2 = 1
                undo = 1
                addPerson 3 3 = 1
                person 1 0 = 3
                18 x addPerson 1 1
                addPerson 111 1 = BAD_VALUE
                addPerson 1 0 = BAD_VALUE
                """);
        edges.edge("FULL if there have been 20", """
                18 x addPerson 1 1
                addPerson 1 1 = 18
                addPerson 110 9 = 19
                addPerson 0 1 = FULL
                undo = 3
                addPerson 0 1 = 19
                addPerson 0 1 = FULL
                person 19 0 = 0
                """);
    }

    private static void addPersons(Edges edges) {
        edges.in("Promise 3");
        edges.plain("`int addPersons()`", "This is one act");
        edges.edge("Adds the persons of the text, which stays; all of them, or none", """
                text 5r1,0x1;6r2;7r3,1x2,2x3
                addPersons = 3
                count 17 = 23
                count 1 = 3
                person 2 3 = 2
                undo = 0
                count 1 = 0
                addPersons = 3
                type ,
                addPersons = fault 24
                count 1 = 3
                clearText = 24
                """);
        edges.edge("Returns how many the text has", """
                text 5r1
                addPersons = 1
                addPersons = 1
                text 5r1;5r1
                addPersons = 2
                text 0r1;1r1;2r1;3r1;4r1;5r1;6r1;7r1;8r1;9r1;0r1;1r1;2r1;3r1;4r1
                addPersons = 15
                person 18 0 = 4
                person 19 0 = UNKNOWN
                """);
        edges.edge("-100 minus the fault of the text if it has one (which is an error)", """
                addPersons = -100
                text 5r1,0x1,0
                addPersons = -109
                text 5r1?
                addPersons = -103
                59 x type 0
                addPersons = -103
                text 5r1,0x1,1x1,2x1,3x1,4x1,5x1,0x1,1x1;5r1,0x1,1x1,2x1,3x1,4x1,
                addPersons = -160
                count 16 = 0
                """);
        edges.edge("FULL if there would be more than 20", """
                5 x addPerson 1 1
                text 0r1;1r1;2r1;3r1;4r1;5r1;6r1;7r1;8r1;9r1;0r1;1r1;2r1;3r1;4r1
                addPersons = 15
                undo = 3
                addPerson 2 2 = 5
                addPersons = FULL
                count 1 = 6
                type ?
                addPersons = fault 59
                text 0r1;1r1;2r1;3r1;4r1;5r1;6r1;7r1;8r1;9r1;0r1;1r1;2r1;3r1;
                addPersons = fault 56
                text 0r1;1r1;2r1;3r1;4r1;5r1;6r1;7r1;8r1;9r1;0r1;1r1;2r1;3r1
                addPersons = 14
                text 1r1
                addPersons = FULL
                """);
    }

    private static void write(Edges edges) {
        edges.in("Promise 4");
        edges.plain("`int write(int person, int source, int lines)`", ACT);
        edges.edge("Writes a fact, as the last one of a life", """
                persons 5r1,0x1,1x2
                write 0 5 3 = 2
                fact 0 2 0 = 5
                fact 0 2 1 = 3
                fact 0 2 2 = 0
                fact 0 0 0 = 0
                fact 0 1 0 = 1
                """);
        edges.edge("`person`: a person who is not printed", """
                persons 5r1,0x1,1x1;5r1,0x1;5r1;5r1
                dead 0
                dead 1
                print = 1
                tellDeath 2 0 = 0
                write 0 0 1 = NOT_POSSIBLE
                write 1 0 1 = 1
                write 2 0 1 = 0
                write 3 0 1 = 0
                write 4 0 1 = UNKNOWN
                write -1 0 1 = UNKNOWN
                write MIN 0 1 = UNKNOWN
                write MAX 0 1 = UNKNOWN
                """);
        edges.edge("`source`: 0 to 5", """
                addPerson 5 1 = 0
                write 0 -1 1 = UNKNOWN
                write 0 MIN 1 = UNKNOWN
                write 0 6 1 = UNKNOWN
                write 0 MAX 1 = UNKNOWN
                write 0 0 1 = 0
                write 0 5 1 = 1
                """);
        edges.edge("`lines`: 1 to 9", """
                addPerson 5 1 = 0
                set 0 10 = 8
                print = 0
                write 0 0 0 = BAD_VALUE
                write 0 0 -1 = BAD_VALUE
                write 0 0 MIN = BAD_VALUE
                write 0 0 10 = BAD_VALUE
                write 0 0 MAX = BAD_VALUE
                write 0 0 9 = 0
                write 0 0 1 = 1
                """);
        edges.edge("Returns its number in the life, from 0; UNKNOWN (person or source); BAD_VALUE",
                """
                persons 5r1;5r1,0x1
                write 1 0 1 = 1
                write 0 0 1 = 0
                write 0 0 1 = 1
                strike 0 0 = 1
                write 0 0 1 = 1
                write 2 0 0 = UNKNOWN
                write 0 6 0 = UNKNOWN
                write 0 0 0 = BAD_VALUE
                """);
        edges.edge("NOT_POSSIBLE if the person is printed", """
                persons 5r1,0x1,1x1,2x1,3x1,4x1,5x1,0x1,1x1
                dead 0
                print = 1
                write 0 0 1 = NOT_POSSIBLE
                write 0 0 9 = NOT_POSSIBLE
                write 0 0 10 = BAD_VALUE
                undo = 3
                write 0 0 1 = FULL
                """);
        edges.edge("FULL if there are 8, or not so many hours are left", """
                persons 5r1,0x1,1x1,2x1,3x1,4x1,5x1,0x1;5r1
                write 1 0 9 = FULL
                write 0 0 8 = 7
                undo = 1
                write 0 0 3 = 7
                write 0 0 1 = FULL
                write 1 0 6 = FULL
                write 1 0 5 = 0
                write 1 0 1 = FULL
                count 2 = 0
                """);
    }

    private static void check(Edges edges) {
        edges.in("Promise 5");
        edges.plain("`int check(int person, int fact)`", ACT);
        edges.edge("Checks a fact: the day of now is the one on which it was checked last", """
                persons 5r1,0x1,1x1
                12 x print
                fact 0 0 4 = 0.5*0.9
                check 0 0 = 7
                fact 0 0 2 = 12
                fact 0 0 4 = 0.5
                fact 0 1 2 = 0
                """);
        edges.edge("`person`: a person who is not printed", """
                persons 5r1,0x1,1x1;5r1,0x1;5r1,0x1;5r1,0x1
                dead 0
                dead 1
                print = 1
                tellDeath 2 0 = 0
                check 0 0 = NOT_POSSIBLE
                check 1 0 = 7
                check 2 0 = 6
                check 3 0 = 5
                check 4 0 = UNKNOWN
                check -1 0 = UNKNOWN
                check MIN 0 = UNKNOWN
                check MAX 0 = UNKNOWN
                """);
        edges.edge("`fact`: a fact of the life, from 0", """
                persons 5r1,0x1,1x1,2x1,3x1,4x1,5x1,0x1,1x1;5r1
                print = 0
                check 0 -1 = UNKNOWN
                check 0 MIN = UNKNOWN
                check 0 8 = UNKNOWN
                check 0 MAX = UNKNOWN
                check 1 0 = UNKNOWN
                check 0 0 = 7
                check 0 7 = 6
                fact 0 7 2 = 1
                strike 0 7 = 7
                check 0 7 = UNKNOWN
                """);
        edges.edge("Returns how many hours are left; UNKNOWN (person or fact)", """
                persons 5r1,0x1,1x1
                set 0 2 = 8
                print = 0
                check 0 1 = 1
                check 0 0 = 0
                check 0 2 = UNKNOWN
                check 1 0 = UNKNOWN
                """);
        edges.edge("NOT_POSSIBLE if the person is printed", """
                persons 5r1,0x1,1x1;5r1
                dead 0
                print = 1
                write 1 0 8 = 0
                check 0 0 = NOT_POSSIBLE
                check 0 2 = UNKNOWN
                print = 0
                check 0 0 = NOT_POSSIBLE
                """);
        edges.edge("FULL if no hour is left", """
                persons 5r1,0x1
                print = 0
                write 0 0 7 = 1
                check 0 0 = 0
                check 0 0 = FULL
                check 0 1 = FULL
                print = 0
                check 0 1 = 7
                """);
        edges.edge("NONE if it was checked or written today", """
                persons 5r1,0x1
                check 0 0 = NONE
                write 0 0 1 = 1
                check 0 1 = NONE
                print = 0
                check 0 1 = 7
                check 0 1 = NONE
                count 2 = 7
                """);
    }

    private static void strike(Edges edges) {
        edges.in("Promise 6");
        edges.plain("`int strike(int person, int fact)`");
        edges.edge("Strikes a fact out; those behind it move up", """
                persons 5r1,0x1,1x2,2x3,3x4,4x5,5x6,0x7,1x8
                print = 0
                check 0 7 = 7
                strike 0 0 = 7
                fact 0 0 0 = 1
                fact 0 0 1 = 2
                fact 0 6 0 = 1
                fact 0 6 1 = 8
                fact 0 6 2 = 1
                fact 0 5 2 = 0
                fact 0 7 0 = UNKNOWN
                strike 0 3 = 6
                fact 0 2 1 = 4
                fact 0 3 1 = 6
                strike 0 5 = 5
                fact 0 4 1 = 7
                """);
        edges.edge("This is an act, and takes no hours", """
                persons 5r1,0x1
                write 0 0 8 = 1
                count 2 = 0
                strike 0 0 = 1
                count 2 = 0
                strike 0 0 = 0
                count 2 = 0
                undo = 3
                person 0 3 = 1
                """);
        edges.edge("`person`: a person who is not printed", """
                persons 5r1,0x1,1x1;5r1,0x1;5r1,0x1;5r1,0x1
                dead 0
                dead 1
                print = 1
                tellDeath 2 0 = 0
                strike 0 0 = NOT_POSSIBLE
                strike 1 0 = 0
                strike 2 0 = 0
                strike 3 0 = 0
                strike 4 0 = UNKNOWN
                strike -1 0 = UNKNOWN
                strike MIN 0 = UNKNOWN
                strike MAX 0 = UNKNOWN
                """);
        edges.edge("`fact`: a fact of the life, from 0", """
                persons 5r1,0x1,1x1,2x1,3x1,4x1,5x1,0x1,1x1;5r1
                strike 0 -1 = UNKNOWN
                strike 0 MIN = UNKNOWN
                strike 0 8 = UNKNOWN
                strike 0 MAX = UNKNOWN
                strike 1 0 = UNKNOWN
                strike 0 7 = 7
                strike 0 7 = UNKNOWN
                strike 0 0 = 6
                """);
        edges.edge("Returns how many facts are left; UNKNOWN (person or fact)", """
                persons 5r1,0x1,1x1
                strike 0 2 = UNKNOWN
                strike 1 0 = UNKNOWN
                strike 0 1 = 1
                strike 0 0 = 0
                strike 0 0 = UNKNOWN
                """);
        edges.edge("NOT_POSSIBLE if the person is printed", """
                persons 5r1,0x1,1x1
                dead 0
                print = 1
                strike 0 1 = NOT_POSSIBLE
                strike 0 2 = UNKNOWN
                """);
    }

    private static void checkUrgent(Edges edges) {
        edges.in("Promise 7");
        edges.plain("`int checkUrgent()`", "This is one act");
        edges.edge("Checks stale facts as long as hours are left", """
                persons 5r1,0x1,1x1,0x1,0x1
                trust 0 29 = 50
                set 0 2 = 8
                print = 0
                checkUrgent = 2
                fact 0 0 2 = 1
                fact 0 1 2 = 0
                fact 0 2 2 = 1
                fact 0 3 2 = 0
                count 2 = 0
                checkUrgent = NONE
                set 0 4 = 2
                print = 0
                checkUrgent = 3
                count 2 = 1
                fact 0 1 2 = 0
                """);
        edges.edge("of the most urgent person who is alive and has any that was not checked or"
                + " written today (of several the lowest number)", """
                persons 9r1,0x1;50r1,0x1;50r1,0x1;99r9;98r9,1x1;97r9,0x1;96r9,0x1
                trust 0 0 = 50
                tellDeath 5 0 = 0
                dead 6
                set 0 1 = 8
                print = 0
                checkUrgent = 1
                fact 1 0 2 = 1
                fact 4 0 2 = 0
                fact 5 0 2 = 0
                fact 6 0 2 = 0
                set 0 2 = 1
                print = 0
                check 1 0 = 1
                checkUrgent = 1
                fact 2 0 2 = 2
                fact 0 0 2 = 0
                """);
        edges.edge("the first such one", """
                persons 5r1,1x1,0x1,0x1
                trust 0 0 = 50
                set 0 3 = 8
                print = 0
                check 0 1 = 2
                write 0 0 1 = 3
                checkUrgent = 1
                fact 0 0 2 = 0
                fact 0 2 2 = 1
                print = 0
                write 0 1 2 = 4
                checkUrgent = 1
                fact 0 1 2 = 2
                fact 0 2 2 = 1
                """);
        edges.edge("Returns how many facts are checked", """
                persons 5r1,0x1,0x1,0x1,0x1,0x1,0x1,0x1,0x1
                persons 6r1,0x1,0x1,0x1,0x1,0x1,0x1,0x1,0x1
                persons 7r1,0x1,0x1,0x1,0x1,0x1,0x1,0x1,0x1;1r1,0x1
                trust 0 0 = 50
                set 0 24 = 8
                print = 0
                checkUrgent = 24
                count 2 = 0
                fact 3 0 2 = 0
                person 0 5 = 8
                checkUrgent = NONE
                undo = 3
                count 2 = 24
                """);
        edges.edge("NONE if none is", """
                checkUrgent = NONE
                persons 5r1,0x1
                checkUrgent = NONE
                trust 0 0 = 50
                checkUrgent = NONE
                print = 0
                tellDeath 0 0 = 0
                checkUrgent = NONE
                decide 0 false = 0
                write 0 0 8 = 1
                checkUrgent = NONE
                print = 0
                checkUrgent = 2
                checkUrgent = NONE
                count 2 = 6
                """);
    }

    private static void checkUrgentOrder(Edges edges) {
        edges.edge(", and so on again and again", """
                persons 5r1,0x1,0x1;9r9,0x1,0x1
                trust 0 0 = 50
                set 0 3 = 8
                print = 0
                checkUrgent = 3
                fact 1 0 2 = 1
                fact 1 1 2 = 1
                fact 0 0 2 = 1
                fact 0 1 2 = 0
                """);
        // 80 and 80, then 75 and 80: a fact that is fresh again is no longer counted
        edges.edge("(urgencies change by that", """
                persons 60r1,0x1,0x1;65r1,0x1
                set 2 46 = 30
                set 0 2 = 8
                10 x print
                person 0 7 = 80
                person 1 7 = 80
                checkUrgent = 2
                fact 0 0 2 = 10
                fact 0 1 2 = 0
                fact 1 0 2 = 10
                person 0 7 = 75
                """);
        // 80 and 79 stay so: what is stale by its source's trust counts when it is checked, too
        edges.edge("; they count all stale facts)", """
                persons 60r1,0x1,0x1;64r1,0x1
                trust 0 0 = 50
                set 0 2 = 8
                print = 0
                person 0 7 = 80
                person 1 7 = 79
                checkUrgent = 2
                fact 0 0 2 = 1
                fact 0 1 2 = 1
                fact 1 0 2 = 0
                """);
        edges.edge("So a fact that stays stale by the trust of its source is checked once a day,"
                + " too", """
                persons 5r1,0x1
                trust 0 29 = 50
                checkUrgent = NONE
                print = 0
                checkUrgent = 1
                fact 0 0 3 = 1
                checkUrgent = NONE
                print = 0
                checkUrgent = 1
                checkUrgent = NONE
                fact 0 0 2 = 2
                """);
    }

    private static void trust(Edges edges) {
        edges.in("Promise 8");
        edges.plain("`int trust(int source, int trust)`", ACT);
        edges.edge("Sets the trust of a source", """
                trust 2 70 = 50
                source 2 0 = 70
                source 1 0 = 50
                source 3 0 = 50
                """);
        edges.edge("`source`: 0 to 5", """
                addPerson 5 1 = 0
                trust -1 5 = UNKNOWN
                trust MIN 5 = UNKNOWN
                trust 6 5 = UNKNOWN
                trust MAX 5 = UNKNOWN
                trust 0 5 = 50
                trust 5 5 = 50
                """);
        edges.edge("`trust`: 0 to 100", """
                addPerson 5 1 = 0
                trust 0 -1 = BAD_VALUE
                trust 0 MIN = BAD_VALUE
                trust 0 101 = BAD_VALUE
                trust 0 MAX = BAD_VALUE
                trust 0 0 = 50
                trust 0 100 = 0
                """);
        edges.edge("Returns the previous one; UNKNOWN; BAD_VALUE", """
                trust 0 0 = 50
                trust 0 1 = 0
                trust 0 50 = 1
                undo = 2
                trust 0 2 = 1
                trust 6 101 = UNKNOWN
                trust -1 -1 = UNKNOWN
                """);
        edges.edge("NONE if it is so already", """
                trust 3 50 = NONE
                trust 3 0 = 50
                trust 3 0 = NONE
                trust 3 100 = 0
                trust 3 100 = NONE
                """);
    }

    private static void set(Edges edges) {
        edges.in("Promise 9");
        edges.plain("`int set(int which, int value)`", ACT);
        edges.edge("Sets a setting (the hours of a day from the next day on)", """
                set 0 3 = 8
                count 11 = 3
                count 2 = 8
                addPerson 5 1 = 0
                write 0 0 8 = 0
                print = 0
                count 2 = 3
                set 0 24 = 3
                count 2 = 3
                set 1 10 = 40
                count 9 = 10
                """);
        edges.edge("`which`: 0 to 4", """
                set -1 5 = BAD_VALUE
                set MIN 5 = BAD_VALUE
                set 5 5 = BAD_VALUE
                set MAX 5 = BAD_VALUE
                set 0 5 = 8
                set 4 5 = 3
                count 11 = 5
                count 15 = 5
                """);
        edges.edge("`value`: in its range", """
                set 0 0 = BAD_VALUE
                set 0 25 = BAD_VALUE
                set 1 9 = BAD_VALUE
                set 1 201 = BAD_VALUE
                set 2 -1 = BAD_VALUE
                set 2 101 = BAD_VALUE
                set 3 0 = BAD_VALUE
                set 3 4 = BAD_VALUE
                set 4 0 = BAD_VALUE
                set 4 10 = BAD_VALUE
                set 2 MIN = BAD_VALUE
                set 2 MAX = BAD_VALUE
                set 0 1 = 8
                set 0 24 = 1
                set 1 10 = 40
                set 1 200 = 10
                set 2 0 = 30
                set 2 100 = 0
                set 3 1 = 2
                set 3 3 = 1
                set 4 1 = 3
                set 4 9 = 1
                """);
        edges.edge("Returns the previous one; BAD_VALUE (which or value)", """
                set 2 0 = 30
                set 2 50 = 0
                set 2 0 = 50
                set 2 30 = 0
                set 5 0 = BAD_VALUE
                set 2 101 = BAD_VALUE
                """);
        edges.edge("NONE if it is so already", """
                set 0 8 = NONE
                set 1 40 = NONE
                set 2 30 = NONE
                set 3 2 = NONE
                set 4 3 = NONE
                set 2 0 = 30
                set 2 0 = NONE
                """);
    }

    private static void tellDeath(Edges edges) {
        edges.in("Promise 10");
        edges.plain("`int tellDeath(int person, int source)`", ACT);
        edges.edge("A source tells a death", """
                persons 5r1;5r1
                tellDeath 0 0 = 0
                tellDeath 1 5 = 0
                person 0 2 = 1
                person 1 2 = 1
                count 4 = 2
                """);
        edges.edge("`person`: a person", """
                addPerson 5 1 = 0
                tellDeath -1 0 = UNKNOWN
                tellDeath MIN 0 = UNKNOWN
                tellDeath 1 0 = UNKNOWN
                tellDeath MAX 0 = UNKNOWN
                tellDeath 0 0 = 0
                """);
        edges.edge("`source`: 0 to 5", """
                addPerson 5 1 = 0
                tellDeath 0 -1 = UNKNOWN
                tellDeath 0 MIN = UNKNOWN
                tellDeath 0 6 = UNKNOWN
                tellDeath 0 MAX = UNKNOWN
                tellDeath 0 5 = 0
                tellDeath 0 6 = UNKNOWN
                tellDeath 0 0 = 1
                """);
        edges.edge("Returns 0 if it is told then, 1 if it is confirmed by that; UNKNOWN (person or"
                + " source)", """
                addPerson 5 1 = 0
                print = 0
                tellDeath 0 2 = 0
                person 0 8 = 1
                print = 0
                tellDeath 0 3 = 1
                person 0 8 = 2
                count 4 = 0
                count 5 = 1
                tellDeath 0 6 = UNKNOWN
                tellDeath 1 0 = UNKNOWN
                """);
        edges.edge("NOT_POSSIBLE if the person is dead or printed", """
                persons 5r1,0x1,1x1;5r1
                dead 0
                tellDeath 0 0 = NOT_POSSIBLE
                tellDeath 0 1 = NOT_POSSIBLE
                print = 1
                tellDeath 0 0 = NOT_POSSIBLE
                tellDeath 0 1 = NOT_POSSIBLE
                tellDeath 1 0 = 0
                tellDeath 1 1 = 1
                tellDeath 1 0 = NOT_POSSIBLE
                tellDeath 1 1 = NOT_POSSIBLE
                tellDeath 1 2 = NOT_POSSIBLE
                """);
        edges.edge("NONE if this source told it already, and it is told still", """
                addPerson 5 1 = 0
                tellDeath 0 0 = 0
                tellDeath 0 0 = NONE
                print = 0
                tellDeath 0 0 = NONE
                2 x print
                person 0 2 = 0
                tellDeath 0 0 = 0
                decide 0 false = 0
                tellDeath 0 0 = 0
                tellDeath 0 0 = NONE
                undo = 3
                tellDeath 0 0 = 0
                """);
    }

    private static void decide(Edges edges) {
        edges.in("Promise 11");
        edges.plain("`int decide(int person, boolean confirmed)`", ACT);
        edges.edge("The desk itself confirms a death that is told, or takes it back", """
                persons 5r1;5r1
                tellDeath 0 0 = 0
                tellDeath 1 0 = 0
                print = 0
                decide 0 true = 1
                person 0 2 = 2
                person 0 8 = 1
                decide 1 false = 0
                person 1 2 = 0
                person 1 8 = NONE
                """);
        edges.edge("`person`: a person", """
                persons 5r1
                tellDeath 0 0 = 0
                decide -1 true = UNKNOWN
                decide MIN true = UNKNOWN
                decide 1 false = UNKNOWN
                decide MAX false = UNKNOWN
                decide 0 true = 0
                """);
        edges.edge("`confirmed`: whether it is confirmed, otherwise it is taken back", """
                addPerson 5 1 = 0
                tellDeath 0 0 = 0
                decide 0 false = 0
                count 3 = 1
                undo = 2
                decide 0 true = 0
                count 5 = 1
                """);
        edges.edge("Returns how many persons are told dead then; UNKNOWN", """
                persons 5r1;5r1;5r1;5r1
                tellDeath 3 0 = 0
                tellDeath 0 0 = 0
                tellDeath 1 0 = 0
                decide 1 true = 2
                decide 3 false = 1
                decide 0 false = 0
                decide 4 false = UNKNOWN
                """);
        edges.edge("NOT_POSSIBLE if no death of the person is told (or it was confirmed)", """
                persons 5r1,0x1,1x1;5r1
                decide 0 true = NOT_POSSIBLE
                decide 0 false = NOT_POSSIBLE
                dead 0
                decide 0 true = NOT_POSSIBLE
                decide 0 false = NOT_POSSIBLE
                print = 1
                decide 0 true = NOT_POSSIBLE
                decide 0 false = NOT_POSSIBLE
                tellDeath 1 0 = 0
                decide 1 false = 0
                decide 1 false = NOT_POSSIBLE
                decide 1 true = NOT_POSSIBLE
                """);
    }

    private static void print(Edges edges) {
        edges.in("Promise 12");
        edges.plain("`int print()`", ACT);
        edges.edge("Lets a day pass: the page is printed", """
                persons 5r1,0x1,1x1;5r1,0x1,1x1
                dead 1
                page 0 = 1
                print = 1
                count 0 = 1
                person 1 2 = 3
                person 1 9 = 0
                person 0 2 = 0
                page 0 = NONE
                """);
        edges.edge("Returns how many lives are printed", """
                print = 0
                persons 1r1,0x1;1r1,0x1;1r1,0x1;1r1,0x1;1r1,0x1;1r1,0x1;1r1,0x1
                set 3 1 = 2
                print = 0
                dead 6
                print = 1
                dead 0
                dead 1
                dead 2
                dead 3
                dead 4
                dead 5
                print = 6
                print = 0
                """);
        edges.edge("Returns how many lives are printed", """
                text 1r1,0x1;1r2,0x1;1r3,0x1;1r4,0x1;1r5,0x1
                4 x addPersons
                count 1 = 20
                set 3 1 = 2
                20 x print
                trust 0 100 = 50
                dead 0
                dead 1
                dead 2
                dead 3
                dead 4
                dead 5
                dead 6
                dead 7
                dead 8
                dead 9
                dead 10
                dead 11
                dead 12
                dead 13
                dead 14
                dead 15
                dead 16
                dead 17
                dead 18
                dead 19
                page 0 = 4
                page 3 = 19
                page 19 = 15
                page 20 = NONE
                print = 20
                count 6 = 20
                person 19 9 = 20
                undo = 3
                count 5 = 20
                """);
        edges.longEdge("FULL if the day of now is 9999", """
                persons 1r8,0x1,1x1;1r9,0x1,1x1;2r8,0x1,1x1;1r1,0x1
                set 2 0 = 30
                set 3 3 = 2
                dead 0
                9998 x print
                print = 0
                count 0 = 9999
                dead 1
                dead 2
                tellDeath 3 0 = 0
                set 3 2 = 3
                page 0 = 1
                page 1 = 0
                page 2 = 2
                print = FULL
                person 2 8 = 9999
                person 3 2 = 1
                staleIn 999 = 0
                keep = 9999
                undo = 3
                undo = 2
                undo = 1
                undo = 0
                count 0 = 9999
                """);
    }

    private static void correct(Edges edges) {
        edges.in("Promise 13");
        edges.plain("`int correct(int person, int fact, int source)`", ACT);
        edges.edge("Corrects a printed life: a fact gets another source", """
                persons 5r1,0x3,1x4
                dead 0
                print = 1
                correct 0 1 5 = 1
                fact 0 1 0 = 5
                fact 0 1 1 = 4
                fact 0 1 2 = 0
                fact 0 0 0 = 0
                source 5 3 = 4
                source 1 1 = 0
                """);
        edges.edge("`person`: a person who is printed", """
                persons 5r1,0x1,1x1;5r1,0x1;5r1,0x1;5r1,0x1
                dead 0
                dead 1
                print = 1
                tellDeath 2 0 = 0
                correct 1 0 2 = NOT_POSSIBLE
                correct 2 0 2 = NOT_POSSIBLE
                correct 3 0 2 = NOT_POSSIBLE
                correct -1 0 2 = UNKNOWN
                correct MIN 0 2 = UNKNOWN
                correct 4 0 2 = UNKNOWN
                correct MAX 0 2 = UNKNOWN
                correct 0 0 2 = 1
                """);
        edges.edge("`fact`: a fact of the life, from 0", """
                persons 5r1,0x1,1x1,2x1,3x1,4x1,5x1,0x1,1x1
                dead 0
                print = 1
                correct 0 -1 0 = UNKNOWN
                correct 0 MIN 0 = UNKNOWN
                correct 0 8 0 = UNKNOWN
                correct 0 MAX 0 = UNKNOWN
                correct 0 0 1 = 1
                correct 0 7 2 = 2
                fact 0 7 0 = 2
                """);
        edges.edge("`source`: 0 to 5", """
                persons 5r1,1x1,2x1
                dead 0
                print = 1
                correct 0 0 -1 = UNKNOWN
                correct 0 0 MIN = UNKNOWN
                correct 0 0 6 = UNKNOWN
                correct 0 0 MAX = UNKNOWN
                correct 0 0 0 = 1
                correct 0 0 5 = 2
                """);
        edges.edge("Returns how many corrections there have been; UNKNOWN (person, fact or source)",
                """
                persons 5r1,0x1,1x1;5r1,0x1,1x1
                dead 0
                dead 1
                print = 2
                correct 0 0 1 = 1
                correct 1 0 1 = 2
                correct 0 0 0 = 3
                undo = 3
                correct 0 1 0 = 3
                correct 2 0 0 = UNKNOWN
                correct 0 2 0 = UNKNOWN
                correct 0 0 6 = UNKNOWN
                count 10 = 3
                """);
        edges.edge("NOT_POSSIBLE if the person is not printed", """
                persons 5r1,0x1
                correct 0 0 0 = NOT_POSSIBLE
                correct 0 0 1 = NOT_POSSIBLE
                correct 0 1 1 = UNKNOWN
                correct 0 0 6 = UNKNOWN
                """);
        edges.edge("NONE if it has this source", """
                persons 5r1,0x1,5x1
                dead 0
                print = 1
                correct 0 0 0 = NONE
                correct 0 1 5 = NONE
                correct 0 0 5 = 1
                correct 0 0 5 = NONE
                """);
    }

    private static void texts(Edges edges) {
        edges.in("Promise 14");
        edges.plain("`int type(char character)`");
        edges.edge("Types a character behind the text", """
                type 5 = 1
                type r = 2
                type 1 = 3
                addPersons = 1
                type 1 = 4
                addPersons = fault 3
                """);
        edges.edge("`character`: any character", """
                type #0 = 1
                type #10 = 2
                type #32 = 3
                type #255 = 4
                type #256 = 5
                type #55296 = 6
                type #65535 = 7
                addPersons = fault 0
                clearText = 7
                type 5 = 1
                type #370 = 2
                addPersons = fault 1
                clearText = 2
                type #65333 = 1
                addPersons = fault 0
                """);
        edges.edge("Returns the length of the text then", """
                type ; = 1
                58 x type ;
                type ; = 60
                clearText = 60
                type ; = 1
                count 16 = 0
                """);
        edges.edge("FULL if it has 60 characters", """
                addPerson 5 1 = 0
                text 0r1;1r1;2r1;3r1;4r1;5r1;6r1;7r1;8r1;9r1;0r1;1r1;2r1;3r1;4r1
                type ; = 60
                type 5 = FULL
                type #65535 = FULL
                addPersons = fault 60
                """);
        edges.in("Promise 15");
        edges.plain("`int clearText()`");
        edges.edge("Empties the text", """
                text 5r1,
                clearText = 4
                count 17 = 0
                addPersons = fault 0
                text 6r1
                addPersons = 1
                person 0 3 = 0
                person 0 0 = 6
                """);
        edges.edge("Returns the length that it had", """
                clearText = 0
                type x = 1
                clearText = 1
                clearText = 0
                60 x type x
                clearText = 60
                count 16 = 0
                """);
    }

    private static void history(Edges edges) {
        edges.in("Promise 16");
        edges.plain("`int undo()`");
        edges.edge("Removes and restores the latest state of the history", """
                addPerson 1 1 = 0
                addPerson 2 1 = 1
                addPerson 3 1 = 2
                undo = 2
                count 1 = 2
                undo = 1
                count 1 = 1
                addPerson 4 1 = 1
                undo = 1
                count 1 = 1
                undo = 0
                count 1 = 0
                """);
        edges.edge("Returns the number of states that are left", """
                6 x print
                undo = 3
                undo = 2
                undo = 1
                undo = 0
                count 0 = 2
                3 x print
                undo = 2
                3 x print
                undo = 3
                count 0 = 6
                """);
        edges.edge("NONE if the history is empty", """
                undo = NONE
                set 0 8 = NONE
                undo = NONE
                addPerson 111 1 = BAD_VALUE
                undo = NONE
                type 5 = 1
                keep = 0
                undo = NONE
                print = 0
                undo = 0
                undo = NONE
                """);
        edges.in("Promise 17");
        edges.plain("`int keep()`");
        edges.edge("Takes a snapshot of the state, in place of the one that was", """
                keep = 0
                persons 5r1,0x1
                print = 0
                keep = 1
                strike 0 0 = 0
                restore = 1
                person 0 3 = 1
                undo = 3
                person 0 3 = 0
                keep = 1
                print = 0
                restore = 1
                person 0 3 = 0
                """);
        edges.edge("Returns the day of now", """
                keep = 0
                13 x print
                keep = 13
                undo = 3
                keep = 12
                """);
        edges.in("Promise 18");
        edges.plain("`int restore()`", ACT);
        edges.edge("Restores the state of the snapshot, which stays", """
                keep = 0
                persons 5r1,0x1
                restore = 0
                count 1 = 0
                persons 6r1
                restore = 0
                count 1 = 0
                restore = 0
                """);
        edges.edge("Returns the day of now then", """
                7 x print
                keep = 7
                2 x print
                restore = 7
                count 0 = 7
                undo = 3
                count 0 = 9
                """);
        edges.edge("NONE if there is no snapshot", """
                restore = NONE
                print = 0
                undo = 0
                restore = NONE
                keep = 0
                restore = 0
                undo = 0
                restore = 0
                """);
    }
}
