/** The sentences of the promises 19 to 26: what is told. */
final class TellsEdges {
    /** 20 persons, of whom the fifth, the tenth, .. are the most urgent. */
    private static final String TWENTY = """
            text 1r1,0x1;1r2,0x1;1r3,0x1;1r4,0x1;1r5,0x1
            addPersons = 5
            3 x addPersons
            """;

    private TellsEdges() {
    }

    static void add(Edges edges) {
        person(edges);
        personDays(edges);
        fact(edges);
        worth(edges);
        urgent(edges);
        page(edges);
        source(edges);
        staleIn(edges);
        count(edges);
        countOfPersons(edges);
    }

    private static void person(Edges edges) {
        edges.in("Promise 19");
        edges.plain("`int person(int person, int what)`");
        edges.edge("`person`: a person", """
                person 0 0 = UNKNOWN
                persons 5r1
                person 0 0 = 5
                person 1 0 = UNKNOWN
                person -1 0 = UNKNOWN
                person MIN 0 = UNKNOWN
                person MAX 0 = UNKNOWN
                19 x addPerson 7 1
                person 19 0 = 7
                person 20 0 = UNKNOWN
                """);
        edges.edge("`what`: 0 for the age, 1 for the rank", """
                persons 110r1;0r9
                person 0 0 = 110
                person 0 1 = 1
                person 1 0 = 0
                person 1 1 = 9
                """);
        edges.edge("2 for the state (0 alive, 1 told dead, 2 dead, 3 printed)", """
                persons 5r1,0x1,1x1
                person 0 2 = 0
                tellDeath 0 0 = 0
                person 0 2 = 1
                decide 0 true = 0
                person 0 2 = 2
                print = 1
                person 0 2 = 3
                """);
        edges.edge("3 for the facts (how many), 4 for the length of the life", """
                persons 5r1;5r1,0x9,0x9,0x9,0x9,0x9,0x9,0x9,0x9;5r1,0x4
                person 0 3 = 0
                person 0 4 = 0
                person 1 3 = 8
                person 1 4 = 72
                person 2 3 = 1
                person 2 4 = 4
                """);
        edges.edge("5 for stale facts", """
                persons 5r1,0x1,1x1,0x1,1x1,0x1,1x1,0x1,0x1;5r1
                person 0 5 = 0
                trust 1 0 = 50
                person 0 5 = 3
                trust 0 0 = 50
                person 0 5 = 8
                person 1 5 = 0
                """);
        edges.edge("6 for different sources of the facts", """
                persons 5r1;5r1,0x1,1x1,2x1,3x1,4x1,5x1,0x1,5x1;5r1,5x1,5x1;5r1,0x1
                person 0 6 = 0
                person 1 6 = 6
                person 2 6 = 1
                person 3 6 = 1
                strike 1 1 = 7
                person 1 6 = 5
                """);
        edges.edge("7 for the urgency (NONE if not alive)", """
                persons 0r1,0x1;110r9,0x1,1x1
                person 0 7 = 10
                person 1 7 = 200
                tellDeath 1 0 = 0
                person 1 7 = NONE
                decide 1 true = 0
                person 1 7 = NONE
                print = 1
                person 1 7 = NONE
                """);
    }

    private static void personDays(Edges edges) {
        edges.edge("8 for the day on which the death was told, while it is told, or was confirmed,"
                + " if the person is dead or printed (NONE if alive)", """
                persons 5r1,0x1,1x1
                person 0 8 = NONE
                tellDeath 0 0 = 0
                person 0 8 = 0
                2 x print
                person 0 8 = 0
                set 3 3 = 2
                tellDeath 0 1 = 1
                person 0 8 = 2
                print = 0
                person 0 8 = 2
                set 3 2 = 3
                print = 1
                person 0 8 = 2
                6 x print
                person 0 8 = 2
                """);
        edges.edge("(NONE if alive)", """
                persons 5r1
                tellDeath 0 0 = 0
                decide 0 false = 0
                person 0 8 = NONE
                tellDeath 0 0 = 0
                3 x print
                person 0 8 = NONE
                """);
        edges.edge("9 for the day on which the life was printed (NONE before)", """
                persons 5r1,0x1,1x1
                person 0 9 = NONE
                tellDeath 0 0 = 0
                person 0 9 = NONE
                decide 0 true = 0
                person 0 9 = NONE
                print = 1
                person 0 9 = 0
                print = 0
                person 0 9 = 0
                undo = 3
                undo = 2
                person 0 9 = NONE
                """);
        edges.edge("10 for whether the life could be printed as it is now: enough sources, and no"
                + " stale fact (1, otherwise 0)", """
                persons 5r1;5r1,0x1;5r1,0x1,1x1;5r1,0x1,1x1,2x1
                person 0 10 = 0
                person 1 10 = 0
                person 2 10 = 1
                set 3 3 = 2
                person 2 10 = 0
                person 3 10 = 1
                set 3 1 = 3
                person 0 10 = 0
                person 1 10 = 1
                trust 2 29 = 50
                person 3 10 = 0
                person 2 10 = 1
                trust 2 30 = 29
                person 3 10 = 1
                dead 2
                person 2 10 = 1
                """);
        edges.edge("Returns the number; UNKNOWN; BAD_VALUE", """
                person 0 11 = UNKNOWN
                persons 5r1
                person 0 10 = 0
                person 0 11 = BAD_VALUE
                person 0 -1 = BAD_VALUE
                person 0 MIN = BAD_VALUE
                person 0 MAX = BAD_VALUE
                person 1 -1 = UNKNOWN
                """);
    }

    private static void fact(Edges edges) {
        edges.in("Promise 20");
        edges.plain("`int fact(int person, int fact, int what)`");
        edges.edge("`person`: a person", """
                fact 0 0 0 = UNKNOWN
                persons 5r1,3x1
                fact 0 0 0 = 3
                fact 1 0 0 = UNKNOWN
                fact -1 0 0 = UNKNOWN
                fact MIN 0 0 = UNKNOWN
                fact MAX 0 0 = UNKNOWN
                """);
        edges.edge("`fact`: a fact of the life, from 0", """
                persons 5r1;5r1,1x1,0x1,0x1,0x1,0x1,0x1,0x1,2x1
                fact 0 0 0 = UNKNOWN
                fact 1 0 0 = 1
                fact 1 7 0 = 2
                fact 1 8 0 = UNKNOWN
                fact 1 -1 0 = UNKNOWN
                fact 1 MIN 0 = UNKNOWN
                fact 1 MAX 0 = UNKNOWN
                strike 1 0 = 7
                fact 1 7 0 = UNKNOWN
                """);
        edges.edge("`what`: 0 for its source, 1 for its lines", """
                persons 5r1,0x9,5x1
                fact 0 0 0 = 0
                fact 0 0 1 = 9
                fact 0 1 0 = 5
                fact 0 1 1 = 1
                """);
        edges.edge("2 for the day on which it was written or checked last", """
                persons 5r1,0x1
                fact 0 0 2 = 0
                print = 0
                write 0 1 1 = 1
                fact 0 1 2 = 1
                fact 0 0 2 = 0
                print = 0
                check 0 0 = 7
                fact 0 0 2 = 2
                """);
        edges.edge("3 for whether it is stale (1, otherwise 0)", """
                persons 5r1,0x1,1x1
                trust 0 29 = 50
                fact 0 0 3 = 1
                fact 0 1 3 = 0
                trust 0 30 = 29
                fact 0 0 3 = 0
                10 x print
                fact 0 0 3 = 1
                """);
        edges.edge("4 for its worth as bits (Float.floatToIntBits)", """
                persons 5r1,0x1
                fact 0 0 4 = 1056964608
                trust 0 100 = 50
                fact 0 0 4 = 1065353216
                trust 0 0 = 100
                fact 0 0 4 = 0
                trust 0 1 = 0
                fact 0 0 4 = 0.01
                trust 0 99 = 1
                fact 0 0 4 = 0.99
                trust 0 25 = 99
                fact 0 0 4 = 0.25
                """);
        // so many tens of days that the worth is less than any float but 0 with full digits
        edges.longEdge("4 for its worth as bits (Float.floatToIntBits)", """
                persons 5r1,0x1
                trust 0 1 = 50
                7500 x print
                """ + "fact 0 0 4 = 0.01" + "*0.9".repeat(750) + """

                trust 0 100 = 1
                820 x print
                """ + "fact 0 0 4 = 1.0" + "*0.9".repeat(832) + """

                trust 0 1 = 100
                1600 x print
                """ + "fact 0 0 4 = 0.01" + "*0.9".repeat(992));
        edges.edge("Returns the number; UNKNOWN (person or fact); BAD_VALUE", """
                persons 5r1,0x1
                fact 0 0 5 = BAD_VALUE
                fact 0 0 -1 = BAD_VALUE
                fact 0 0 MIN = BAD_VALUE
                fact 0 0 MAX = BAD_VALUE
                fact 0 1 5 = UNKNOWN
                fact 1 0 5 = UNKNOWN
                """);
    }

    private static void worth(Edges edges) {
        edges.in("Promise 21");
        edges.plain("`float worth(int person)`");
        edges.edge("`person`: a person", """
                persons 5r1,0x1
                worth 0 = 0.5
                """);
        edges.edge("Returns the worth of the life", """
                persons 5r1;5r1,0x9,0x9,0x9,0x9,0x9,0x9,0x9,0x9
                worth 0 = 0.0
                trust 0 100 = 50
                worth 1 = 72.0
                trust 0 0 = 100
                worth 1 = 0.0
                trust 0 7 = 0
                worth 1 = 0.07*9 + 0.07*9 + 0.07*9 + 0.07*9 + 0.07*9 + 0.07*9 + 0.07*9 + 0.07*9
                dead 1
                worth 1 = 0.07*9 + 0.07*9 + 0.07*9 + 0.07*9 + 0.07*9 + 0.07*9 + 0.07*9 + 0.07*9
                """);
        edges.edge("-1.0f if there is no such person", """
                worth 0 = -1.0
                persons 5r1
                worth 0 = 0.0
                worth 1 = -1.0
                worth -1 = -1.0
                worth MIN = -1.0
                worth MAX = -1.0
                undo = 0
                worth 0 = -1.0
                """);
    }

    private static void urgent(Edges edges) {
        edges.in("Promise 22");
        edges.plain("`int urgent(int rank)`");
        edges.edge("Tells the persons who are alive in the order of their urgency, the greatest"
                + " first", """
                persons 50r5,0x1;60r5,0x1,1x1;70r5,0x1;1r1,0x1
                trust 1 0 = 50
                urgent 0 = 2
                urgent 1 = 1
                urgent 2 = 0
                urgent 3 = 3
                dead 2
                urgent 0 = 1
                tellDeath 1 0 = 0
                urgent 0 = 0
                strike 3 0 = 0
                set 3 1 = 2
                set 2 0 = 30
                print = 1
                urgent 0 = 0
                urgent 1 = 3
                urgent 2 = NONE
                """);
        edges.edge("of several the lowest number", """
                persons 50r5,0x1;60r4,0x1;20r4;55r4,1x1;51r5,0x1
                trust 1 0 = 50
                urgent 0 = 4
                urgent 1 = 0
                urgent 2 = 1
                urgent 3 = 2
                urgent 4 = 3
                """);
        edges.edge("`rank`: a rank, from 0", TWENTY + """
                urgent 0 = 4
                urgent 3 = 19
                urgent 4 = 3
                urgent 16 = 0
                urgent 19 = 15
                urgent 20 = NONE
                """);
        edges.edge("Returns the person; BAD_VALUE if rank is negative", """
                urgent -1 = BAD_VALUE
                urgent MIN = BAD_VALUE
                persons 5r1
                urgent 0 = 0
                urgent -1 = BAD_VALUE
                """);
        edges.edge("NONE if there are not so many", """
                urgent 0 = NONE
                persons 5r1;5r1
                urgent 1 = 1
                urgent 2 = NONE
                urgent MAX = NONE
                tellDeath 0 0 = 0
                urgent 0 = 1
                urgent 1 = NONE
                """);
    }

    private static void page(Edges edges) {
        edges.in("Promise 23");
        edges.plain("`int page(int rank)`");
        edges.edge("Tells the lives that the page would print now, in their order", """
                persons 1r1,0x1,1x1;1r9,0x1,1x1;1r5,0x1,1x1;1r5,0x1;1r5,0x1,1x1
                dead 0
                dead 1
                dead 2
                dead 3
                tellDeath 4 0 = 0
                page 0 = 1
                page 1 = 2
                page 2 = 0
                page 3 = NONE
                print = 3
                page 0 = NONE
                """);
        edges.edge("`rank`: a rank, from 0", """
                persons 1r1,0x9,1x9,0x9,0x9,0x4;1r2,0x9,1x9;1r3,0x9,1x9
                dead 0
                dead 1
                dead 2
                page 0 = 2
                page 1 = 1
                page 2 = NONE
                set 1 76 = 40
                page 2 = 0
                """);
        edges.edge("Returns the person; BAD_VALUE if rank is negative", """
                page -1 = BAD_VALUE
                page MIN = BAD_VALUE
                persons 5r1,0x1,1x1
                dead 0
                page 0 = 0
                page -1 = BAD_VALUE
                """);
        edges.edge("NONE if there are not so many", """
                page 0 = NONE
                persons 5r1,0x1,1x1
                page 0 = NONE
                dead 0
                page 0 = 0
                page 1 = NONE
                page MAX = NONE
                """);
    }

    private static void source(Edges edges) {
        edges.in("Promise 24");
        edges.plain("`int source(int source, int what)`");
        edges.edge("`source`: 0 to 5", """
                source -1 0 = UNKNOWN
                source MIN 0 = UNKNOWN
                source 6 0 = UNKNOWN
                source MAX 0 = UNKNOWN
                source 0 0 = 50
                source 5 0 = 50
                """);
        edges.edge("`what`: 0 for its trust, 1 for the facts that it gave (of all lives)", """
                persons 5r1,0x1,1x1;5r1,0x1,1x1,0x1;5r1,0x1;5r1
                trust 0 100 = 50
                source 0 0 = 100
                dead 0
                print = 1
                dead 1
                tellDeath 2 0 = 0
                source 0 1 = 4
                source 1 1 = 2
                source 5 1 = 0
                correct 0 1 0 = 1
                source 0 1 = 5
                """);
        edges.edge("2 for stale ones of these", """
                persons 5r1,0x1,1x1;5r1,0x1,1x1
                dead 0
                print = 1
                10 x print
                trust 0 33 = 50
                source 0 2 = 2
                source 1 2 = 0
                check 1 0 = 7
                source 0 2 = 1
                set 2 29 = 30
                source 0 2 = 0
                """);
        edges.edge("3 for the lines of its facts together", """
                persons 5r1,0x9,1x2,0x9;5r1,0x9,5x1
                source 0 3 = 27
                source 1 3 = 2
                source 5 3 = 1
                source 4 3 = 0
                """);
        edges.edge("Returns the number; UNKNOWN; BAD_VALUE", """
                source 0 3 = 0
                source 0 4 = BAD_VALUE
                source 0 -1 = BAD_VALUE
                source 0 MIN = BAD_VALUE
                source 0 MAX = BAD_VALUE
                source 6 4 = UNKNOWN
                source -1 -1 = UNKNOWN
                """);
    }

    private static void staleIn(Edges edges) {
        edges.in("Promise 25");
        edges.plain("`int staleIn(int days)`");
        edges.edge("Tells how many facts of all persons who are not printed would be stale when so"
                + " many days had passed, if nothing was checked", """
                persons 5r1,0x1,1x1;5r1,0x1,1x1;5r1,2x1;5r1,3x1
                dead 0
                print = 1
                dead 1
                tellDeath 2 0 = 0
                trust 0 33 = 50
                staleIn 8 = 0
                staleIn 9 = 1
                staleIn 48 = 1
                staleIn 49 = 4
                check 1 0 = 7
                staleIn 9 = 0
                staleIn 10 = 1
                """);
        edges.edge("`days`: 0 to 999", """
                persons 5r1,0x1
                staleIn 0 = 0
                staleIn 49 = 0
                staleIn 50 = 1
                staleIn 999 = 1
                staleIn 1000 = BAD_VALUE
                staleIn -1 = BAD_VALUE
                trust 0 29 = 50
                staleIn 0 = 1
                set 2 0 = 30
                staleIn 999 = 0
                """);
        edges.edge("Returns how many; BAD_VALUE", """
                staleIn 0 = 0
                staleIn MIN = BAD_VALUE
                staleIn MAX = BAD_VALUE
                persons 5r1,0x1,0x1,0x1,0x1,0x1,0x1,0x1,0x1
                persons 5r1,0x1
                staleIn 999 = 9
                3 x print
                staleIn MAX = BAD_VALUE
                """);
        // no day is printed on which these facts would be stale
        edges.longEdge("when so many days had passed", """
                addPerson 5 1 = 0
                9999 x print
                write 0 0 1 = 0
                print = FULL
                staleIn 49 = 0
                staleIn 50 = 1
                staleIn 999 = 1
                """);
    }

    private static void count(Edges edges) {
        edges.in("Promise 26");
        edges.plain("`int count(int what)`");
        edges.edge("`what`: 0 for the day of now, 1 for the persons, 2 for the hours left of"
                + " the day", """
                count 0 = 0
                count 1 = 0
                count 2 = 8
                persons 5r1;5r1
                2 x print
                write 0 0 3 = 0
                count 0 = 2
                count 1 = 2
                count 2 = 5
                18 x addPerson 1 1
                count 1 = 20
                """);
        edges.edge("7 for facts of all lives, 8 for stale ones of persons who are not printed", """
                persons 5r1,0x1,1x1;5r1,0x1,1x1;5r1,0x1;5r1,0x1;5r1
                dead 0
                print = 1
                dead 1
                tellDeath 2 0 = 0
                count 7 = 6
                count 8 = 0
                trust 0 0 = 50
                count 7 = 6
                count 8 = 3
                strike 3 0 = 0
                count 7 = 5
                count 8 = 2
                """);
        edges.edge("9 for lines that the page would have free", """
                count 9 = 40
                persons 5r1,0x1,1x2;5r1,0x9;5r1,0x1,1x1
                dead 0
                dead 1
                tellDeath 2 0 = 0
                count 9 = 37
                decide 2 true = 0
                count 9 = 35
                print = 2
                count 9 = 40
                set 3 1 = 2
                count 9 = 31
                """);
        edges.edge("10 for corrections so far", """
                persons 5r1,0x1,1x1
                dead 0
                print = 1
                count 10 = 0
                correct 0 0 0 = NONE
                count 10 = 0
                correct 0 0 5 = 1
                correct 0 0 0 = 2
                count 10 = 2
                undo = 3
                count 10 = 1
                """);
        edges.edge("11 to 15 for the settings 0 to 4", """
                count 11 = 8
                count 12 = 40
                count 13 = 30
                count 14 = 2
                count 15 = 3
                set 0 1 = 8
                set 1 10 = 40
                set 2 0 = 30
                set 3 1 = 2
                set 4 1 = 3
                count 11 = 1
                count 12 = 10
                count 13 = 0
                count 14 = 1
                count 15 = 1
                """);
    }

    private static void countOfPersons(Edges edges) {
        edges.edge("3 to 6 for the persons who are alive, told dead, dead, printed", """
                count 3 = 0
                persons 5r1;5r1;5r1;5r1;5r1,0x1,1x1;5r1,0x1,1x1;5r1,0x1,1x1;5r1,0x1
                persons 5r1,0x1;5r1
                count 3 = 10
                count 4 = 0
                dead 4
                dead 5
                dead 6
                dead 7
                tellDeath 0 0 = 0
                tellDeath 1 0 = 0
                count 3 = 4
                count 4 = 2
                count 5 = 4
                count 6 = 0
                print = 3
                count 3 = 4
                count 4 = 2
                count 5 = 1
                count 6 = 3
                """);
        edges.edge("16 for the states in the history, 17 for the length of the text", """
                count 16 = 0
                count 17 = 0
                6 x print
                count 16 = 4
                undo = 3
                count 16 = 3
                60 x type x
                count 17 = 60
                count 16 = 3
                """);
        edges.edge("Returns the number; BAD_VALUE", """
                count 18 = BAD_VALUE
                count -1 = BAD_VALUE
                count MIN = BAD_VALUE
                count MAX = BAD_VALUE
                """);
    }
}
