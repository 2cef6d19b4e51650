/** The sentences of "Terms", which bind every promise. */
final class TermsEdges {
    private TermsEdges() {
    }

    static void add(Edges edges) {
        daysAndPersons(edges);
        ageing(edges);
        worthOfALife(edges);
        settings(edges);
        writing(edges);
        deaths(edges);
        page(edges);
        behindThePage(edges);
        texts(edges);
        numbersOfTexts(edges);
        history(edges);
        states(edges);
        errors(edges);
    }

    private static void daysAndPersons(Edges edges) {
        edges.in("DAYS AND PERSONS");
        edges.edge("The day of now is 0 at first", """
                count 0 = 0
                persons 70r5,0x1
                fact 0 0 2 = 0
                keep = 0
                """);
        edges.edge("There are at most 20 persons ever", """
                19 x addPerson 50 5
                addPerson 51 5 = 19
                addPerson 52 5 = FULL
                write 0 0 1 = 0
                set 3 1 = 2
                dead 0
                print = 1
                count 6 = 1
                addPerson 52 5 = FULL
                text 1r1
                addPersons = FULL
                count 1 = 20
                """);
        edges.edge("numbered from 0", """
                addPerson 51 1 = 0
                addPerson 52 2 = 1
                person 0 0 = 51
                person 1 0 = 52
                person 2 0 = UNKNOWN
                person -1 0 = UNKNOWN
                """);
        edges.edge("A person has an age (0 to 110, in years, that does not change)", """
                addPerson 110 1 = 0
                addPerson 0 1 = 1
                addPerson 111 1 = BAD_VALUE
                addPerson -1 1 = BAD_VALUE
                400 x print
                person 0 0 = 110
                person 1 0 = 0
                person 0 7 = 160
                """);
        edges.edge("a rank (1 to 9; 9 is the greatest)", """
                addPerson 50 0 = BAD_VALUE
                addPerson 50 10 = BAD_VALUE
                persons 50r1,0x1,1x1;50r9,0x1,1x1;50r8,0x1,1x1
                urgent 0 = 1
                urgent 1 = 2
                urgent 2 = 0
                dead 0
                dead 1
                dead 2
                page 0 = 1
                page 1 = 2
                page 2 = 0
                """);
        edges.edge("and a state: alive, told dead (a death was told, and is not confirmed), dead (it"
                + " was confirmed), or printed", """
                persons 50r5,0x1,1x1
                person 0 2 = 0
                tellDeath 0 3 = 0
                person 0 2 = 1
                tellDeath 0 4 = 1
                person 0 2 = 2
                print = 1
                person 0 2 = 3
                """);
        edges.edge("A life is a row of at most 8 facts", """
                persons 50r5,0x1,1x2,2x3,3x4,4x5,5x6,0x7
                write 0 1 8 = 7
                person 0 3 = 8
                fact 0 7 0 = 1
                fact 0 8 0 = UNKNOWN
                print = 0
                write 0 1 1 = FULL
                strike 0 0 = 7
                fact 0 0 1 = 2
                fact 0 6 1 = 8
                write 0 2 1 = 7
                fact 0 7 2 = 1
                write 0 2 1 = FULL
                """);
        edges.edge("A fact has a source (0 to 5)", """
                addPerson 50 5 = 0
                write 0 -1 1 = UNKNOWN
                write 0 6 1 = UNKNOWN
                write 0 0 1 = 0
                write 0 5 1 = 1
                fact 0 0 0 = 0
                fact 0 1 0 = 5
                """);
        edges.edge("lines (1 to 9)", """
                addPerson 50 5 = 0
                set 0 24 = 8
                print = 0
                write 0 0 0 = BAD_VALUE
                write 0 0 10 = BAD_VALUE
                write 0 0 1 = 0
                write 0 0 9 = 1
                fact 0 0 1 = 1
                fact 0 1 1 = 9
                """);
        edges.edge("and the day on which it was written or checked last", """
                addPerson 50 5 = 0
                2 x print
                write 0 0 1 = 0
                fact 0 0 2 = 2
                3 x print
                fact 0 0 2 = 2
                check 0 0 = 7
                fact 0 0 2 = 5
                print = 0
                fact 0 0 2 = 5
                """);
        edges.edge("A source has a trust (0 to 100 in hundredths; 50 at first)", """
                source 0 0 = 50
                source 1 0 = 50
                source 2 0 = 50
                source 3 0 = 50
                source 4 0 = 50
                source 5 0 = 50
                trust 5 101 = BAD_VALUE
                trust 5 -1 = BAD_VALUE
                trust 5 100 = 50
                trust 5 0 = 100
                source 5 0 = 0
                source 4 0 = 50
                """);
    }

    private static void ageing(Edges edges) {
        edges.in("AGEING");
        edges.edge("The worth of a fact is a float: the trust of its source, as (float) trust /"
                + " 100.0f", """
                persons 50r5,3x1
                fact 0 0 4 = 0.5
                trust 3 0 = 50
                fact 0 0 4 = 0.0
                trust 3 1 = 0
                fact 0 0 4 = 0.01
                trust 3 33 = 1
                fact 0 0 4 = 0.33
                trust 3 99 = 33
                fact 0 0 4 = 0.99
                trust 3 100 = 99
                fact 0 0 4 = 1.0
                """);
        edges.edge("multiplied by 0.9f once for each full 10 days since it was checked last", """
                persons 50r5,0x1,1x1
                9 x print
                fact 0 0 4 = 0.5
                print = 0
                fact 0 0 4 = 0.5*0.9
                5 x print
                check 0 1 = 7
                4 x print
                fact 0 0 4 = 0.5*0.9
                print = 0
                fact 0 0 4 = 0.5*0.9*0.9
                4 x print
                fact 0 1 4 = 0.5
                print = 0
                fact 0 1 4 = 0.5*0.9
                fact 0 0 4 = 0.5*0.9*0.9
                """);
        // the powers of 0.9 taken first, or doubles on the way, would come to other floats
        edges.edge(", one multiplication after the other", """
                persons 50r5,0x1,1x1
                trust 0 76 = 50
                trust 1 65 = 50
                30 x print
                fact 0 0 4 = 0.76*0.9*0.9*0.9
                fact 0 1 4 = 0.65*0.9*0.9*0.9
                trust 0 12 = 76
                10 x print
                fact 0 0 4 = 0.12*0.9*0.9*0.9*0.9
                trust 0 5 = 12
                20 x print
                fact 0 0 4 = 0.05*0.9*0.9*0.9*0.9*0.9*0.9
                """);
        edges.edge("A fact is stale if its worth is less than the bound", """
                persons 50r5,0x1
                trust 0 30 = 50
                fact 0 0 3 = 0
                trust 0 29 = 30
                fact 0 0 3 = 1
                set 2 29 = 30
                fact 0 0 3 = 0
                set 2 0 = 29
                trust 0 0 = 29
                fact 0 0 3 = 0
                set 2 1 = 0
                fact 0 0 3 = 1
                set 2 100 = 1
                trust 0 100 = 0
                fact 0 0 3 = 0
                trust 0 99 = 100
                fact 0 0 3 = 1
                """);
        // 0.9f is the float of 90 hundredths, but 0.9f * 0.9f is less than that of 81
        edges.edge("(a setting in hundredths: (float) bound / 100.0f)", """
                persons 50r5,0x1,1x1,2x1
                trust 0 100 = 50
                trust 1 30 = 50
                trust 2 10 = 50
                10 x print
                set 2 90 = 30
                fact 0 0 3 = 0
                set 2 91 = 90
                fact 0 0 3 = 1
                set 2 27 = 91
                fact 0 1 3 = 0
                set 2 9 = 27
                fact 0 2 3 = 1
                10 x print
                set 2 81 = 9
                fact 0 0 3 = 1
                set 2 80 = 81
                fact 0 0 3 = 0
                """);
    }

    private static void worthOfALife(Edges edges) {
        // in another order, or summed as doubles, these come to another float
        edges.edge("The worth of a life is the sum of the worths of its facts, as floats, in their"
                + " order", """
                persons 50r5,0x1,1x3,2x7;50r5,2x7,1x3,0x1;50r5,0x1,1x6,2x7
                trust 0 1 = 50
                trust 1 16 = 50
                trust 2 71 = 50
                worth 0 = 0.01*1 + 0.16*3 + 0.71*7
                worth 1 = 0.71*7 + 0.16*3 + 0.01*1
                worth 2 = 0.01*1 + 0.16*6 + 0.71*7
                worth 0 = 5.4599996
                worth 1 = 5.46
                """);
        edges.edge("beginning with 0.0f", """
                addPerson 50 5 = 0
                worth 0 = 0.0
                write 0 0 1 = 0
                worth 0 = 0.5
                strike 0 0 = 0
                worth 0 = 0.0
                """);
        edges.edge("each multiplied by (float) of its lines", """
                persons 50r5,0x9;50r5,0x1;50r5,0x7,1x9
                trust 0 33 = 50
                trust 1 100 = 50
                worth 0 = 0.33*9
                worth 1 = 0.33
                worth 2 = 0.33*7 + 9.0
                10 x print
                worth 0 = 0.33*0.9*9
                """);
        edges.edge("Its length is the sum of the lines of its facts", """
                persons 1r1,0x9,1x9,2x9,3x9,4x9,5x9,0x9,1x9
                person 0 4 = 72
                strike 0 7 = 7
                person 0 4 = 63
                persons 1r1;1r1,0x1
                person 1 4 = 0
                person 2 4 = 1
                """);
    }

    private static void settings(Edges edges) {
        edges.in("WRITING");
        edges.plain("The settings are (in parentheses: range; first value):");
        edges.edge("0 the hours of a day (1 to 24; 8)", """
                count 11 = 8
                set 0 0 = BAD_VALUE
                set 0 25 = BAD_VALUE
                set 0 24 = 8
                count 11 = 24
                addPerson 50 5 = 0
                print = 0
                count 2 = 24
                write 0 0 9 = 0
                write 0 0 9 = 1
                write 0 0 7 = FULL
                write 0 0 6 = 2
                count 2 = 0
                set 0 1 = 24
                print = 0
                count 2 = 1
                write 0 0 2 = FULL
                write 0 0 1 = 3
                check 0 0 = FULL
                """);
        edges.edge("1 the lines of a page (10 to 200; 40)", """
                count 12 = 40
                count 9 = 40
                set 1 9 = BAD_VALUE
                set 1 201 = BAD_VALUE
                set 1 10 = 40
                count 9 = 10
                set 1 200 = 10
                persons 1r9,0x9,1x9,0x9,0x9,0x9,0x9,0x9,0x9
                persons 1r9,0x9,1x9,0x9,0x9,0x9,0x9,0x9,0x9
                persons 1r9,0x9,1x9,0x9,0x9,0x9,0x9,0x2;1r9,0x1,1x1
                dead 0
                dead 1
                dead 2
                dead 3
                page 2 = 2
                page 3 = NONE
                count 9 = 0
                print = 3
                """);
        edges.edge("2 the bound (0 to 100; 30)", """
                count 13 = 30
                set 2 -1 = BAD_VALUE
                set 2 101 = BAD_VALUE
                set 2 0 = 30
                set 2 100 = 0
                count 13 = 100
                """);
        edges.edge("3 the least sources of a life that is printed (1 to 3; 2)", """
                count 14 = 2
                set 3 0 = BAD_VALUE
                set 3 4 = BAD_VALUE
                persons 1r9,0x1;1r9,0x1,1x1;1r9,0x1,1x1,2x1
                person 0 10 = 0
                person 1 10 = 1
                set 3 3 = 2
                person 1 10 = 0
                person 2 10 = 1
                set 3 1 = 3
                person 0 10 = 1
                """);
        edges.edge("4 the days in which a death that was told is looked at (1 to 9; 3)", """
                count 15 = 3
                set 4 0 = BAD_VALUE
                set 4 10 = BAD_VALUE
                set 4 9 = 3
                addPerson 50 5 = 0
                tellDeath 0 0 = 0
                8 x print
                person 0 2 = 1
                print = 0
                person 0 2 = 0
                set 4 1 = 9
                tellDeath 0 0 = 0
                print = 0
                person 0 2 = 0
                """);
    }

    private static void writing(Edges edges) {
        edges.edge("To write a fact takes as many hours as it has lines", """
                addPerson 50 5 = 0
                write 0 0 9 = FULL
                write 0 0 8 = 0
                count 2 = 0
                write 0 0 1 = FULL
                undo = 1
                write 0 0 7 = 0
                count 2 = 1
                write 0 0 1 = 1
                count 2 = 0
                """);
        edges.edge("to check one takes 1 hour", """
                persons 50r5,0x9,1x1
                set 0 2 = 8
                print = 0
                check 0 0 = 1
                count 2 = 1
                check 0 1 = 0
                count 2 = 0
                """);
        edges.edge("The hours left of the day are those of the day at its beginning", """
                count 2 = 8
                addPerson 50 5 = 0
                write 0 0 8 = 0
                print = 0
                count 2 = 8
                write 0 0 3 = 1
                print = 0
                count 2 = 8
                print = 0
                count 2 = 8
                """);
        edges.edge("The urgency of a person who is alive is the age, plus 10 times the rank", """
                persons 0r1,0x1;110r9,0x1;1r1,0x1
                person 0 7 = 10
                person 1 7 = 200
                person 2 7 = 11
                tellDeath 1 0 = 0
                person 1 7 = NONE
                """);
        edges.edge("plus 5 for each stale fact", """
                persons 110r9,0x1,1x1,0x1,0x1,0x1,0x1,0x1,0x1
                person 0 7 = 200
                trust 1 29 = 50
                person 0 7 = 205
                trust 0 0 = 50
                person 0 7 = 240
                trust 1 30 = 29
                person 0 7 = 235
                print = 0
                checkUrgent = 7
                person 0 7 = 235
                """);
        edges.edge("plus 40 if there is no fact", """
                addPerson 20 3 = 0
                person 0 7 = 90
                write 0 0 1 = 0
                person 0 7 = 50
                trust 0 0 = 50
                person 0 7 = 55
                strike 0 0 = 0
                person 0 7 = 90
                """);
    }

    private static void deaths(Edges edges) {
        edges.in("DEATHS");
        edges.edge("A death is told of a person who is alive, by a source", """
                persons 50r5,0x1,1x1
                tellDeath 0 5 = 0
                person 0 2 = 1
                tellDeath 0 5 = NONE
                decide 0 true = 0
                tellDeath 0 5 = NOT_POSSIBLE
                tellDeath 0 4 = NOT_POSSIBLE
                print = 1
                tellDeath 0 4 = NOT_POSSIBLE
                """);
        edges.edge("It is confirmed when another source tells it, too, while it is told", """
                addPerson 50 5 = 0
                tellDeath 0 0 = 0
                decide 0 false = 0
                tellDeath 0 1 = 0
                tellDeath 0 1 = NONE
                tellDeath 0 0 = 1
                person 0 2 = 2
                """);
        edges.edge("or by the desk itself", """
                addPerson 50 5 = 0
                decide 0 true = NOT_POSSIBLE
                tellDeath 0 0 = 0
                decide 0 true = 0
                person 0 2 = 2
                """);
        edges.edge("It can be taken back while it is told", """
                addPerson 50 5 = 0
                decide 0 false = NOT_POSSIBLE
                tellDeath 0 0 = 0
                tellDeath 0 1 = 1
                decide 0 false = NOT_POSSIBLE
                undo = 2
                decide 0 false = 0
                decide 0 false = NOT_POSSIBLE
                """);
        edges.edge("(the person is alive again, and nobody told it)", """
                addPerson 50 5 = 0
                tellDeath 0 0 = 0
                decide 0 false = 0
                person 0 2 = 0
                person 0 7 = 140
                person 0 8 = NONE
                tellDeath 0 0 = 0
                3 x print
                person 0 2 = 0
                tellDeath 0 1 = 0
                tellDeath 0 0 = 1
                """);
    }

    private static void page(Edges edges) {
        edges.in("PRINTING");
        edges.edge("When a day passes, the page is printed first", """
                persons 1r9,0x1,1x1
                trust 0 33 = 50
                9 x print
                dead 0
                staleIn 1 = 1
                print = 1
                person 0 9 = 9
                count 0 = 10
                fact 0 0 3 = 1
                """);
        edges.edge("of all persons who are dead and not printed yet", """
                persons 1r9,0x1,1x1;1r9,0x1,1x1;1r9,0x1,1x1;1r8,0x1,1x1
                dead 0
                print = 1
                tellDeath 1 0 = 0
                dead 3
                page 0 = 3
                page 1 = NONE
                print = 1
                person 1 2 = 1
                person 2 2 = 0
                person 0 9 = 0
                """);
        edges.edge("whose life has facts of at least as many different sources as the setting 3"
                + " tells", """
                persons 1r9,0x1,0x1,0x1;1r8,5x1,0x1;1r7,1x1,2x1,3x1;1r6
                dead 0
                dead 1
                dead 2
                dead 3
                page 0 = 1
                page 1 = 2
                page 2 = NONE
                set 3 3 = 2
                page 0 = 2
                page 1 = NONE
                set 3 1 = 3
                page 0 = 0
                page 2 = 2
                page 3 = NONE
                print = 3
                print = 0
                """);
        edges.edge("and no stale fact", """
                persons 1r9,0x1,1x1,2x1;1r8,0x1,1x1
                dead 0
                dead 1
                trust 2 29 = 50
                page 0 = 1
                page 1 = NONE
                trust 2 30 = 29
                page 0 = 0
                page 1 = 1
                """);
        edges.edge("by their ranks, the greatest first", """
                persons 1r1,0x1,1x1;1r9,0x1,1x1;1r2,0x1,1x1
                set 3 3 = 2
                dead 0
                300 x print
                dead 2
                dead 1
                set 3 2 = 3
                set 2 0 = 30
                page 0 = 1
                page 1 = 2
                page 2 = 0
                """);
        edges.edge("of several by the day on which they were confirmed, the earliest first", """
                persons 1r5,0x1,1x1;1r5,0x1,1x1;1r5,0x1,1x1
                set 3 3 = 2
                tellDeath 0 0 = 0
                print = 0
                tellDeath 1 0 = 0
                tellDeath 2 0 = 0
                tellDeath 2 1 = 1
                print = 0
                tellDeath 1 1 = 1
                decide 0 true = 0
                set 3 2 = 3
                page 0 = 2
                page 1 = 0
                page 2 = 1
                """);
        edges.edge("of several the lowest number", """
                persons 1r5,0x1,1x1;2r5,0x1,1x1;3r5,0x1,1x1
                dead 2
                dead 1
                dead 0
                page 0 = 0
                page 1 = 1
                page 2 = 2
                page 3 = NONE
                """);
    }

    private static void behindThePage(Edges edges) {
        edges.edge("each is printed, if its length fits into the lines that are left on the page",
                """
                persons 1r9,0x5,1x5;1r8,0x1,1x1
                dead 0
                dead 1
                set 1 10 = 40
                page 0 = 0
                page 1 = NONE
                count 9 = 0
                set 1 11 = 10
                page 1 = NONE
                count 9 = 1
                set 1 12 = 11
                page 1 = 1
                count 9 = 0
                print = 2
                """);
        edges.edge("(otherwise it is passed over, and later ones may fit)", """
                persons 1r9,0x6,1x5;1r8,0x4,1x4;1r7,0x2,1x1;1r6,0x1,1x1
                dead 0
                dead 1
                dead 2
                dead 3
                set 1 10 = 40
                page 0 = 1
                page 1 = 3
                page 2 = NONE
                print = 2
                person 0 2 = 2
                person 2 2 = 2
                page 0 = 2
                set 1 14 = 10
                print = 2
                person 0 9 = 1
                """);
        edges.edge("Then each death that is told still, and was told first on the day d, is taken"
                + " back, if the day of now plus 1 is at least d plus the setting 4", """
                persons 50r5;50r5;50r5
                print = 0
                tellDeath 0 0 = 0
                tellDeath 1 0 = 0
                decide 1 true = 1
                print = 0
                tellDeath 0 0 = NONE
                tellDeath 2 0 = 0
                decide 2 false = 1
                print = 0
                tellDeath 2 0 = 0
                person 0 2 = 1
                print = 0
                person 0 2 = 0
                person 1 2 = 2
                person 2 2 = 1
                set 4 2 = 3
                print = 0
                person 2 2 = 0
                """);
        edges.edge("then the day of now is 1 more", """
                persons 1r9,0x1,1x1
                dead 0
                print = 1
                count 0 = 1
                person 0 9 = 0
                print = 0
                count 0 = 2
                """);
        edges.edge("and the hours of the day are there again", """
                addPerson 50 5 = 0
                write 0 0 5 = 0
                print = 0
                count 2 = 8
                set 0 3 = 8
                write 0 0 8 = 1
                print = 0
                count 2 = 3
                """);
        edges.edge("A correction of a printed life changes the source of a fact and says so; it is"
                + " counted", """
                persons 1r9,0x4,1x5
                dead 0
                print = 1
                count 10 = 0
                correct 0 1 0 = 1
                fact 0 1 0 = 0
                fact 0 1 1 = 5
                fact 0 1 2 = 0
                fact 0 0 0 = 0
                person 0 6 = 1
                correct 0 1 1 = 2
                count 10 = 2
                count 2 = 8
                """);
    }

    private static void texts(Edges edges) {
        edges.in("TEXTS");
        edges.edge("There is a text of at most 60 characters, empty at first", """
                count 17 = 0
                clearText = 0
                59 x type 0
                type 0 = 60
                type 0 = FULL
                count 17 = 60
                text 10r1;1r1;2r1;3r1;4r1;5r1;6r1;7r1;8r1;9r1;0r1;1r1;2r1;3r1;4r9
                type ; = FULL
                addPersons = 15
                person 14 1 = 9
                clearText = 60
                """);
        edges.edge("A text of persons is one or more persons with \";\" between two", """
                addPersons = fault 0
                text ;
                addPersons = fault 0
                text 5r1
                addPersons = 1
                text 5r1;6r2
                addPersons = 2
                text 5r1;
                addPersons = fault 4
                text 5r1;;6r2
                addPersons = fault 4
                text 5r1:6r2
                addPersons = fault 3
                text 5r16r2
                addPersons = fault 3
                text 0r1;1r1;2r1;3r1;4r1;5r1;6r1;7r1;8r1;9r1;0r1;1r1;2r1;3r1;4r1
                addPersons = 15
                person 17 0 = 4
                """);
        edges.edge(": an age (0 to 110), \"r\", a rank (1 to 9)", """
                persons 0r1;110r9;109r5;99r1
                person 0 0 = 0
                person 1 0 = 110
                person 1 1 = 9
                person 2 0 = 109
                text -1r1
                addPersons = fault 0
                text r1
                addPersons = fault 0
                text 111r1
                addPersons = fault 2
                text 5R1
                addPersons = fault 1
                text 51
                addPersons = fault 2
                text 5rr1
                addPersons = fault 2
                text 5r0
                addPersons = fault 2
                text 5r-1
                addPersons = fault 2
                text 5r10
                addPersons = fault 3
                text 5r9r
                addPersons = fault 3
                """);
        edges.edge(", and any number of facts behind it (perhaps none, at most 8): \",\"", """
                persons 5r1;5r1,0x1;5r1,0x1,0x2,0x3,0x4,0x5,0x6,0x7,0x8
                person 0 3 = 0
                person 1 3 = 1
                person 2 3 = 8
                fact 2 7 1 = 8
                text 5r1,
                addPersons = fault 4
                text 5r1,,0x1
                addPersons = fault 4
                text 5r1.0x1
                addPersons = fault 3
                text 5r1,0x10x1
                addPersons = fault 7
                """);
        edges.edge("a source (0 to 5), \"x\" and lines (1 to 9)", """
                persons 5r1,0x1,5x9
                fact 0 0 0 = 0
                fact 0 1 0 = 5
                fact 0 1 1 = 9
                text 5r1,6x1
                addPersons = fault 4
                text 5r1,-1x1
                addPersons = fault 4
                text 5r1,0X1
                addPersons = fault 5
                text 5r1,01
                addPersons = fault 5
                text 5r1,0x0
                addPersons = fault 6
                text 5r1,0x10
                addPersons = fault 7
                """);
    }

    private static void numbersOfTexts(Edges edges) {
        edges.edge("Numbers have no zero in front, unless it is the single digit 0", """
                persons 0r1,0x1
                person 0 0 = 0
                text 00r1
                addPersons = fault 1
                text 01r1
                addPersons = fault 1
                text 0110r1
                addPersons = fault 1
                text 5r01
                addPersons = fault 2
                text 5r1,00x1
                addPersons = fault 5
                text 5r1,01x1
                addPersons = fault 5
                text 5r1,0x01
                addPersons = fault 6
                """);
        // "/" stands before "0", and ":" behind "9"
        edges.edge("Numbers", """
                text /r1
                addPersons = fault 0
                text :r1
                addPersons = fault 0
                text 1/r1
                addPersons = fault 1
                text 1:r1
                addPersons = fault 1
                text 10/r1
                addPersons = fault 2
                text 10:r1
                addPersons = fault 2
                text 5r/
                addPersons = fault 2
                text 5r:
                addPersons = fault 2
                text 5r1,/x1
                addPersons = fault 4
                text 5r1,:x1
                addPersons = fault 4
                text 5r1,0x/
                addPersons = fault 6
                text 5r1,0x:
                addPersons = fault 6
                """);
        edges.edge("a digit by which a number would be greater than told is not allowed", """
                text 111r1
                addPersons = fault 2
                text 119
                addPersons = fault 2
                text 120r1
                addPersons = fault 2
                text 200r1
                addPersons = fault 2
                text 990r1
                addPersons = fault 2
                text 1000r1
                addPersons = fault 3
                text 1100r1
                addPersons = fault 3
                text 5r11
                addPersons = fault 3
                text 5r99
                addPersons = fault 3
                text 5r1,10x1
                addPersons = fault 5
                text 5r1,5x99
                addPersons = fault 7
                """);
        edges.edge("a ninth fact neither", """
                text 5r1,0x1,0x2,0x3,0x4,0x5,0x6,0x7,0x8
                addPersons = 1
                type ,
                addPersons = fault 35
                text 5r1,0x1,0x2,0x3,0x4,0x5,0x6,0x7,0x8,0x9
                addPersons = fault 35
                text 5r1;5r1,0x1,0x2,0x3,0x4,0x5,0x6,0x7,0x8,0x9
                addPersons = fault 39
                text 5r1,0x1,0x2,0x3,0x4,0x5,0x6,0x7,0x8;5r1,0x1
                addPersons = 2
                """);
        edges.edge("The fault of the text is the index, from 0, of the first character that is not"
                + " allowed at its place", """
                text ?
                addPersons = fault 0
                text 5r1,0x1;6r2,1x2;7?,6x0
                addPersons = fault 17
                text 5r0,9x0
                addPersons = fault 2
                59 x type 5
                count 17 = 60
                text 5r1,0x1,0x2,0x3,0x4,0x5,0x6,0x7;5r1,0x1,0x2,0x3,0x4,0x5,0x6,
                count 17 = 60
                addPersons = fault 60
                """);
        edges.edge("or the length of the text if it ends too early (the empty text does)", """
                addPersons = fault 0
                type 1
                addPersons = fault 1
                type 1
                addPersons = fault 2
                type 0
                addPersons = fault 3
                type r
                addPersons = fault 4
                type 9
                addPersons = 1
                type ,
                addPersons = fault 6
                type 0
                addPersons = fault 7
                type x
                addPersons = fault 8
                type 9
                addPersons = 1
                type ;
                addPersons = fault 10
                type 0
                addPersons = fault 11
                type r
                addPersons = fault 12
                type 1
                addPersons = 2
                clearText = 13
                addPersons = fault 0
                """);
        edges.edge("(These facts take no hours; they are written on the day of now.)", """
                addPerson 50 5 = 0
                3 x print
                write 0 0 8 = 0
                count 2 = 0
                text 5r1,0x9
                addPersons = 1
                count 2 = 0
                fact 1 0 2 = 3
                print = 0
                addPersons = 1
                count 2 = 8
                fact 2 0 2 = 4
                fact 1 0 2 = 3
                """);
    }

    private static void history(Edges edges) {
        edges.in("HISTORY");
        edges.edge("A history of at most 4 states is kept", """
                count 16 = 0
                print = 0
                count 16 = 1
                3 x print
                count 16 = 4
                print = 0
                count 16 = 4
                """);
        edges.edge("when one more is recorded, the oldest one is dropped", """
                5 x print
                undo = 3
                undo = 2
                undo = 1
                undo = 0
                count 0 = 1
                undo = NONE
                5 x print
                undo = 3
                undo = 2
                2 x print
                3 x print
                4 x undo
                count 0 = 5
                undo = NONE
                """);
        edges.edge("undo() removes and restores the latest one", """
                addPerson 1 1 = 0
                addPerson 2 2 = 1
                undo = 1
                count 1 = 1
                count 16 = 1
                person 0 0 = 1
                undo = 0
                count 1 = 0
                undo = NONE
                """);
        // each of the acts, and those whose answer is 0 most of all
        edges.edge("Each call of a method that is described as an act, and returns no error and not"
                + " NONE, records the state that was before it", """
                addPerson 1 1 = 0
                text 2r2,0x1;3r9,0x1,1x1
                addPersons = 2
                write 0 2 1 = 0
                strike 0 0 = 0
                set 2 0 = 30
                set 2 30 = 0
                trust 0 0 = 50
                trust 0 50 = 0
                set 0 1 = 8
                print = 0
                check 1 0 = 0
                trust 0 20 = 50
                print = 0
                checkUrgent = 1
                trust 0 50 = 20
                tellDeath 2 0 = 0
                tellDeath 2 1 = 1
                tellDeath 1 0 = 0
                decide 1 false = 0
                print = 1
                correct 2 0 2 = 1
                keep = 3
                restore = 3
                count 16 = 4
                """);
    }

    private static void states(Edges edges) {
        edges.edge("There is one snapshot, empty at first", """
                restore = NONE
                keep = 0
                print = 0
                keep = 1
                print = 0
                restore = 1
                undo = 2
                count 0 = 2
                restore = 1
                """);
        edges.edge("A state is everything but the text, the history and the snapshot", """
                text 5r1
                print = 0
                keep = 1
                type ;
                print = 0
                type 6
                restore = 1
                count 17 = 5
                addPersons = fault 5
                undo = 2
                count 17 = 5
                keep = 2
                undo = 1
                restore = 2
                count 16 = 2
                undo = 1
                count 0 = 1
                undo = 0
                undo = NONE
                restore = 2
                """);
        // all that a state has is another one behind these, and is as it was behind undo
        edges.edge("A state is everything", """
                persons 5r1,0x1,1x2,2x3,3x4,4x5,0x6,1x7,2x8;6r2,0x1,1x1
                dead 1
                tellDeath 0 0 = 0
                print = 1
                correct 1 0 3 = 1
                keep = 1
                tellDeath 0 1 = 1
                set 0 9 = 8
                set 1 50 = 40
                set 2 31 = 30
                set 3 3 = 2
                set 4 5 = 3
                trust 0 0 = 50
                trust 5 0 = 50
                check 0 7 = 7
                correct 1 1 3 = 2
                print = 0
                print = 0
                addPerson 50 5 = 2
                restore = 1
                fact 0 7 2 = 0
                tellDeath 0 0 = NONE
                count 2 = 8
                undo = 3
                count 1 = 3
                fact 0 7 2 = 1
                person 0 2 = 2
                """);
        edges.edge("A state is everything", """
                addPerson 1 2 = 0
                keep = 0
                undo = 0
                persons 3r4,0x1
                tellDeath 0 0 = 0
                restore = 0
                person 0 0 = 1
                person 0 1 = 2
                person 0 2 = 0
                person 0 3 = 0
                undo = 2
                person 0 0 = 3
                person 0 1 = 4
                person 0 2 = 1
                person 0 3 = 1
                """);
    }

    private static void errors(Edges edges) {
        edges.in("ERRORS");
        edges.edge("Errors are reported by the constants below", """
                write 0 0 1 = -1
                addPerson -1 1 = -2
                20 x addPerson 1 1
                addPerson 1 1 = -3
                decide 0 true = -4
                undo = 3
                restore = -5
                """);
        edges.edge("Where several errors can apply, the order of the @return line is the order of"
                + " the checks", """
                write 0 6 0 = UNKNOWN
                persons 70r5,0x1,1x1;5r1,0x1,1x1,2x1,3x1,4x1,5x1,0x1,0x1
                dead 0
                print = 1
                write 0 6 0 = UNKNOWN
                write 0 0 0 = BAD_VALUE
                write 0 0 9 = NOT_POSSIBLE
                write 1 6 9 = UNKNOWN
                write 1 0 10 = BAD_VALUE
                write 1 0 9 = FULL
                check 0 2 = UNKNOWN
                check 0 0 = NOT_POSSIBLE
                strike 0 2 = UNKNOWN
                trust 6 101 = UNKNOWN
                tellDeath 0 6 = UNKNOWN
                correct 1 8 6 = UNKNOWN
                correct 1 0 6 = UNKNOWN
                correct 1 0 0 = NOT_POSSIBLE
                person 2 11 = UNKNOWN
                fact 2 0 5 = UNKNOWN
                fact 0 2 5 = UNKNOWN
                source 6 4 = UNKNOWN
                18 x addPerson 1 1
                addPerson 111 1 = BAD_VALUE
                text 1r1;
                addPersons = fault 4
                """);
        edges.edge("NONE is no error; it is returned only if no error applies", """
                persons 70r5,0x1;70r5,0x1
                write 0 1 8 = 1
                check 0 0 = FULL
                check 0 2 = UNKNOWN
                tellDeath 1 0 = 0
                tellDeath 1 0 = NONE
                dead 0
                tellDeath 0 0 = NOT_POSSIBLE
                correct 0 0 0 = NOT_POSSIBLE
                print = 1
                tellDeath 0 0 = NOT_POSSIBLE
                check 0 0 = NOT_POSSIBLE
                person 2 8 = UNKNOWN
                urgent -1 = BAD_VALUE
                """);
        edges.plain("A call that returns an error or NONE changes nothing");
        edges.edge("The constants: `UNKNOWN = -1`: There is no such person, fact or source", """
                person 0 0 = -1
                addPerson 1 1 = 0
                fact 0 0 0 = -1
                source 6 0 = -1
                """);
        edges.edge("`BAD_VALUE = -2`: Another argument is out of range", """
                count 18 = -2
                set 5 1 = -2
                """);
        edges.edge("`FULL = -3`: There is no more room, or no more hours", """
                persons 5r1,0x1,1x1,2x1,3x1,4x1,5x1,0x1,0x1;5r1
                write 0 0 1 = -3
                write 1 0 9 = -3
                """);
        edges.edge("`NOT_POSSIBLE = -4`: This is not possible", """
                persons 5r1,0x1
                correct 0 0 1 = -4
                """);
        edges.edge("`NONE = -5`: There is no such thing; not an error", """
                undo = -5
                restore = -5
                page 0 = -5
                urgent 0 = -5
                """);
        edges.plain("Ahead of the calls `addPerson`, `addPersons`, `write`, `check`, `strike`,"
                + " `checkUrgent` the interface says: ---- persons, facts.",
                "Ahead of the calls `trust`, `set` the interface says: ---- sources, settings.",
                "Ahead of the calls `tellDeath`, `decide`, `print`, `correct` the interface says:"
                + " ---- deaths, days.",
                "Ahead of the calls `type`, `clearText` the interface says: ---- texts.",
                "Ahead of the calls `undo`, `keep`, `restore` the interface says: ---- history.",
                "Ahead of the calls `person`, `fact`, `worth`, `urgent`, `page`, `source`,"
                + " `staleIn`, `count` the interface says: ---- what is told.");
    }
}
