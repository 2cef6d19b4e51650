/** What every test here uses: answers against what is due, and all that an object tells. */
final class Due {
    private static int right = 0;
    private static int wrong = 0;

    private Due() {
    }

    static void due(String call, long got, long want) {
        tell(got == want, call, String.valueOf(got), String.valueOf(want));
    }

    static void due(String call, String got, String want) {
        tell(got.equals(want), call, got, want);
    }

    static void dueFloat(String call, float got, float want) {
        tell(Float.floatToIntBits(got) == Float.floatToIntBits(want), call, String.valueOf(got),
                String.valueOf(want));
    }

    private static void tell(boolean isRight, String call, String got, String want) {
        if (isRight) {
            right++;
            return;
        }
        wrong++;
        System.out.println(call + " answered " + got + ", due is " + want);
    }

    /** Closes a test: tells how many answers were right, and ends with 1 if one was not. */
    static void end(String test) {
        System.out.println(test + ": " + right + " answers right, " + wrong + " wrong");
        if (wrong != 0 || right == 0) {
            System.exit(1);
        }
    }

    static void type(LivesAhead x, String text) {
        for (char c : text.toCharArray()) {
            x.type(c);
        }
    }

    /** A new object with the persons of a text. */
    static LivesAhead reads(String text) {
        LivesAhead x = new LivesAhead();
        type(x, text);
        due("addPersons() of " + text, x.addPersons(), text.split(";").length);
        x.clearText();
        return x;
    }

    static void pass(LivesAhead x, int days) {
        for (int i = 0; i < days; i++) {
            x.print();
        }
    }

    /** All that tells of the state: the text, the history and the snapshot are no part of it. */
    static String state(LivesAhead x) {
        StringBuilder seen = new StringBuilder();
        for (int what = 0; what <= 15; what++) {
            seen.append(x.count(what)).append(' ');
        }
        for (int source = 0; source < 6; source++) {
            seen.append("\nsource ").append(source).append(": ").append(x.source(source, 0));
        }
        for (int person = 0; person < x.count(1); person++) {
            seen.append("\nperson ").append(person).append(':');
            for (int what = 0; what <= 10; what++) {
                seen.append(' ').append(x.person(person, what));
            }
            for (int fact = 0; fact < x.person(person, 3); fact++) {
                seen.append(" /");
                for (int what = 0; what <= 4; what++) {
                    seen.append(' ').append(x.fact(person, fact, what));
                }
            }
        }
        return seen.toString();
    }

    /** The state, and how long the history and the text are. */
    static String all(LivesAhead x) {
        return state(x) + "\n" + x.count(16) + " " + x.count(17);
    }
}
