import java.util.ArrayList;
import java.util.Comparator;
import java.util.List;
import java.util.regex.Matcher;
import java.util.regex.Pattern;

/**
 * The document once more, as slow and plain as it can be said with the Java library: whole copies
 * of states, streams, and a regular expression for the text. ModelTest runs it beside the program.
 */
final class Model {
    private static final String PERSON =
            "(?:0|[1-9]|[1-9][0-9]|10[0-9]|110)r[1-9](?:,[0-5]x[1-9]){0,8}";
    private static final Pattern PERSONS = Pattern.compile(PERSON + "(?:;" + PERSON + ")*");
    private static final int[] LEAST = {1, 10, 0, 1, 1};
    private static final int[] MOST = {24, 200, 100, 3, 9};

    private static final class Fact {
        int source;
        int lines;
        int day;

        Fact(int source, int lines, int day) {
            this.source = source;
            this.lines = lines;
            this.day = day;
        }
    }

    private static final class Person {
        int number;
        int age;
        int rank;
        String state = "alive";
        Integer teller;
        int told = -5;
        int confirmed = -5;
        int printed = -5;
        List<Fact> facts = new ArrayList<>();

        boolean is(String wanted) {
            return state.equals(wanted);
        }

        int lines() {
            return facts.stream().mapToInt(f -> f.lines).sum();
        }

        int sources() {
            return (int) facts.stream().map(f -> f.source).distinct().count();
        }

        Person copy() {
            Person p = new Person();
            p.number = number;
            p.age = age;
            p.rank = rank;
            p.state = state;
            p.teller = teller;
            p.told = told;
            p.confirmed = confirmed;
            p.printed = printed;
            for (Fact f : facts) {
                p.facts.add(new Fact(f.source, f.lines, f.day));
            }
            return p;
        }
    }

    private static final class State {
        int day = 0;
        int hours = 8;
        int corrections = 0;
        int[] settings = {8, 40, 30, 2, 3};
        int[] trusts = {50, 50, 50, 50, 50, 50};
        List<Person> persons = new ArrayList<>();

        State copy() {
            State s = new State();
            s.day = day;
            s.hours = hours;
            s.corrections = corrections;
            s.settings = settings.clone();
            s.trusts = trusts.clone();
            for (Person p : persons) {
                s.persons.add(p.copy());
            }
            return s;
        }

        float worth(Fact f, int on) {
            float worth = (float) trusts[f.source] / 100.0f;
            for (int d = f.day + 10; d <= on; d += 10) {
                worth = worth * 0.9f;
            }
            return worth;
        }

        boolean stale(Fact f, int on) {
            return worth(f, on) < (float) settings[2] / 100.0f;
        }

        int stale(Person p, int on) {
            return (int) p.facts.stream().filter(f -> stale(f, on)).count();
        }

        int urgency(Person p) {
            return p.age + 10 * p.rank + 5 * stale(p, day) + (p.facts.isEmpty() ? 40 : 0);
        }

        boolean printable(Person p) {
            return p.sources() >= settings[3] && stale(p, day) == 0;
        }

        List<Person> in(String state) {
            return persons.stream().filter(p -> p.is(state)).toList();
        }

        List<Person> urgent() {
            return in("alive").stream()
                    .sorted(Comparator.<Person>comparingInt(p -> -urgency(p))
                            .thenComparingInt(p -> p.number))
                    .toList();
        }

        List<Person> page() {
            List<Person> queue = in("dead").stream().filter(this::printable)
                    .sorted(Comparator.<Person>comparingInt(p -> -p.rank)
                            .thenComparingInt(p -> p.confirmed)
                            .thenComparingInt(p -> p.number))
                    .toList();
            List<Person> page = new ArrayList<>();
            for (Person p : queue) {
                int used = page.stream().mapToInt(Person::lines).sum();
                if (used + p.lines() <= settings[1]) {
                    page.add(p);
                }
            }
            return page;
        }
    }

    private State s = new State();
    private final List<State> history = new ArrayList<>();
    private State kept = null;
    private String text = "";

    private void record() {
        history.add(s.copy());
        if (history.size() > 4) {
            history.remove(0);
        }
    }

    private boolean no(int person) {
        return person < 0 || person >= s.persons.size();
    }

    private boolean no(int person, int fact) {
        return no(person) || fact < 0 || fact >= s.persons.get(person).facts.size();
    }

    private static boolean noSource(int source) {
        return source < 0 || source > 5;
    }

    int addPerson(int age, int rank) {
        if (age < 0 || age > 110 || rank < 1 || rank > 9) {
            return -2;
        }
        if (s.persons.size() == 20) {
            return -3;
        }
        record();
        return join(age, rank).number;
    }

    private Person join(int age, int rank) {
        Person p = new Person();
        p.number = s.persons.size();
        p.age = age;
        p.rank = rank;
        s.persons.add(p);
        return p;
    }

    private int fault() {
        for (int length = 1; length <= text.length(); length++) {
            Matcher m = PERSONS.matcher(text.substring(0, length));
            if (!m.matches() && !m.hitEnd()) {
                return length - 1;
            }
        }
        return PERSONS.matcher(text).matches() ? -1 : text.length();
    }

    int addPersons() {
        int fault = fault();
        if (fault >= 0) {
            return -100 - fault;
        }
        String[] persons = text.split(";");
        if (s.persons.size() + persons.length > 20) {
            return -3;
        }
        record();
        for (String person : persons) {
            String[] parts = person.split(",");
            String[] head = parts[0].split("r");
            Person p = join(Integer.parseInt(head[0]), Integer.parseInt(head[1]));
            for (int i = 1; i < parts.length; i++) {
                String[] fact = parts[i].split("x");
                p.facts.add(new Fact(Integer.parseInt(fact[0]), Integer.parseInt(fact[1]), s.day));
            }
        }
        return persons.length;
    }

    int write(int person, int source, int lines) {
        if (no(person) || noSource(source)) {
            return -1;
        }
        if (lines < 1 || lines > 9) {
            return -2;
        }
        if (s.persons.get(person).is("printed")) {
            return -4;
        }
        if (s.persons.get(person).facts.size() == 8 || lines > s.hours) {
            return -3;
        }
        record();
        s.hours -= lines;
        s.persons.get(person).facts.add(new Fact(source, lines, s.day));
        return s.persons.get(person).facts.size() - 1;
    }

    int check(int person, int fact) {
        if (no(person, fact)) {
            return -1;
        }
        if (s.persons.get(person).is("printed")) {
            return -4;
        }
        if (s.hours == 0) {
            return -3;
        }
        if (s.persons.get(person).facts.get(fact).day == s.day) {
            return -5;
        }
        record();
        s.persons.get(person).facts.get(fact).day = s.day;
        return --s.hours;
    }

    int strike(int person, int fact) {
        if (no(person, fact)) {
            return -1;
        }
        if (s.persons.get(person).is("printed")) {
            return -4;
        }
        record();
        s.persons.get(person).facts.remove(fact);
        return s.persons.get(person).facts.size();
    }

    int checkUrgent() {
        State before = s.copy();
        int checked = 0;
        while (s.hours > 0) {
            Fact next = null;
            for (Person p : s.urgent()) {
                for (Fact f : p.facts) {
                    if (next == null && s.stale(f, s.day) && f.day != s.day) {
                        next = f;
                    }
                }
            }
            if (next == null) {
                break;
            }
            next.day = s.day;
            s.hours--;
            checked++;
        }
        if (checked == 0) {
            return -5;
        }
        State after = s;
        s = before;
        record();
        s = after;
        return checked;
    }

    int trust(int source, int trust) {
        if (noSource(source)) {
            return -1;
        }
        if (trust < 0 || trust > 100) {
            return -2;
        }
        int was = s.trusts[source];
        if (was == trust) {
            return -5;
        }
        record();
        s.trusts[source] = trust;
        return was;
    }

    int set(int which, int value) {
        if (which < 0 || which > 4 || value < LEAST[which] || value > MOST[which]) {
            return -2;
        }
        int was = s.settings[which];
        if (was == value) {
            return -5;
        }
        record();
        s.settings[which] = value;
        return was;
    }

    int tellDeath(int person, int source) {
        if (no(person) || noSource(source)) {
            return -1;
        }
        Person p = s.persons.get(person);
        if (p.is("dead") || p.is("printed")) {
            return -4;
        }
        if (p.is("told") && p.teller == source) {
            return -5;
        }
        record();
        p = s.persons.get(person);
        if (p.is("told")) {
            p.state = "dead";
            p.confirmed = s.day;
            return 1;
        }
        p.state = "told";
        p.teller = source;
        p.told = s.day;
        return 0;
    }

    int decide(int person, boolean confirmed) {
        if (no(person)) {
            return -1;
        }
        Person p = s.persons.get(person);
        if (!p.is("told")) {
            return -4;
        }
        record();
        if (confirmed) {
            p.state = "dead";
            p.confirmed = s.day;
        } else {
            p.state = "alive";
        }
        return s.in("told").size();
    }

    int print() {
        if (s.day == 9999) {
            return -3;
        }
        record();
        List<Person> page = s.page();
        for (Person p : page) {
            p.state = "printed";
            p.printed = s.day;
        }
        for (Person p : s.in("told")) {
            if (s.day + 1 >= p.told + s.settings[4]) {
                p.state = "alive";
            }
        }
        s.day++;
        s.hours = s.settings[0];
        return page.size();
    }

    int correct(int person, int fact, int source) {
        if (no(person, fact) || noSource(source)) {
            return -1;
        }
        if (!s.persons.get(person).is("printed")) {
            return -4;
        }
        if (s.persons.get(person).facts.get(fact).source == source) {
            return -5;
        }
        record();
        s.persons.get(person).facts.get(fact).source = source;
        return ++s.corrections;
    }

    int type(char character) {
        if (text.length() == 60) {
            return -3;
        }
        text += character;
        return text.length();
    }

    int clearText() {
        int length = text.length();
        text = "";
        return length;
    }

    int undo() {
        if (history.isEmpty()) {
            return -5;
        }
        s = history.remove(history.size() - 1);
        return history.size();
    }

    int keep() {
        kept = s.copy();
        return s.day;
    }

    int restore() {
        if (kept == null) {
            return -5;
        }
        record();
        s = kept.copy();
        return s.day;
    }

    int person(int person, int what) {
        if (no(person)) {
            return -1;
        }
        Person p = s.persons.get(person);
        int state = List.of("alive", "told", "dead", "printed").indexOf(p.state);
        int[] all = {p.age, p.rank, state, p.facts.size(), p.lines(), s.stale(p, s.day),
            p.sources(), state == 0 ? s.urgency(p) : -5,
            state == 0 ? -5 : state == 1 ? p.told : p.confirmed, state == 3 ? p.printed : -5,
            s.printable(p) ? 1 : 0};
        return what < 0 || what >= all.length ? -2 : all[what];
    }

    int fact(int person, int fact, int what) {
        if (no(person, fact)) {
            return -1;
        }
        Fact f = s.persons.get(person).facts.get(fact);
        int[] all = {f.source, f.lines, f.day, s.stale(f, s.day) ? 1 : 0,
            Float.floatToIntBits(s.worth(f, s.day))};
        return what < 0 || what >= all.length ? -2 : all[what];
    }

    float worth(int person) {
        if (no(person)) {
            return -1.0f;
        }
        float sum = 0.0f;
        for (Fact f : s.persons.get(person).facts) {
            sum = sum + s.worth(f, s.day) * (float) f.lines;
        }
        return sum;
    }

    private static int at(List<Person> persons, int rank) {
        return rank < 0 ? -2 : rank >= persons.size() ? -5 : persons.get(rank).number;
    }

    int urgent(int rank) {
        return at(s.urgent(), rank);
    }

    int page(int rank) {
        return at(s.page(), rank);
    }

    int source(int source, int what) {
        if (noSource(source)) {
            return -1;
        }
        List<Fact> given = new ArrayList<>();
        for (Person p : s.persons) {
            given.addAll(p.facts.stream().filter(f -> f.source == source).toList());
        }
        int[] all = {s.trusts[source], given.size(),
            (int) given.stream().filter(f -> s.stale(f, s.day)).count(),
            given.stream().mapToInt(f -> f.lines).sum()};
        return what < 0 || what >= all.length ? -2 : all[what];
    }

    int staleIn(int days) {
        if (days < 0 || days > 999) {
            return -2;
        }
        return s.persons.stream().filter(p -> !p.is("printed"))
                .mapToInt(p -> s.stale(p, s.day + days)).sum();
    }

    int count(int what) {
        int[] all = {s.day, s.persons.size(), s.hours, s.in("alive").size(), s.in("told").size(),
            s.in("dead").size(), s.in("printed").size(),
            s.persons.stream().mapToInt(p -> p.facts.size()).sum(), staleIn(0),
            s.settings[1] - s.page().stream().mapToInt(Person::lines).sum(), s.corrections,
            s.settings[0], s.settings[1], s.settings[2], s.settings[3], s.settings[4],
            history.size(), text.length()};
        return what < 0 || what >= all.length ? -2 : all[what];
    }
}
