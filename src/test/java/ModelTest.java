import java.util.Random;
import java.util.TreeMap;

/** Runs of some 512 calls, the same ones each time, on the program and on the model beside it. */
public final class ModelTest {
    private static final int RUNS = 1500;
    private static final int CALLS = 512;
    private static final int[] ODD = {-1, Integer.MIN_VALUE, Integer.MAX_VALUE, 20, 6, 9, 10, 1000};
    private static final String[] PARTS =
        {"0", "5", "11", "110", "99", "100", "r", "r1", "r9", ",", ",0x1", ",5x9", "x", ";",
            ";7r3", "80r9,0x4,1x3", "30r1", "a", "r0", ",6x1", ",1x0"};

    private final Random random;
    private final LivesAhead x = new LivesAhead();
    private final Model model = new Model();
    private final int restless;
    private final boolean crowded;
    private final boolean deadly;
    private String call;
    private static final TreeMap<String, Integer> SEEN = new TreeMap<>();

    private ModelTest(int seed) {
        random = new Random(seed);
        restless = 1 + random.nextInt(8);
        crowded = random.nextInt(4) == 0;
        deadly = random.nextInt(3) == 0;
    }

    public static void main(String[] args) {
        for (int run = 0; run < RUNS; run++) {
            new ModelTest(run).run(run);
        }
        // a run that never comes to an answer tests nothing of it
        for (String kind : "addPerson -3,addPersons -3,write -3,write -4,check -3,check -4,check -5,"
                .concat("strike -4,checkUrgent +,checkUrgent -5,tellDeath 1,tellDeath -4,")
                .concat("tellDeath -5,decide -4,print +,correct +,correct -4,correct -5,")
                .concat("type -3,undo -5,restore -5,page of 0 +,page of 2 +,print 3,urgent 5,addPersons 4").split(",")) {
            Due.due("times of " + kind, SEEN.getOrDefault(kind, 0) > 50 ? 1 : 0, 1);
        }
        Due.end("ModelTest");
    }

    private void run(int run) {
        StringBuilder calls = new StringBuilder();
        for (int i = 0; i < CALLS; i++) {
            long[] answers = deadly && i < 8 ? addRead() : random.nextInt(3) == 0 ? tell() : act();
            calls.append(call).append(" = ").append(answers[0]).append('\n');
            Due.due("run " + run + ", call " + i + ": " + call, answers[0], answers[1]);
            count(call.substring(0, call.indexOf('(')), answers[1]);
            if (answers[0] != answers[1]) {
                System.out.println(calls);
                return;
            }
        }
    }

    private static void count(String name, long answer) {
        SEEN.merge(name + " " + answer, 1, Integer::sum);
        if (answer >= 0) {
            SEEN.merge(name + " +", 1, Integer::sum);
        }
    }

    private int some(int bound) {
        return random.nextInt(40) == 0 ? ODD[random.nextInt(ODD.length)] : random.nextInt(bound);
    }

    private int somePerson() {
        return some(Math.max(1, Math.min(20, model.count(1))));
    }

    private int someFact(int person) {
        return some(Math.max(1, model.person(person, 3)));
    }

    private void called(String name, Object... arguments) {
        StringBuilder text = new StringBuilder(name).append('(');
        for (int i = 0; i < arguments.length; i++) {
            text.append(i == 0 ? "" : ", ").append(arguments[i]);
        }
        call = text.append(')').toString();
    }

    private static long[] both(long got, long want) {
        return new long[] {got, want};
    }

    private long[] act() {
        int p = somePerson();
        int f = someFact(p);
        int source = some(6);
        if (crowded && random.nextInt(8) == 0) {
            return addPerson();
        }
        if (deadly && random.nextInt(16) == 0) {
            return random.nextInt(3) == 0 ? addRead() : tellDeaths();
        }
        switch (random.nextInt(20 + restless)) {
            case 0:
                return addPerson();
            case 1:
                called("addPersons");
                return both(x.addPersons(), model.addPersons());
            case 2:
            case 3:
            case 4:
                int lines = random.nextBoolean() ? 1 : 1 + some(9);
                called("write", p, source, lines);
                return both(x.write(p, source, lines), model.write(p, source, lines));
            case 5:
            case 6:
                called("check", p, f);
                return both(x.check(p, f), model.check(p, f));
            case 7:
                called("strike", p, f);
                return both(x.strike(p, f), model.strike(p, f));
            case 8:
                called("checkUrgent");
                return both(x.checkUrgent(), model.checkUrgent());
            case 9:
                int trust = random.nextBoolean() ? 30 + some(71) : some(101);
                called("trust", source, trust);
                return both(x.trust(source, trust), model.trust(source, trust));
            case 10:
                return set();
            case 11:
            case 12:
                return tellDeath(p, source);
            case 13:
                boolean confirmed = random.nextInt(4) > 0;
                called("decide", p, confirmed);
                return both(x.decide(p, confirmed), model.decide(p, confirmed));
            case 14:
                called("correct", p, f, source);
                return both(x.correct(p, f, source), model.correct(p, f, source));
            case 15:
            case 16:
                return text();
            case 17:
                called("undo");
                return both(x.undo(), model.undo());
            case 18:
                return snapshot();
            default:
                called("print");
                return both(x.print(), model.print());
        }
    }

    private long[] addPerson() {
        int age = some(111);
        int rank = 1 + some(9);
        called("addPerson", age, rank);
        return both(x.addPerson(age, rank), model.addPerson(age, rank));
    }

    private long[] tellDeath(int person, int source) {
        called("tellDeath", person, source);
        return both(x.tellDeath(person, source), model.tellDeath(person, source));
    }

    private long[] addRead() {
        x.clearText();
        model.clearText();
        type(somePersons());
        called("addPersons");
        return both(x.addPersons(), model.addPersons());
    }

    /** Of many at once: else a page would hardly ever have more than one life. */
    private long[] tellDeaths() {
        long[] answers = new long[2];
        for (int p = 0; p < model.count(1) && answers[0] == answers[1]; p++) {
            for (int told = random.nextInt(4); told > 0 && answers[0] == answers[1]; told--) {
                answers = tellDeath(p, random.nextInt(6));
            }
        }
        for (int rank = 0; rank < 20 && answers[0] == answers[1]; rank++) {
            answers = page(rank);
        }
        return answers;
    }

    private long[] page(int rank) {
        called("page", rank);
        long[] answers = both(x.page(rank), model.page(rank));
        count("page of " + rank, answers[1]);
        return answers;
    }

    private long[] set() {
        int which = some(5);
        int[] most = {25, 201, 101, 4, 10};
        int value = which == 1 ? 10 + some(60)
                : which >= 0 && which < 5 ? some(most[which]) : some(10);
        called("set", which, value);
        return both(x.set(which, value), model.set(which, value));
    }

    private long[] text() {
        if (random.nextInt(6) == 0) {
            called("clearText");
            return both(x.clearText(), model.clearText());
        }
        if (random.nextInt(3) == 0) {
            x.clearText();
            model.clearText();
            return type(somePersons());
        }
        return type(PARTS[random.nextInt(PARTS.length)]);
    }

    /** A text of persons, now and then with one character that may be wrong. */
    private String somePersons() {
        StringBuilder text = new StringBuilder();
        for (int i = random.nextInt(5); i >= 0; i--) {
            text.append(random.nextInt(111)).append('r').append(1 + random.nextInt(9));
            for (int f = random.nextInt(4) * random.nextInt(4); f > 0; f--) {
                text.append(',').append(random.nextInt(6)).append('x').append(1 + random.nextInt(9));
            }
            text.append(i > 0 ? ";" : "");
        }
        if (random.nextInt(3) == 0) {
            text.setCharAt(random.nextInt(text.length()), "0159rx,; ".charAt(random.nextInt(9)));
        }
        return text.toString();
    }

    private long[] type(String part) {
        long[] answers = new long[2];
        for (int i = 0; i < part.length() && answers[0] == answers[1]; i++) {
            called("type", part.charAt(i));
            answers = both(x.type(part.charAt(i)), model.type(part.charAt(i)));
        }
        return answers;
    }

    private long[] snapshot() {
        if (random.nextInt(3) == 0) {
            called("keep");
            return both(x.keep(), model.keep());
        }
        called("restore");
        return both(x.restore(), model.restore());
    }

    private long[] tell() {
        int p = somePerson();
        int f = someFact(p);
        switch (random.nextInt(8)) {
            case 0:
                int what = some(11);
                called("person", p, what);
                return both(x.person(p, what), model.person(p, what));
            case 1:
                int of = some(5);
                called("fact", p, f, of);
                return both(x.fact(p, f, of), model.fact(p, f, of));
            case 2:
                called("worth", p);
                return both(Float.floatToIntBits(x.worth(p)),
                        Float.floatToIntBits(model.worth(p)));
            case 3:
                int rank = some(6);
                called("urgent", rank);
                return both(x.urgent(rank), model.urgent(rank));
            case 4:
                return page(some(3));
            case 5:
                int source = some(6);
                int tells = some(4);
                called("source", source, tells);
                return both(x.source(source, tells), model.source(source, tells));
            case 6:
                int days = random.nextBoolean() ? some(100) : some(1000);
                called("staleIn", days);
                return both(x.staleIn(days), model.staleIn(days));
            default:
                int counted = some(18);
                called("count", counted);
                return both(x.count(counted), model.count(counted));
        }
    }
}
