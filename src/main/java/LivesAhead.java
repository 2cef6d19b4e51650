/**
 * An obituary desk: lives of persons that are written ahead, with facts that age, deaths that are
 * told and confirmed, and a page that is printed when a day passes.
 *
 * <p>All rows are made in the constructors and used again: no call makes an object.
 */
public final class LivesAhead {
    /** There is no such person, fact or source. */
    public static final int UNKNOWN = -1;
    /** Another argument is out of range. */
    public static final int BAD_VALUE = -2;
    /** There is no more room, or no more hours. */
    public static final int FULL = -3;
    /** This is not possible. */
    public static final int NOT_POSSIBLE = -4;
    /** There is no such thing; not an error. */
    public static final int NONE = -5;

    private static final int MOST_PERSONS = 20;
    private static final int MOST_FACTS = 8;
    private static final int MOST_AGE = 110;
    private static final int MOST_RANK = 9;
    private static final int MOST_LINES = 9;
    private static final int SOURCES = 6;
    private static final int MOST_TRUST = 100;
    private static final int LAST_DAY = 9999;
    private static final int MOST_DAYS_AHEAD = 999;
    private static final int MOST_CHARACTERS = 60;
    private static final int MOST_STATES = 4;
    private static final int FAULT_AT_START = -100;

    private static final int ALIVE = 0;
    private static final int TOLD_DEAD = 1;
    private static final int DEAD = 2;
    private static final int PRINTED = 3;

    private static final int SETTINGS = 5;
    private static final int HOURS_OF_DAY = 0;
    private static final int LINES_OF_PAGE = 1;
    private static final int BOUND = 2;
    private static final int LEAST_SOURCES = 3;
    private static final int DAYS_TOLD = 4;
    private static final int[] LEAST_OF_SETTING = {1, 10, 0, 1, 1};
    private static final int[] MOST_OF_SETTING = {24, 200, 100, 3, 9};
    private static final int MOST_HOURS = 24;

    private final Desk desk = new Desk();
    private final Desk snapshot = new Desk();
    private boolean hasSnapshot;
    private final History history = new History();
    private final PersonsText text = new PersonsText();
    private final Ranking urgencies = new Ranking();
    private final Page nextPage = new Page();

    /** Creates a desk without persons. */
    public LivesAhead() {
    }

    // ---- persons, facts

    /**
     * Adds a person who is alive. This is an act.
     *
     * @return the number; BAD_VALUE; FULL if there have been 20
     */
    public int addPerson(int age, int rank) {
        if (!isWithin(age, 0, MOST_AGE) || !isWithin(rank, 1, MOST_RANK)) {
            return BAD_VALUE;
        }
        if (desk.roomForPersons() < 1) {
            return FULL;
        }
        history.remember(desk);
        return desk.join(age, rank);
    }

    /**
     * Adds the persons of the text, which stays; all of them, or none. This is one act.
     *
     * @return how many the text has; -100 minus the fault of the text if it has one; FULL if there
     *     would be more than 20
     */
    public int addPersons() {
        if (!text.readPersons(desk.today())) {
            return FAULT_AT_START - text.fault();
        }
        int added = text.personsRead();
        if (added > desk.roomForPersons()) {
            return FULL;
        }
        history.remember(desk);
        for (int i = 0; i < added; i++) {
            desk.joinLike(text.readLife(i));
        }
        return added;
    }

    /**
     * Writes a fact, as the last one of a life. This is an act.
     *
     * @return its number in the life, from 0; UNKNOWN (person or source); BAD_VALUE; NOT_POSSIBLE
     *     if the person is printed; FULL if there are 8, or not so many hours are left
     */
    public int write(int person, int source, int lines) {
        Life life = desk.lifeOf(person);
        if (life == null || !isSource(source)) {
            return UNKNOWN;
        }
        if (!isWithin(lines, 1, MOST_LINES)) {
            return BAD_VALUE;
        }
        if (life.isIn(PRINTED)) {
            return NOT_POSSIBLE;
        }
        if (life.size() >= MOST_FACTS || desk.hoursLeft() < lines) {
            return FULL;
        }
        history.remember(desk);
        desk.spendHours(lines);
        return life.addFact(source, lines, desk.today());
    }

    /**
     * Checks a fact: the day of now is the one on which it was checked last. This is an act.
     *
     * @return how many hours are left; UNKNOWN (person or fact); NOT_POSSIBLE if the person is
     *     printed; FULL if no hour is left; NONE if it was checked or written today
     */
    public int check(int person, int fact) {
        Life life = desk.lifeOf(person);
        if (life == null || !life.hasFact(fact)) {
            return UNKNOWN;
        }
        if (life.isIn(PRINTED)) {
            return NOT_POSSIBLE;
        }
        if (desk.hoursLeft() < 1) {
            return FULL;
        }
        if (life.dayOf(fact) == desk.today()) {
            return NONE;
        }
        history.remember(desk);
        desk.checkToday(life, fact);
        return desk.hoursLeft();
    }

    /**
     * Strikes a fact out; those behind it move up. This is an act, and takes no hours.
     *
     * @return how many facts are left; UNKNOWN (person or fact); NOT_POSSIBLE if the person is
     *     printed
     */
    public int strike(int person, int fact) {
        Life life = desk.lifeOf(person);
        if (life == null || !life.hasFact(fact)) {
            return UNKNOWN;
        }
        if (life.isIn(PRINTED)) {
            return NOT_POSSIBLE;
        }
        history.remember(desk);
        life.removeFact(fact);
        return life.size();
    }

    /**
     * Checks stale facts of the most urgent persons who are alive, as long as hours are left. This
     * is one act.
     *
     * @return how many facts are checked; NONE if none is
     */
    public int checkUrgent() {
        Life life = desk.mostUrgentToCheck();
        if (life == null) {
            return NONE;
        }
        history.remember(desk);
        int checked = 0;
        while (life != null && checked < MOST_HOURS) {
            desk.checkToday(life, desk.firstToCheck(life));
            checked++;
            life = desk.mostUrgentToCheck();
        }
        return checked;
    }

    // ---- sources, settings

    /**
     * Sets the trust of a source. This is an act.
     *
     * @return the previous one; UNKNOWN; BAD_VALUE; NONE if it is so already
     */
    public int trust(int source, int trust) {
        if (!isSource(source)) {
            return UNKNOWN;
        }
        if (!isWithin(trust, 0, MOST_TRUST)) {
            return BAD_VALUE;
        }
        int previous = desk.trustOf(source);
        if (previous == trust) {
            return NONE;
        }
        history.remember(desk);
        desk.changeTrust(source, trust);
        return previous;
    }

    /**
     * Sets a setting (the hours of a day from the next day on). This is an act.
     *
     * @return the previous one; BAD_VALUE (which or value); NONE if it is so already
     */
    public int set(int which, int value) {
        if (!isSetting(which)
                || !isWithin(value, LEAST_OF_SETTING[which], MOST_OF_SETTING[which])) {
            return BAD_VALUE;
        }
        int previous = desk.setting(which);
        if (previous == value) {
            return NONE;
        }
        history.remember(desk);
        desk.changeSetting(which, value);
        return previous;
    }

    // ---- deaths, days

    /**
     * A source tells a death. This is an act.
     *
     * @return 0 if it is told then, 1 if it is confirmed by that; UNKNOWN (person or source);
     *     NOT_POSSIBLE if the person is dead or printed; NONE if this source told it already, and
     *     it is told still
     */
    public int tellDeath(int person, int source) {
        Life life = desk.lifeOf(person);
        if (life == null || !isSource(source)) {
            return UNKNOWN;
        }
        if (life.isIn(DEAD) || life.isIn(PRINTED)) {
            return NOT_POSSIBLE;
        }
        boolean toldBefore = life.isIn(TOLD_DEAD);
        if (toldBefore && life.teller() == source) {
            return NONE;
        }
        history.remember(desk);
        if (toldBefore) {
            life.confirmDeath(desk.today());
            return 1;
        }
        life.tellDead(source, desk.today());
        return 0;
    }

    /**
     * The desk itself confirms a death that is told, or takes it back. This is an act.
     *
     * @return how many persons are told dead then; UNKNOWN; NOT_POSSIBLE if no death of the person
     *     is told (or it was confirmed)
     */
    public int decide(int person, boolean confirmed) {
        Life life = desk.lifeOf(person);
        if (life == null) {
            return UNKNOWN;
        }
        if (!life.isIn(TOLD_DEAD)) {
            return NOT_POSSIBLE;
        }
        history.remember(desk);
        if (confirmed) {
            life.confirmDeath(desk.today());
        } else {
            life.takeBackDeath();
        }
        return desk.personsIn(TOLD_DEAD);
    }

    /**
     * Lets a day pass: the page is printed. This is an act.
     *
     * @return how many lives are printed; FULL if the day of now is 9999
     */
    public int print() {
        if (desk.today() >= LAST_DAY) {
            return FULL;
        }
        history.remember(desk);
        nextPage.lay(desk);
        int printed = nextPage.size();
        for (int i = 0; i < printed; i++) {
            desk.markPrinted(nextPage.personAt(i));
        }
        desk.takeBackOldDeaths();
        desk.beginNextDay();
        return printed;
    }

    /**
     * Corrects a printed life: a fact gets another source. This is an act.
     *
     * @return how many corrections there have been; UNKNOWN (person, fact or source); NOT_POSSIBLE
     *     if the person is not printed; NONE if it has this source
     */
    public int correct(int person, int fact, int source) {
        Life life = desk.lifeOf(person);
        if (life == null || !life.hasFact(fact) || !isSource(source)) {
            return UNKNOWN;
        }
        if (!life.isIn(PRINTED)) {
            return NOT_POSSIBLE;
        }
        if (life.sourceOf(fact) == source) {
            return NONE;
        }
        history.remember(desk);
        life.changeSource(fact, source);
        return desk.countCorrection();
    }

    // ---- texts

    /**
     * Types a character behind the text.
     *
     * @return the length of the text then; FULL if it has 60 characters
     */
    public int type(char character) {
        if (!text.append(character)) {
            return FULL;
        }
        return text.length();
    }

    /**
     * Empties the text.
     *
     * @return the length that it had
     */
    public int clearText() {
        int length = text.length();
        text.clear();
        return length;
    }

    // ---- history

    /**
     * Removes and restores the latest state of the history.
     *
     * @return the number of states that are left; NONE if the history is empty
     */
    public int undo() {
        if (history.size() < 1) {
            return NONE;
        }
        history.takeLatest(desk);
        return history.size();
    }

    /**
     * Takes a snapshot of the state, in place of the one that was.
     *
     * @return the day of now
     */
    public int keep() {
        snapshot.copyFrom(desk);
        hasSnapshot = true;
        return desk.today();
    }

    /**
     * Restores the state of the snapshot, which stays. This is an act.
     *
     * @return the day of now then; NONE if there is no snapshot
     */
    public int restore() {
        if (!hasSnapshot) {
            return NONE;
        }
        history.remember(desk);
        desk.copyFrom(snapshot);
        return desk.today();
    }

    // ---- what is told

    /**
     * Tells of a person: 0 age, 1 rank, 2 state, 3 facts, 4 length, 5 stale facts, 6 different
     * sources, 7 urgency, 8 day of the death, 9 day of printing, 10 whether it could be printed.
     *
     * @return the number; UNKNOWN; BAD_VALUE
     */
    public int person(int person, int what) {
        Life life = desk.lifeOf(person);
        if (life == null) {
            return UNKNOWN;
        }
        switch (what) {
            case 0: return life.age();
            case 1: return life.rank();
            case 2: return life.state();
            case 3: return life.size();
            case 4: return life.length();
            case 5: return desk.staleFactsOf(life, desk.today());
            case 6: return life.differentSources();
            case 7: return life.isIn(ALIVE) ? desk.urgencyOf(life) : NONE;
            case 8: return life.deathDay();
            case 9: return life.printDay();
            case 10: return desk.couldPrint(life) ? 1 : 0;
            default: return BAD_VALUE;
        }
    }

    /**
     * Tells of a fact: 0 source, 1 lines, 2 day on which it was written or checked last, 3 whether
     * it is stale, 4 its worth as bits.
     *
     * @return the number; UNKNOWN (person or fact); BAD_VALUE
     */
    public int fact(int person, int fact, int what) {
        Life life = desk.lifeOf(person);
        if (life == null || !life.hasFact(fact)) {
            return UNKNOWN;
        }
        switch (what) {
            case 0: return life.sourceOf(fact);
            case 1: return life.linesOf(fact);
            case 2: return life.dayOf(fact);
            case 3: return desk.isStale(life, fact) ? 1 : 0;
            case 4: return bitsOf(desk.worthOf(life, fact, desk.today()));
            default: return BAD_VALUE;
        }
    }

    /**
     * Tells the worth of a life.
     *
     * @return the worth of the life; -1.0f if there is no such person
     */
    public float worth(int person) {
        Life life = desk.lifeOf(person);
        if (life == null) {
            return -1.0f;
        }
        return desk.worthOfLife(life);
    }

    /**
     * Tells the persons who are alive in the order of their urgency, the greatest first, of several
     * the lowest number.
     *
     * @return the person; BAD_VALUE if rank is negative; NONE if there are not so many
     */
    public int urgent(int rank) {
        if (rank < 0) {
            return BAD_VALUE;
        }
        desk.rankUrgencies(urgencies);
        return urgencies.personAt(rank);
    }

    /**
     * Tells the lives that the page would print now, in their order.
     *
     * @return the person; BAD_VALUE if rank is negative; NONE if there are not so many
     */
    public int page(int rank) {
        if (rank < 0) {
            return BAD_VALUE;
        }
        nextPage.lay(desk);
        return nextPage.personAt(rank);
    }

    /**
     * Tells of a source: 0 trust, 1 facts that it gave (of all lives), 2 stale ones of these, 3 the
     * lines of its facts together.
     *
     * @return the number; UNKNOWN; BAD_VALUE
     */
    public int source(int source, int what) {
        if (!isSource(source)) {
            return UNKNOWN;
        }
        switch (what) {
            case 0: return desk.trustOf(source);
            case 1: return desk.factsFrom(source);
            case 2: return desk.staleFactsFrom(source);
            case 3: return desk.linesFrom(source);
            default: return BAD_VALUE;
        }
    }

    /**
     * Tells how many facts of all persons who are not printed would be stale when so many days had
     * passed, if nothing was checked.
     *
     * @return how many; BAD_VALUE
     */
    public int staleIn(int days) {
        if (!isWithin(days, 0, MOST_DAYS_AHEAD)) {
            return BAD_VALUE;
        }
        return desk.staleFactsOn(desk.today() + days);
    }

    /**
     * Tells of the desk: 0 day, 1 persons, 2 hours left, 3 to 6 persons who are alive, told dead,
     * dead, printed, 7 facts, 8 stale ones of persons who are not printed, 9 lines that the page
     * would have free, 10 corrections, 11 to 15 settings, 16 states in the history, 17 length of
     * the text.
     *
     * @return the number; BAD_VALUE
     */
    public int count(int what) {
        switch (what) {
            case 0: return desk.today();
            case 1: return desk.persons();
            case 2: return desk.hoursLeft();
            case 3: return desk.personsIn(ALIVE);
            case 4: return desk.personsIn(TOLD_DEAD);
            case 5: return desk.personsIn(DEAD);
            case 6: return desk.personsIn(PRINTED);
            case 7: return desk.facts();
            case 8: return desk.staleFactsOn(desk.today());
            case 9:
                nextPage.lay(desk);
                return nextPage.linesFree();
            case 10: return desk.corrections();
            case 11:
            case 12:
            case 13:
            case 14:
            case 15: return desk.setting(what - 11);
            case 16: return history.size();
            case 17: return text.length();
            default: return BAD_VALUE;
        }
    }

    private static boolean isWithin(int value, int least, int most) {
        return value >= least && value <= most;
    }

    private static boolean isSource(int source) {
        return source >= 0 && source < SOURCES;
    }

    private static boolean isSetting(int which) {
        return which >= 0 && which < SETTINGS;
    }

    /**
     * The same as Float.floatToIntBits for 0.0f to 1.0f, which is all that a worth can be: that
     * function is no part of the library that LANGUAGE.md leaves, and doubling a float is exact.
     */
    private static int bitsOf(float worth) {
        float scaled = worth;
        int exponent = 127;
        while (scaled < 1.0f && exponent > 1) {
            scaled *= 2.0f;
            exponent--;
        }
        if (scaled < 1.0f) {
            return (int) (scaled * 8388608.0f);
        }
        return (exponent << 23) | (int) ((scaled - 1.0f) * 8388608.0f);
    }

    /** A person, with the row of facts that is written ahead. */
    private static final class Life {
        private int age;
        private int rank;
        private int state;
        private int teller = NONE;
        private int deathDay = NONE;
        private int printDay = NONE;
        private int size;
        private final int[] sources = new int[MOST_FACTS];
        private final int[] lines = new int[MOST_FACTS];
        private final int[] days = new int[MOST_FACTS];

        /** Rows are used again, so that whatever an earlier person left here must go. */
        void begin(int newAge, int newRank) {
            age = newAge;
            rank = newRank;
            printDay = NONE;
            size = 0;
            takeBackDeath();
        }

        void copyLife(Life other) {
            age = other.age;
            rank = other.rank;
            state = other.state;
            teller = other.teller;
            deathDay = other.deathDay;
            printDay = other.printDay;
            size = other.size;
            System.arraycopy(other.sources, 0, sources, 0, MOST_FACTS);
            System.arraycopy(other.lines, 0, lines, 0, MOST_FACTS);
            System.arraycopy(other.days, 0, days, 0, MOST_FACTS);
        }

        int age() {
            return age;
        }

        int rank() {
            return rank;
        }

        int state() {
            return state;
        }

        boolean isIn(int wanted) {
            return state == wanted;
        }

        int teller() {
            return teller;
        }

        int deathDay() {
            return deathDay;
        }

        int printDay() {
            return printDay;
        }

        int size() {
            return size;
        }

        void tellDead(int source, int day) {
            state = TOLD_DEAD;
            teller = source;
            deathDay = day;
        }

        void confirmDeath(int day) {
            state = DEAD;
            teller = NONE;
            deathDay = day;
        }

        void takeBackDeath() {
            state = ALIVE;
            teller = NONE;
            deathDay = NONE;
        }

        void becomePrinted(int day) {
            state = PRINTED;
            printDay = day;
        }

        boolean hasFact(int fact) {
            return fact >= 0 && fact < size && fact < MOST_FACTS;
        }

        int sourceOf(int fact) {
            return hasFact(fact) ? sources[fact] : NONE;
        }

        int linesOf(int fact) {
            return hasFact(fact) ? lines[fact] : 0;
        }

        int dayOf(int fact) {
            return hasFact(fact) ? days[fact] : NONE;
        }

        /** Answers the number of the new fact, or FULL if the row has no room. */
        int addFact(int source, int newLines, int day) {
            if (size < 0 || size >= MOST_FACTS) {
                return FULL;
            }
            sources[size] = source;
            lines[size] = newLines;
            days[size] = day;
            size++;
            return size - 1;
        }

        void removeFact(int fact) {
            if (!hasFact(fact)) {
                return;
            }
            for (int i = fact; i < size - 1 && i < MOST_FACTS - 1; i++) {
                sources[i] = sources[i + 1];
                lines[i] = lines[i + 1];
                days[i] = days[i + 1];
            }
            size--;
        }

        void changeSource(int fact, int source) {
            if (hasFact(fact)) {
                sources[fact] = source;
            }
        }

        void changeDay(int fact, int day) {
            if (hasFact(fact)) {
                days[fact] = day;
            }
        }

        int length() {
            int length = 0;
            for (int i = 0; i < size; i++) {
                length += linesOf(i);
            }
            return length;
        }

        int differentSources() {
            int seen = 0;
            for (int i = 0; i < size; i++) {
                seen |= 1 << sourceOf(i);
            }
            return Integer.bitCount(seen);
        }
    }

    /** A state: all that undo and the snapshot bring back, and what follows from it. */
    private static final class Desk {
        private final int[] settings = {8, 40, 30, 2, 3};
        private final int[] trusts = {50, 50, 50, 50, 50, 50};
        private final Life[] lives = new Life[MOST_PERSONS];
        private int persons;
        private int day;
        private int hoursLeft;
        private int corrections;

        Desk() {
            for (int i = 0; i < MOST_PERSONS; i++) {
                lives[i] = new Life();
            }
            hoursLeft = settings[HOURS_OF_DAY];
        }

        void copyFrom(Desk other) {
            System.arraycopy(other.settings, 0, settings, 0, SETTINGS);
            System.arraycopy(other.trusts, 0, trusts, 0, SOURCES);
            persons = other.persons;
            day = other.day;
            hoursLeft = other.hoursLeft;
            corrections = other.corrections;
            for (int i = 0; i < persons; i++) {
                Life mine = lifeOf(i);
                Life theirs = other.lifeOf(i);
                if (mine != null && theirs != null) {
                    mine.copyLife(theirs);
                }
            }
        }

        int today() {
            return day;
        }

        int hoursLeft() {
            return hoursLeft;
        }

        int persons() {
            return persons;
        }

        int corrections() {
            return corrections;
        }

        int roomForPersons() {
            return MOST_PERSONS - persons;
        }

        /** Answers null if there is no such person. */
        Life lifeOf(int person) {
            if (person < 0 || person >= persons || person >= MOST_PERSONS) {
                return null;
            }
            return lives[person];
        }

        /** Answers the number of the new person, or FULL if there is no room. */
        int join(int age, int rank) {
            if (roomForPersons() < 1) {
                return FULL;
            }
            persons++;
            Life life = lifeOf(persons - 1);
            if (life != null) {
                life.begin(age, rank);
            }
            return persons - 1;
        }

        void joinLike(Life model) {
            if (model == null) {
                return;
            }
            Life life = lifeOf(join(model.age(), model.rank()));
            if (life != null) {
                life.copyLife(model);
            }
        }

        void spendHours(int hours) {
            hoursLeft -= hours;
        }

        int setting(int which) {
            return isSetting(which) ? settings[which] : BAD_VALUE;
        }

        void changeSetting(int which, int value) {
            if (isSetting(which)) {
                settings[which] = value;
            }
        }

        int trustOf(int source) {
            return isSource(source) ? trusts[source] : 0;
        }

        void changeTrust(int source, int trust) {
            if (isSource(source)) {
                trusts[source] = trust;
            }
        }

        int countCorrection() {
            corrections++;
            return corrections;
        }

        int personsIn(int state) {
            int found = 0;
            for (int i = 0; i < persons; i++) {
                Life life = lifeOf(i);
                if (life != null && life.isIn(state)) {
                    found++;
                }
            }
            return found;
        }

        int facts() {
            int found = 0;
            for (int i = 0; i < persons; i++) {
                Life life = lifeOf(i);
                if (life != null) {
                    found += life.size();
                }
            }
            return found;
        }

        float worthOf(Life life, int fact, int onDay) {
            float worth = (float) trustOf(life.sourceOf(fact)) / 100.0f;
            int tens = (onDay - life.dayOf(fact)) / 10;
            for (int i = 0; i < tens; i++) {
                worth *= 0.9f;
            }
            return worth;
        }

        float worthOfLife(Life life) {
            float sum = 0.0f;
            for (int i = 0; i < life.size(); i++) {
                sum += worthOf(life, i, day) * (float) life.linesOf(i);
            }
            return sum;
        }

        float bound() {
            return (float) setting(BOUND) / 100.0f;
        }

        boolean isStale(Life life, int fact) {
            return worthOf(life, fact, day) < bound();
        }

        int staleFactsOf(Life life, int onDay) {
            float bound = bound();
            int stale = 0;
            for (int i = 0; i < life.size(); i++) {
                if (worthOf(life, i, onDay) < bound) {
                    stale++;
                }
            }
            return stale;
        }

        /** Counts the stale facts of all who are not printed now. */
        int staleFactsOn(int onDay) {
            int stale = 0;
            for (int i = 0; i < persons; i++) {
                Life life = lifeOf(i);
                if (life != null && !life.isIn(PRINTED)) {
                    stale += staleFactsOf(life, onDay);
                }
            }
            return stale;
        }

        int factsFrom(int source) {
            int found = 0;
            for (int i = 0; i < persons; i++) {
                Life life = lifeOf(i);
                for (int f = 0; life != null && f < life.size(); f++) {
                    if (life.sourceOf(f) == source) {
                        found++;
                    }
                }
            }
            return found;
        }

        int staleFactsFrom(int source) {
            int found = 0;
            for (int i = 0; i < persons; i++) {
                Life life = lifeOf(i);
                for (int f = 0; life != null && f < life.size(); f++) {
                    if (life.sourceOf(f) == source && isStale(life, f)) {
                        found++;
                    }
                }
            }
            return found;
        }

        int linesFrom(int source) {
            int found = 0;
            for (int i = 0; i < persons; i++) {
                Life life = lifeOf(i);
                for (int f = 0; life != null && f < life.size(); f++) {
                    if (life.sourceOf(f) == source) {
                        found += life.linesOf(f);
                    }
                }
            }
            return found;
        }

        int urgencyOf(Life life) {
            int urgency = life.age() + 10 * life.rank() + 5 * staleFactsOf(life, day);
            return life.size() == 0 ? urgency + 40 : urgency;
        }

        void rankUrgencies(Ranking ranking) {
            ranking.clear();
            for (int i = 0; i < persons; i++) {
                Life life = lifeOf(i);
                if (life != null && life.isIn(ALIVE)) {
                    ranking.enter(i, urgencyOf(life));
                }
            }
        }

        /** Answers the first stale fact that was not checked or written today, or NONE. */
        int firstToCheck(Life life) {
            for (int i = 0; i < life.size(); i++) {
                if (life.dayOf(i) != day && isStale(life, i)) {
                    return i;
                }
            }
            return NONE;
        }

        /** Answers null if no hour is left, or no one who is alive has a fact to check. */
        Life mostUrgentToCheck() {
            if (hoursLeft < 1) {
                return null;
            }
            Life best = null;
            int greatest = 0;
            for (int i = 0; i < persons; i++) {
                Life life = lifeOf(i);
                if (life != null && life.isIn(ALIVE) && firstToCheck(life) != NONE) {
                    int urgency = urgencyOf(life);
                    if (best == null || urgency > greatest) {
                        best = life;
                        greatest = urgency;
                    }
                }
            }
            return best;
        }

        void checkToday(Life life, int fact) {
            life.changeDay(fact, day);
            spendHours(1);
        }

        boolean couldPrint(Life life) {
            return life.differentSources() >= setting(LEAST_SOURCES)
                    && staleFactsOf(life, day) == 0;
        }

        void markPrinted(int person) {
            Life life = lifeOf(person);
            if (life != null) {
                life.becomePrinted(day);
            }
        }

        void takeBackOldDeaths() {
            for (int i = 0; i < persons; i++) {
                Life life = lifeOf(i);
                if (life != null && life.isIn(TOLD_DEAD)
                        && day + 1 >= life.deathDay() + setting(DAYS_TOLD)) {
                    life.takeBackDeath();
                }
            }
        }

        void beginNextDay() {
            day++;
            hoursLeft = setting(HOURS_OF_DAY);
        }
    }

    /** Persons by a key, the greatest first; of equal keys the one that was entered first. */
    private static final class Ranking {
        private final int[] persons = new int[MOST_PERSONS];
        private final int[] keys = new int[MOST_PERSONS];
        private int size;

        void clear() {
            size = 0;
        }

        int size() {
            return size;
        }

        void enter(int person, int key) {
            if (size < 0 || size >= MOST_PERSONS) {
                return;
            }
            int place = size;
            while (place > 0 && keys[place - 1] < key) {
                persons[place] = persons[place - 1];
                keys[place] = keys[place - 1];
                place--;
            }
            persons[place] = person;
            keys[place] = key;
            size++;
        }

        /** Answers NONE if there are not so many. */
        int personAt(int rank) {
            return rank >= 0 && rank < size && rank < MOST_PERSONS ? persons[rank] : NONE;
        }
    }

    /** The page as it would be printed now. */
    private static final class Page {
        private final Ranking queue = new Ranking();
        private final int[] persons = new int[MOST_PERSONS];
        private int size;
        private int linesFree;

        void lay(Desk desk) {
            queueDead(desk);
            size = 0;
            linesFree = desk.setting(LINES_OF_PAGE);
            for (int i = 0; i < queue.size() && size < MOST_PERSONS; i++) {
                int person = queue.personAt(i);
                Life life = desk.lifeOf(person);
                if (life != null && desk.couldPrint(life) && life.length() <= linesFree) {
                    linesFree -= life.length();
                    persons[size] = person;
                    size++;
                }
            }
        }

        int size() {
            return size;
        }

        int linesFree() {
            return linesFree;
        }

        /** One key for both: the rank weighs more than any day, and an early day more than a late. */
        private void queueDead(Desk desk) {
            queue.clear();
            for (int i = 0; i < desk.persons(); i++) {
                Life life = desk.lifeOf(i);
                if (life != null && life.isIn(DEAD)) {
                    int earliness = LAST_DAY - life.deathDay();
                    queue.enter(i, life.rank() * (LAST_DAY + 1) + earliness);
                }
            }
        }

        /** Answers NONE if there are not so many. */
        int personAt(int rank) {
            return rank >= 0 && rank < size && rank < MOST_PERSONS ? persons[rank] : NONE;
        }
    }

    /** The latest states, in a ring whose rows are used again. */
    private static final class History {
        private final Desk[] states = new Desk[MOST_STATES];
        private int first;
        private int size;

        History() {
            for (int i = 0; i < MOST_STATES; i++) {
                states[i] = new Desk();
            }
        }

        int size() {
            return size;
        }

        void remember(Desk now) {
            if (size >= MOST_STATES) {
                first = (first + 1) % MOST_STATES;
                size = MOST_STATES - 1;
            }
            Desk state = stateAt(size);
            if (state != null) {
                state.copyFrom(now);
                size++;
            }
        }

        void takeLatest(Desk into) {
            Desk state = stateAt(size - 1);
            if (state != null) {
                into.copyFrom(state);
                size--;
            }
        }

        private Desk stateAt(int place) {
            int index = first + place;
            if (place < 0 || index < 0) {
                return null;
            }
            return states[index % MOST_STATES];
        }
    }

    /** The text that is typed, and the persons that are read from it. */
    private static final class PersonsText {
        /** The shortest persons, as "0r1", take 3 characters, and 1 for the ";" between two. */
        private static final int MOST_READ = (MOST_CHARACTERS + 1) / 4;
        private static final int MOST_AGE_DIGITS = 3;

        private final char[] characters = new char[MOST_CHARACTERS];
        private int length;
        private final Life[] read = new Life[MOST_READ];
        private int personsRead;
        /** The index of the next character; where reading stops, it is the fault. */
        private int at;

        PersonsText() {
            for (int i = 0; i < MOST_READ; i++) {
                read[i] = new Life();
            }
        }

        int length() {
            return length;
        }

        boolean append(char character) {
            if (length < 0 || length >= MOST_CHARACTERS) {
                return false;
            }
            characters[length] = character;
            length++;
            return true;
        }

        void clear() {
            length = 0;
        }

        int fault() {
            return at;
        }

        int personsRead() {
            return personsRead;
        }

        /** Answers null if so many were not read. */
        Life readLife(int place) {
            if (place < 0 || place >= personsRead || place >= MOST_READ) {
                return null;
            }
            return read[place];
        }

        /** Answers whether the whole text is one of persons. */
        boolean readPersons(int today) {
            at = 0;
            personsRead = 0;
            boolean more = true;
            while (more && personsRead < MOST_READ) {
                personsRead++;
                if (!readPerson(readLife(personsRead - 1), today)) {
                    return false;
                }
                more = takes(';');
            }
            return !more && at == length;
        }

        private boolean readPerson(Life life, int today) {
            int age = takeAge();
            if (life == null || age == NONE || !takes('r')) {
                return false;
            }
            int rank = takeDigit(1, MOST_RANK);
            if (rank == NONE) {
                return false;
            }
            life.begin(age, rank);
            for (int i = 0; i < MOST_FACTS && takes(','); i++) {
                if (!readFact(life, today)) {
                    return false;
                }
            }
            return true;
        }

        private boolean readFact(Life life, int today) {
            int source = takeDigit(0, SOURCES - 1);
            if (source == NONE || !takes('x')) {
                return false;
            }
            int lines = takeDigit(1, MOST_LINES);
            if (lines == NONE) {
                return false;
            }
            life.addFact(source, lines, today);
            return true;
        }

        /** Stops before a digit behind a zero in front, and before one that makes it too great. */
        private int takeAge() {
            int age = takeDigit(0, 9);
            boolean more = age > 0;
            for (int i = 1; i < MOST_AGE_DIGITS && more; i++) {
                int digit = takeDigit(0, Math.min(9, MOST_AGE - 10 * age));
                more = digit != NONE;
                if (more) {
                    age = 10 * age + digit;
                }
            }
            return age;
        }

        /** Answers NONE, and takes nothing, if no such digit comes next. */
        private int takeDigit(int least, int most) {
            if (at < 0 || at >= length || at >= MOST_CHARACTERS) {
                return NONE;
            }
            int digit = characters[at] - '0';
            if (!isWithin(digit, least, most)) {
                return NONE;
            }
            at++;
            return digit;
        }

        private boolean takes(char wanted) {
            if (at < 0 || at >= length || at >= MOST_CHARACTERS || characters[at] != wanted) {
                return false;
            }
            at++;
            return true;
        }
    }
}
