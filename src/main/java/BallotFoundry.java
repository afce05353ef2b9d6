import java.util.Arrays;

/** A voters' roll, its polling stations and its counting house. */
public final class BallotFoundry {
    public static final int NONE = -1;
    public static final int BLANK = 5;
    public static final int NO_ELECTION = 0, CALLED = 1, EARLY = 2, VOTING = 3, COUNTING = 4, DONE = 5;
    public static final int SEALED = 0, VOID = 1, OPENED = 2;

    private static final int ROW = 6;
    private static final int CROSSINGS = ROW * ROW;
    private static final int MOST_PEOPLE = 20;
    private static final int MOST_STATIONS = 5;
    private static final int MOST_STATION_SEATS = 20;
    private static final int PARTIES = 5;
    private static final int KINDS = PARTIES + 1;
    private static final int CLERKS = 4;
    private static final int MOST_COUNTS = 8;
    private static final int MOST_ENVELOPES = 60;
    private static final int MOST_PARTY_SEATS = 30;
    private static final int MOST_SLIP = 20;
    private static final int MOST_SEED = 9999;
    private static final int LAST_AGE = 2000;
    private static final int LAST_ELECTION_DAY = 2000;
    private static final int LAST_DAY = 2100;
    private static final int LEAST_AHEAD = 8;
    private static final int MOST_AHEAD = 100;
    private static final int MOST_DAYS = 100;
    private static final int ROLL_AHEAD = 7;
    // 512 calls write at most one note each, and one more for each of 60 envelopes.
    private static final int MOST_NOTES = 512 + MOST_ENVELOPES;

    private final Town town = new Town();
    private final Person[] people = new Person[MOST_PEOPLE];
    private int peopleHere = 0;
    private final Stations stations = new Stations();
    private final int[] slips = new int[CLERKS];
    private int now = 0;
    private final Election election = new Election();
    private final SeatGiving giving = new SeatGiving();

    public BallotFoundry() {
        for (int person = 0; person < MOST_PEOPLE; person++) {
            people[person] = new Person();
        }
    }

    // ---- the town

    public boolean bar(int one, int other, boolean isBarred)
            throws IndexOutOfBoundsException, IllegalArgumentException {
        needCrossing(one);
        needCrossing(other);
        int street = Town.streetBetween(one, other);
        if (street == NONE) {
            throw new IllegalArgumentException("no street between the crossings");
        }
        return town.setBarred(street, isBarred);
    }

    public int way(int one, int other) throws IndexOutOfBoundsException {
        needCrossing(one);
        needCrossing(other);
        town.measureFrom(one);
        return town.measuredTo(other);
    }

    public int station(int crossing, int seats)
            throws IndexOutOfBoundsException, IllegalArgumentException, IllegalStateException {
        needCrossing(crossing);
        needRange(seats, 0, MOST_STATION_SEATS);
        if (stations.size >= MOST_STATIONS) {
            throw new IllegalStateException("no more stations");
        }
        return stations.add(crossing, seats);
    }

    public int setSeats(int station, int seats) throws IndexOutOfBoundsException, IllegalArgumentException {
        needStation(station);
        needRange(seats, 0, MOST_STATION_SEATS);
        int before = stations.seats[station];
        stations.seats[station] = seats;
        return before;
    }

    // ---- people

    public int person(int crossing, int age)
            throws IndexOutOfBoundsException, IllegalArgumentException, IllegalStateException {
        needCrossing(crossing);
        needRange(age, 0, LAST_AGE);
        if (peopleHere >= MOST_PEOPLE) {
            throw new IllegalStateException("no more people");
        }
        int number = peopleHere;
        people[number].age = age;
        people[number].latest = new Stay(now, crossing, null);
        peopleHere++;
        return number;
    }

    public int move(int person, int crossing) throws IndexOutOfBoundsException, IllegalStateException {
        Person who = personAt(person);
        needCrossing(crossing);
        needAlive(who);
        int before = who.crossingOn(now);
        who.latest = new Stay(now, crossing, who.latest);
        return before;
    }

    public boolean die(int person) throws IndexOutOfBoundsException, IllegalStateException {
        Person who = personAt(person);
        needAlive(who);
        who.hasDied = true;
        return voidEnvelopeOf(person);
    }

    public int dwells(int person, int day) throws IndexOutOfBoundsException, IllegalArgumentException {
        Person who = personAt(person);
        needRange(day, 0, now);
        return who.crossingOn(day);
    }

    // ---- elections

    public int call(int ahead, int seats, boolean isOdd) throws IllegalArgumentException, IllegalStateException {
        needRange(ahead, LEAST_AHEAD, MOST_AHEAD);
        needRange(seats, 0, MOST_PARTY_SEATS);
        if (election.stage != NO_ELECTION && election.stage != DONE) {
            throw new IllegalStateException("the latest election is not done");
        }
        if (stations.size == 0) {
            throw new IllegalStateException("no station");
        }
        if (now + ahead > LAST_ELECTION_DAY) {
            throw new IllegalStateException("too late a day for an election");
        }
        election.start(now + ahead, seats, isOdd);
        return election.day;
    }

    public int seed(int party, int seed)
            throws IndexOutOfBoundsException, IllegalArgumentException, IllegalStateException {
        needParty(party);
        needRange(seed, 0, MOST_SEED);
        if (election.stage != CALLED && election.stage != EARLY) {
            throw new IllegalStateException("no seeds are told now");
        }
        int before = election.seeds[party];
        election.seeds[party] = seed;
        return before;
    }

    public int advance(int days) throws IllegalArgumentException, IllegalStateException {
        needRange(days, 1, MOST_DAYS);
        if (now + days > LAST_DAY) {
            throw new IllegalStateException("too late a day");
        }
        for (int passed = 0; passed < days; passed++) {
            now++;
            beginDay();
        }
        return now;
    }

    public int today() {
        return now;
    }

    public int stage() {
        return election.stage;
    }

    public boolean isOnRoll(int person) throws IndexOutOfBoundsException {
        needPerson(person);
        return election.roll.stationFor(person) != NONE;
    }

    public int stationOf(int person) throws IndexOutOfBoundsException {
        needPerson(person);
        return election.roll.stationFor(person);
    }

    public int peopleOf(int station) throws IndexOutOfBoundsException {
        needStation(station);
        return election.roll.peopleAt(station);
    }

    // ---- votes

    public int early(int person, int party)
            throws IndexOutOfBoundsException, IllegalArgumentException, IllegalStateException {
        Person who = personAt(person);
        needRange(party, 0, BLANK);
        needStage(EARLY);
        needAlive(who);
        needOnRoll(person);
        if (election.envelopes.size >= MOST_ENVELOPES) {
            throw new IllegalStateException("no more envelopes");
        }
        voidEnvelopeOf(person);
        election.book.write(now, 'e', person);
        return election.envelopes.add(person, party);
    }

    public int vote(int person, int station, int party)
            throws IndexOutOfBoundsException, IllegalArgumentException, IllegalStateException {
        Person who = personAt(person);
        needStation(station);
        needRange(party, 0, BLANK);
        needStage(VOTING);
        needAlive(who);
        needOnRoll(person);
        if (election.roll.hasVoted[person]) {
            throw new IllegalStateException("the person has voted");
        }
        if (election.roll.stationFor(person) != station) {
            throw new IllegalStateException("another station is the person's");
        }
        voidEnvelopeOf(person);
        election.book.write(now, 'v', person);
        election.castFor(person, party);
        return election.boxes[station].size;
    }

    public int open(int person) throws IndexOutOfBoundsException, IllegalStateException {
        needPerson(person);
        needStage(VOTING);
        int envelope = election.envelopes.sealedOf(person);
        if (envelope == NONE) {
            throw new IllegalStateException("no sealed envelope");
        }
        election.openEnvelope(envelope, 'o');
        return envelope;
    }

    public int envelopes() {
        return election.envelopes.size;
    }

    public int stateOf(int envelope) throws IndexOutOfBoundsException {
        needEnvelope(envelope);
        return election.envelopes.states[envelope];
    }

    public int personOf(int envelope) throws IndexOutOfBoundsException {
        needEnvelope(envelope);
        return election.envelopes.people[envelope];
    }

    public int ballots(int station) throws IndexOutOfBoundsException {
        needStation(station);
        return election.boxes[station].size;
    }

    // ---- counting

    public int setSlip(int clerk, int slip) throws IndexOutOfBoundsException, IllegalArgumentException {
        needClerk(clerk);
        needRange(slip, 0, MOST_SLIP);
        if (slip == 1) {
            throw new IllegalArgumentException("a slip at each ballot");
        }
        int before = slips[clerk];
        slips[clerk] = slip;
        return before;
    }

    public boolean count(int station, int clerk) throws IndexOutOfBoundsException, IllegalStateException {
        needStation(station);
        needClerk(clerk);
        needStage(COUNTING);
        Box box = election.boxes[station];
        if (station >= election.stationsOfIt) {
            throw new IllegalStateException("no station of the election");
        }
        if (box.hasNumbers()) {
            throw new IllegalStateException("the station is settled");
        }
        if (box.counts >= MOST_COUNTS) {
            throw new IllegalStateException("no more counts");
        }
        election.book.write(now, 'c', station);
        box.countBy(clerk, slips[clerk]);
        if (election.isAllSettled()) {
            election.stage = DONE;
        }
        return box.hasNumbers();
    }

    public int recount(int station) throws IndexOutOfBoundsException, IllegalStateException {
        needStation(station);
        needStage(COUNTING);
        return election.boxes[station].dropCounts();
    }

    public boolean isSettled(int station) throws IndexOutOfBoundsException {
        needStation(station);
        return election.boxes[station].hasNumbers();
    }

    public int numberOf(int station, int party) throws IndexOutOfBoundsException, IllegalArgumentException {
        needStation(station);
        needRange(party, 0, BLANK);
        return election.boxes[station].settledNumber(party);
    }

    public int misread(int station) throws IndexOutOfBoundsException {
        needStation(station);
        return election.boxes[station].lostByReading();
    }

    // ---- seats

    public int votes(int party) throws IndexOutOfBoundsException {
        needParty(party);
        if (election.stage != DONE) {
            return NONE;
        }
        return election.numbersFor(party);
    }

    public int seats(int party) throws IndexOutOfBoundsException {
        needParty(party);
        if (election.stage != DONE) {
            return NONE;
        }
        giveByNumbers();
        return giving.seats[party];
    }

    public int seatAt(int place) throws IndexOutOfBoundsException {
        if (place < 0) {
            throw new IndexOutOfBoundsException("no such place");
        }
        if (election.stage != DONE) {
            return NONE;
        }
        giveByNumbers();
        return giving.partyAt(place);
    }

    public int lots() {
        if (election.stage != DONE) {
            return NONE;
        }
        giveByNumbers();
        return giving.lotsDrawn;
    }

    public int seatsByBallots(int party) throws IndexOutOfBoundsException {
        needParty(party);
        if (election.stage != COUNTING && election.stage != DONE) {
            return NONE;
        }
        giveByBallots();
        return giving.seats[party];
    }

    // ---- the book

    public int notes() {
        return election.book.size;
    }

    public int signAt(int note, int place) throws IndexOutOfBoundsException {
        if (note < 0 || note >= election.book.size) {
            throw new IndexOutOfBoundsException("no such note");
        }
        if (place < 0) {
            throw new IndexOutOfBoundsException("no such place");
        }
        return election.book.characterAt(note, place);
    }

    // ---- what a call needs

    private static void needCrossing(int crossing) {
        if (crossing < 0 || crossing >= CROSSINGS) {
            throw new IndexOutOfBoundsException("no such crossing");
        }
    }

    private void needStation(int station) {
        if (station < 0 || station >= stations.size) {
            throw new IndexOutOfBoundsException("no such station");
        }
    }

    private void needPerson(int person) {
        if (person < 0 || person >= peopleHere) {
            throw new IndexOutOfBoundsException("no such person");
        }
    }

    private Person personAt(int person) {
        needPerson(person);
        return people[person];
    }

    private static void needParty(int party) {
        if (party < 0 || party >= PARTIES) {
            throw new IndexOutOfBoundsException("no such party");
        }
    }

    private static void needClerk(int clerk) {
        if (clerk < 0 || clerk >= CLERKS) {
            throw new IndexOutOfBoundsException("no such clerk");
        }
    }

    private void needEnvelope(int envelope) {
        if (envelope < 0 || envelope >= election.envelopes.size) {
            throw new IndexOutOfBoundsException("no such envelope");
        }
    }

    private static void needRange(int value, int least, int most) {
        if (value < least || value > most) {
            throw new IllegalArgumentException("out of range");
        }
    }

    private void needStage(int stage) {
        if (election.stage != stage) {
            throw new IllegalStateException("another stage");
        }
    }

    private static void needAlive(Person who) {
        if (who.hasDied) {
            throw new IllegalStateException("the person has died");
        }
    }

    private void needOnRoll(int person) {
        if (election.roll.stationFor(person) == NONE) {
            throw new IllegalStateException("the person is not on the roll");
        }
    }

    // ---- what happens by days

    private void beginDay() {
        if (election.stage == CALLED && now == election.day - ROLL_AHEAD + 1) {
            makeRoll();
            election.stage = EARLY;
        } else if (election.stage == EARLY && now == election.day) {
            election.stage = VOTING;
        } else if (election.stage == VOTING && now == election.day + 1) {
            election.openAllSealed();
            election.stage = COUNTING;
        }
    }

    private void makeRoll() {
        election.stationsOfIt = stations.size;
        int rollDay = election.day - ROLL_AHEAD;
        for (int person = 0; person < peopleHere; person++) {
            Person who = people[person];
            if (!who.hasDied && who.age <= election.day) {
                town.measureFrom(who.crossingOn(rollDay));
                election.roll.enter(person, chooseStation());
            }
        }
    }

    private int chooseStation() {
        int nearest = nearestWithSeat();
        if (nearest != NONE) {
            return nearest;
        }
        int emptiest = emptiestWithWay();
        return emptiest != NONE ? emptiest : 0;
    }

    private int nearestWithSeat() {
        int nearest = NONE;
        int shortest = 0;
        for (int station = 0; station < stations.size; station++) {
            int streets = town.measuredTo(stations.crossings[station]);
            boolean hasSeat = election.roll.peopleAt(station) < stations.seats[station];
            if (streets != NONE && hasSeat && (nearest == NONE || streets < shortest)) {
                nearest = station;
                shortest = streets;
            }
        }
        return nearest;
    }

    private int emptiestWithWay() {
        int emptiest = NONE;
        int fewest = 0;
        for (int station = 0; station < stations.size; station++) {
            int streets = town.measuredTo(stations.crossings[station]);
            int there = election.roll.peopleAt(station);
            if (streets != NONE && (emptiest == NONE || there < fewest)) {
                emptiest = station;
                fewest = there;
            }
        }
        return emptiest;
    }

    private boolean voidEnvelopeOf(int person) {
        int envelope = election.envelopes.sealedOf(person);
        if (envelope == NONE) {
            return false;
        }
        election.envelopes.states[envelope] = VOID;
        election.book.write(now, 'x', person);
        return true;
    }

    private void giveByNumbers() {
        for (int party = 0; party < PARTIES; party++) {
            giving.votes[party] = election.numbersFor(party);
        }
        giving.give(election.partySeats, election.isOdd, election.sumOfSeeds());
    }

    private void giveByBallots() {
        for (int party = 0; party < PARTIES; party++) {
            giving.votes[party] = election.ballotsFor(party);
        }
        giving.give(election.partySeats, election.isOdd, election.sumOfSeeds());
    }

    /** The crossings, and the streets between them that can be barred. */
    private static final class Town {
        // A crossing has the street to its right at its number twice, the one below it behind that.
        private final boolean[] barred = new boolean[2 * CROSSINGS];
        private final int[] measured = new int[CROSSINGS];
        private final int[] reached = new int[CROSSINGS];

        static int streetBetween(int one, int other) {
            int low = one < other ? one : other;
            int high = one < other ? other : one;
            if (low < 0 || high >= CROSSINGS) {
                return NONE;
            }
            if (high - low == ROW) {
                return 2 * low + 1;
            }
            if (high - low == 1 && high % ROW != 0) {
                return 2 * low;
            }
            return NONE;
        }

        boolean setBarred(int street, boolean isBarred) {
            if (street < 0 || street >= barred.length) {
                return false;
            }
            boolean wasBarred = barred[street];
            barred[street] = isBarred;
            return wasBarred;
        }

        /** Measures the ways from a crossing to all, for measuredTo. */
        void measureFrom(int start) {
            Arrays.fill(measured, NONE);
            if (start < 0 || start >= CROSSINGS) {
                return;
            }
            measured[start] = 0;
            reached[0] = start;
            int ends = 1;
            for (int place = 0; place < ends && place < CROSSINGS; place++) {
                int from = reached[place];
                ends = reach(from, from - ROW, ends);
                ends = reach(from, from - 1, ends);
                ends = reach(from, from + 1, ends);
                ends = reach(from, from + ROW, ends);
            }
        }

        private int reach(int from, int to, int ends) {
            int street = streetBetween(from, to);
            if (street == NONE || barred[street] || measured[to] != NONE || ends >= CROSSINGS) {
                return ends;
            }
            measured[to] = measured[from] + 1;
            reached[ends] = to;
            return ends + 1;
        }

        int measuredTo(int crossing) {
            if (crossing < 0 || crossing >= CROSSINGS) {
                return NONE;
            }
            return measured[crossing];
        }
    }

    private static final class Stations {
        private final int[] crossings = new int[MOST_STATIONS];
        private final int[] seats = new int[MOST_STATIONS];
        private int size = 0;

        int add(int crossing, int seatsThere) {
            if (size >= MOST_STATIONS) {
                return NONE;
            }
            crossings[size] = crossing;
            seats[size] = seatsThere;
            size++;
            return size - 1;
        }
    }

    /** Where a person dwells from a day on, and the stay ahead of it. */
    private static final class Stay {
        private final int day;
        private final int crossing;
        private final Stay earlier;

        Stay(int day, int crossing, Stay earlier) {
            this.day = day;
            this.crossing = crossing;
            this.earlier = earlier;
        }
    }

    private static final class Person {
        private int age = 0;
        private Stay latest = null;
        private boolean hasDied = false;

        int crossingOn(int day) {
            for (Stay stay = latest; stay != null; stay = stay.earlier) {
                if (stay.day <= day) {
                    return stay.crossing;
                }
            }
            return NONE;
        }
    }

    /** The latest election, made anew by each that is called. */
    private static final class Election {
        private int stage = NO_ELECTION;
        private int day = 0;
        private int partySeats = 0;
        private boolean isOdd = false;
        private int stationsOfIt = 0;
        private final int[] seeds = new int[PARTIES];
        private final Roll roll = new Roll();
        private final Envelopes envelopes = new Envelopes();
        private final Box[] boxes = new Box[MOST_STATIONS];
        private final Book book = new Book();

        Election() {
            for (int station = 0; station < MOST_STATIONS; station++) {
                boxes[station] = new Box();
            }
        }

        void start(int itsDay, int seatsToGive, boolean isByOddOnes) {
            stage = CALLED;
            day = itsDay;
            partySeats = seatsToGive;
            isOdd = isByOddOnes;
            stationsOfIt = 0;
            Arrays.fill(seeds, 0);
            roll.clear();
            envelopes.size = 0;
            for (int station = 0; station < MOST_STATIONS; station++) {
                boxes[station].clear();
            }
            book.size = 0;
        }

        void castFor(int person, int ballot) {
            int station = roll.stationFor(person);
            if (station < 0 || station >= MOST_STATIONS) {
                return;
            }
            boxes[station].put(ballot);
            roll.hasVoted[person] = true;
        }

        void openEnvelope(int envelope, char sign) {
            if (envelope < 0 || envelope >= envelopes.size) {
                return;
            }
            int person = envelopes.people[envelope];
            envelopes.states[envelope] = OPENED;
            book.write(day, sign, person);
            castFor(person, envelopes.ballots[envelope]);
        }

        void openAllSealed() {
            for (int envelope = 0; envelope < envelopes.size; envelope++) {
                if (envelopes.states[envelope] == SEALED) {
                    openEnvelope(envelope, 's');
                }
            }
        }

        boolean isAllSettled() {
            for (int station = 0; station < stationsOfIt; station++) {
                if (!boxes[station].hasNumbers()) {
                    return false;
                }
            }
            return true;
        }

        int numbersFor(int party) {
            int sum = 0;
            for (int station = 0; station < stationsOfIt; station++) {
                sum += boxes[station].settledNumber(party);
            }
            return sum;
        }

        int ballotsFor(int party) {
            int sum = 0;
            for (int station = 0; station < stationsOfIt; station++) {
                sum += boxes[station].ballotsFor(party);
            }
            return sum;
        }

        int sumOfSeeds() {
            int sum = 0;
            for (int party = 0; party < PARTIES; party++) {
                sum += seeds[party];
            }
            return sum;
        }
    }

    /** Who may vote, where, and who has. */
    private static final class Roll {
        private final int[] stationsOfPeople = new int[MOST_PEOPLE];
        private final int[] peopleOfStations = new int[MOST_STATIONS];
        private final boolean[] hasVoted = new boolean[MOST_PEOPLE];

        Roll() {
            Arrays.fill(stationsOfPeople, NONE);
        }

        void clear() {
            Arrays.fill(stationsOfPeople, NONE);
            Arrays.fill(peopleOfStations, 0);
            for (int person = 0; person < MOST_PEOPLE; person++) {
                hasVoted[person] = false;
            }
        }

        void enter(int person, int station) {
            if (person < 0 || person >= MOST_PEOPLE || station < 0 || station >= MOST_STATIONS) {
                return;
            }
            stationsOfPeople[person] = station;
            peopleOfStations[station]++;
        }

        int stationFor(int person) {
            if (person < 0 || person >= MOST_PEOPLE) {
                return NONE;
            }
            return stationsOfPeople[person];
        }

        int peopleAt(int station) {
            if (station < 0 || station >= MOST_STATIONS) {
                return 0;
            }
            return peopleOfStations[station];
        }
    }

    private static final class Envelopes {
        private final int[] people = new int[MOST_ENVELOPES];
        private final int[] ballots = new int[MOST_ENVELOPES];
        private final int[] states = new int[MOST_ENVELOPES];
        private int size = 0;

        int add(int person, int ballot) {
            if (size >= MOST_ENVELOPES) {
                return NONE;
            }
            people[size] = person;
            ballots[size] = ballot;
            states[size] = SEALED;
            size++;
            return size - 1;
        }

        int sealedOf(int person) {
            for (int envelope = 0; envelope < size; envelope++) {
                if (people[envelope] == person && states[envelope] == SEALED) {
                    return envelope;
                }
            }
            return NONE;
        }
    }

    /** The box of a station, and its counts. */
    private static final class Box {
        private final int[] ballots = new int[MOST_PEOPLE];
        private int size = 0;
        private final int[] clerks = new int[MOST_COUNTS];
        private final int[][] numbers = new int[MOST_COUNTS][KINDS];
        private int counts = 0;
        private int settledBy = NONE;

        void clear() {
            size = 0;
            counts = 0;
            settledBy = NONE;
        }

        void put(int ballot) {
            if (size < MOST_PEOPLE) {
                ballots[size] = ballot;
                size++;
            }
        }

        void countBy(int clerk, int slip) {
            if (counts >= MOST_COUNTS) {
                return;
            }
            clerks[counts] = clerk;
            readBallots(numbers[counts], slip);
            for (int earlier = 0; earlier < counts; earlier++) {
                if (clerks[earlier] != clerk && isAlike(numbers[earlier], numbers[counts])) {
                    settledBy = counts;
                }
            }
            counts++;
        }

        private void readBallots(int[] into, int slip) {
            Arrays.fill(into, 0);
            for (int place = 0; place < size; place++) {
                boolean isSlipped = slip > 0 && (place + 1) % slip == 0;
                int kind = isSlipped ? (ballots[place] + 1) % KINDS : ballots[place];
                if (kind >= 0 && kind < into.length) {
                    into[kind]++;
                }
            }
        }

        private static boolean isAlike(int[] some, int[] others) {
            for (int kind = 0; kind < some.length && kind < others.length; kind++) {
                if (some[kind] != others[kind]) {
                    return false;
                }
            }
            return true;
        }

        int dropCounts() {
            int dropped = counts;
            counts = 0;
            settledBy = NONE;
            return dropped;
        }

        boolean hasNumbers() {
            return settledBy != NONE;
        }

        int settledNumber(int kind) {
            if (settledBy < 0 || settledBy >= MOST_COUNTS || kind < 0 || kind >= KINDS) {
                return NONE;
            }
            return numbers[settledBy][kind];
        }

        int ballotsFor(int kind) {
            int found = 0;
            for (int place = 0; place < size; place++) {
                if (ballots[place] == kind) {
                    found++;
                }
            }
            return found;
        }

        int lostByReading() {
            if (!hasNumbers()) {
                return NONE;
            }
            int lost = 0;
            for (int kind = 0; kind < KINDS; kind++) {
                lost += Math.max(0, ballotsFor(kind) - settledNumber(kind));
            }
            return lost;
        }
    }

    /** Gives seats by quotients of votes, with ties by lot. */
    private static final class SeatGiving {
        private final int[] votes = new int[PARTIES];
        private final int[] seats = new int[PARTIES];
        private final int[] parties = new int[MOST_PARTY_SEATS];
        private final int[] tied = new int[PARTIES];
        private int given = 0;
        private int lotsDrawn = 0;
        private int number = 0;

        void give(int seatsToGive, boolean isOdd, int firstNumber) {
            Arrays.fill(seats, 0);
            given = 0;
            lotsDrawn = 0;
            number = firstNumber;
            for (int place = 0; place < seatsToGive && place < MOST_PARTY_SEATS; place++) {
                int party = nextParty(isOdd);
                if (party < 0 || party >= PARTIES) {
                    return;
                }
                parties[place] = party;
                seats[party]++;
                given++;
            }
        }

        int partyAt(int place) {
            if (place < 0 || place >= given || place >= MOST_PARTY_SEATS) {
                return NONE;
            }
            return parties[place];
        }

        private int nextParty(boolean isOdd) {
            int ties = findGreatest(isOdd);
            if (ties <= 0) {
                return NONE;
            }
            if (ties == 1) {
                return tied[0];
            }
            int drawn = drawLot(ties);
            return drawn < 0 || drawn >= PARTIES ? NONE : tied[drawn];
        }

        /** Puts the parties with the greatest quotient into tied, and answers how many they are. */
        private int findGreatest(boolean isOdd) {
            int ties = 0;
            for (int party = 0; party < PARTIES; party++) {
                if (votes[party] <= 0) {
                    continue;
                }
                int compared = ties == 0 ? 0 : compareQuotients(party, tied[0], isOdd);
                if (compared > 0) {
                    ties = 0;
                }
                if (compared >= 0 && ties < PARTIES) {
                    tied[ties] = party;
                    ties++;
                }
            }
            return ties;
        }

        private int compareQuotients(int one, int other, boolean isOdd) {
            // a / b against c / d is a * d against c * b, without any rounding
            return Integer.compare(votes[one] * divisor(other, isOdd), votes[other] * divisor(one, isOdd));
        }

        private int divisor(int party, boolean isOdd) {
            return isOdd ? 2 * seats[party] + 1 : seats[party] + 1;
        }

        private int drawLot(int ties) {
            number = (number * 1103 + 12345) % 65536;
            lotsDrawn++;
            return ties > 0 ? number % ties : NONE;
        }
    }

    /** The notes of an election, in the order in which they happen. */
    private static final class Book {
        private final int[] days = new int[MOST_NOTES];
        private final char[] signs = new char[MOST_NOTES];
        private final int[] numbers = new int[MOST_NOTES];
        private final StringBuilder text = new StringBuilder();
        private int size = 0;

        void write(int day, char sign, int number) {
            if (size >= MOST_NOTES) {
                return;
            }
            days[size] = day;
            signs[size] = sign;
            numbers[size] = number;
            size++;
        }

        int characterAt(int note, int place) {
            if (note < 0 || note >= size) {
                return NONE;
            }
            text.setLength(0);
            text.append(days[note]);
            text.append(signs[note]);
            text.append(numbers[note]);
            if (place < 0 || place >= text.length()) {
                return NONE;
            }
            return (int) text.charAt(place);
        }
    }
}
