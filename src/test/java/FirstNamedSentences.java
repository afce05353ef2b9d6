/** Terms: where several exceptions apply, for each call that has several. */
final class FirstNamedSentences {
    private static final String WORDS =
        "if several exceptions apply, the one that its @throws lines name first is thrown.";

    private FirstNamedSentences() {
    }

    @Sentence(WORDS)
    @Broken(at = "public boolean bar(", from = "needCrossing(one);",
        to = "if (Town.streetBetween(one, other) == NONE) { throw new IllegalArgumentException(); } needCrossing(one);")
    static void ofBar(Check check) {
        BallotFoundry x = new BallotFoundry();
        check.fails("no crossing, so no street", Check.INDEX, () -> x.bar(35, 36, true));
        check.fails("no crossings, side by side", Check.INDEX, () -> x.bar(-2, -1, true));
    }

    @Sentence(WORDS)
    @Broken(at = "public int station(", from = "needCrossing(crossing);",
        to = "needRange(seats, 0, MOST_STATION_SEATS); needCrossing(crossing);")
    @Broken(at = "public int station(", from = "needCrossing(crossing);",
        to = "if (stations.size >= MOST_STATIONS) { throw new IllegalStateException(); } needCrossing(crossing);")
    @Broken(at = "public int station(", from = "needRange(seats",
        to = "if (stations.size >= MOST_STATIONS) { throw new IllegalStateException(); } needRange(seats")
    static void ofStation(Check check) {
        BallotFoundry x = new BallotFoundry();
        check.fails("no crossing, and seats out of range", Check.INDEX, () -> x.station(36, 21));
        for (int station = 0; station < 5; station++) {
            x.station(station, 0);
        }
        check.fails("no crossing, and 5 stations", Check.INDEX, () -> x.station(-1, 0));
        check.fails("seats out of range, and 5 stations", Check.ARGUMENT, () -> x.station(0, -1));
        check.fails("all three", Check.INDEX, () -> x.station(36, -1));
    }

    @Sentence(WORDS)
    @Broken(at = "public int setSeats(", from = "needStation(station);",
        to = "needRange(seats, 0, MOST_STATION_SEATS); needStation(station);")
    static void ofSetSeats(Check check) {
        BallotFoundry x = Ready.town(0);
        check.fails("no station, and seats out of range", Check.INDEX, () -> x.setSeats(1, 21));
    }

    @Sentence(WORDS)
    @Broken(at = "public int person(", from = "needCrossing(crossing);",
        to = "needRange(age, 0, LAST_AGE); needCrossing(crossing);")
    @Broken(at = "public int person(", from = "needCrossing(crossing);",
        to = "if (peopleHere >= MOST_PEOPLE) { throw new IllegalStateException(); } needCrossing(crossing);")
    @Broken(at = "public int person(", from = "needRange(age",
        to = "if (peopleHere >= MOST_PEOPLE) { throw new IllegalStateException(); } needRange(age")
    static void ofPerson(Check check) {
        BallotFoundry x = new BallotFoundry();
        check.fails("no crossing, and the age out of range", Check.INDEX, () -> x.person(36, 2001));
        Ready.settlers(x, 20, 0);
        check.fails("no crossing, and 20 people", Check.INDEX, () -> x.person(-1, 0));
        check.fails("the age out of range, and 20 people", Check.ARGUMENT, () -> x.person(0, -1));
        check.fails("all three", Check.INDEX, () -> x.person(36, -1));
    }

    @Sentence(WORDS)
    @Broken(at = "public int move(", from = "needCrossing(crossing);", to = "needAlive(who); needCrossing(crossing);")
    static void ofMove(Check check) {
        BallotFoundry x = Ready.town(1);
        x.die(0);
        check.fails("no crossing, and dead", Check.INDEX, () -> x.move(0, 36));
    }

    @Sentence(WORDS)
    @Broken(at = "public int dwells(", from = "Person who", to = "needRange(day, 0, now); Person who")
    static void ofDwells(Check check) {
        BallotFoundry x = Ready.town(1);
        check.fails("no person, and the day out of range", Check.INDEX, () -> x.dwells(1, 1));
    }

    @Sentence(WORDS)
    @Broken(at = "public int call(", from = "needRange(ahead",
        to = "if (election.stage == CALLED) { throw new IllegalStateException(); } needRange(ahead")
    @Broken(at = "public int call(", from = "needRange(ahead",
        to = "if (stations.size == 0) { throw new IllegalStateException(); } needRange(ahead")
    @Broken(at = "public int call(", from = "needRange(seats",
        to = "if (now + ahead > LAST_ELECTION_DAY) { throw new IllegalStateException(); } needRange(seats")
    static void ofCall(Check check) {
        BallotFoundry x = Ready.called(0);
        check.fails("called, and ahead out of range", Check.ARGUMENT, () -> x.call(7, 0, false));
        check.fails("called, and seats out of range", Check.ARGUMENT, () -> x.call(8, 31, false));
        BallotFoundry y = new BallotFoundry();
        check.fails("no station, and ahead out of range", Check.ARGUMENT, () -> y.call(101, 0, false));
        check.fails("no station, and seats out of range", Check.ARGUMENT, () -> y.call(8, -1, false));
        BallotFoundry z = Ready.on(1990);
        check.fails("above the day 2000, and seats out of range", Check.ARGUMENT, () -> z.call(11, 31, false));
        check.fails("above the day 2000, and ahead out of range", Check.ARGUMENT, () -> z.call(101, 0, false));
    }

    @Sentence(WORDS)
    @Broken(at = "public int seed(", from = "needParty(party);",
        to = "needRange(seed, 0, MOST_SEED); needParty(party);")
    @Broken(at = "public int seed(", from = "needParty(party);", to = "needStage(CALLED); needParty(party);")
    @Broken(at = "public int seed(", from = "needRange(seed", to = "needStage(CALLED); needRange(seed")
    static void ofSeed(Check check) {
        BallotFoundry x = Ready.voting(0);
        check.fails("no party, and the seed out of range", Check.INDEX, () -> x.seed(5, 10000));
        check.fails("no party, and VOTING", Check.INDEX, () -> x.seed(-1, 0));
        check.fails("the seed out of range, and VOTING", Check.ARGUMENT, () -> x.seed(0, -1));
        check.fails("all three", Check.INDEX, () -> x.seed(5, -1));
        BallotFoundry y = Ready.called(0);
        check.fails("no party, and the seed out of range, while CALLED", Check.INDEX, () -> y.seed(5, 10000));
    }

    @Sentence(WORDS)
    @Broken(at = "public int advance(", from = "needRange(days",
        to = "if (now + days > LAST_DAY) { throw new IllegalStateException(); } needRange(days")
    static void ofAdvance(Check check) {
        BallotFoundry x = Ready.on(2000);
        check.fails("days out of range, and above the day 2100", Check.ARGUMENT, () -> x.advance(101));
    }

    @Sentence(WORDS)
    @Broken(at = "public int early(", from = "Person who", to = "needRange(party, 0, BLANK); Person who")
    @Broken(at = "public int early(", from = "Person who", to = "needStage(EARLY); Person who")
    @Broken(at = "public int early(", from = "needRange(party", to = "needStage(EARLY); needRange(party")
    @Broken(at = "public int early(", from = "needRange(party", to = "needAlive(who); needRange(party")
    @Broken(at = "public int early(", from = "needRange(party", to = "needOnRoll(person); needRange(party")
    static void ofEarly(Check check) {
        BallotFoundry x = Ready.called(1);
        check.fails("no person, and the party out of range", Check.INDEX, () -> x.early(1, 6));
        check.fails("no person, and CALLED", Check.INDEX, () -> x.early(-1, 0));
        check.fails("the party out of range, and CALLED", Check.ARGUMENT, () -> x.early(0, 6));
        BallotFoundry y = Ready.early(1);
        y.person(0, 0);
        check.fails("the party out of range, and not on the roll", Check.ARGUMENT, () -> y.early(1, -1));
        y.die(0);
        check.fails("the party out of range, and dead", Check.ARGUMENT, () -> y.early(0, 6));
    }

    @Sentence(WORDS)
    @Broken(at = "public int early(", from = "needRange(party",
        to = "if (election.envelopes.size >= MOST_ENVELOPES) { throw new IllegalStateException(); } needRange(party")
    static void ofEarlyWithSixty(Check check) {
        BallotFoundry x = Ready.early(1);
        for (int envelope = 0; envelope < 60; envelope++) {
            x.early(0, 0);
        }
        check.fails("no person, and 60 envelopes", Check.INDEX, () -> x.early(1, 0));
        check.fails("the party out of range, and 60 envelopes", Check.ARGUMENT, () -> x.early(0, 6));
    }

    @Sentence(WORDS)
    @Broken(at = "public int vote(", from = "Person who", to = "needRange(party, 0, BLANK); Person who")
    @Broken(at = "public int vote(", from = "needStation(station);",
        to = "needRange(party, 0, BLANK); needStation(station);")
    @Broken(at = "public int vote(", from = "Person who", to = "needStage(VOTING); Person who")
    @Broken(at = "public int vote(", from = "needStation(station);", to = "needStage(VOTING); needStation(station);")
    @Broken(at = "public int vote(", from = "needRange(party", to = "needStage(VOTING); needRange(party")
    static void ofVote(Check check) {
        BallotFoundry x = Ready.early(1);
        check.fails("no person, and the party out of range", Check.INDEX, () -> x.vote(1, 0, 6));
        check.fails("no station, and the party out of range", Check.INDEX, () -> x.vote(0, 1, 6));
        check.fails("no person, and EARLY", Check.INDEX, () -> x.vote(-1, 0, 0));
        check.fails("no station, and EARLY", Check.INDEX, () -> x.vote(0, -1, 0));
        check.fails("the party out of range, and EARLY", Check.ARGUMENT, () -> x.vote(0, 0, 6));
    }

    @Sentence(WORDS)
    @Broken(at = "public int vote(", from = "needRange(party", to = "needAlive(who); needRange(party")
    @Broken(at = "public int vote(", from = "needStation(station);", to = "needAlive(who); needStation(station);")
    @Broken(at = "public int vote(", from = "needRange(party", to = "needOnRoll(person); needRange(party")
    @Broken(at = "public int vote(", from = "needRange(party",
        to = "if (election.roll.hasVoted[person]) { throw new IllegalStateException(); } needRange(party")
    @Broken(at = "public int vote(", from = "needRange(party",
        to = "if (election.roll.stationFor(person) != station) { throw new IllegalStateException(); } needRange(party")
    static void ofVoteOnTheDay(Check check) {
        BallotFoundry x = Ready.twoStations();
        x.person(0, 0);
        x.advance(6);
        check.fails("the party out of range, and another station", Check.ARGUMENT, () -> x.vote(0, 1, 6));
        check.fails("the party out of range, and not on the roll", Check.ARGUMENT, () -> x.vote(4, 0, -1));
        x.vote(0, 0, 0);
        check.fails("the party out of range, and has voted", Check.ARGUMENT, () -> x.vote(0, 0, 6));
        x.die(1);
        check.fails("the party out of range, and dead", Check.ARGUMENT, () -> x.vote(1, 0, 6));
        check.fails("no station, and dead", Check.INDEX, () -> x.vote(1, 2, 0));
    }

    @Sentence(WORDS)
    @Broken(at = "public int open(", from = "needPerson(person);", to = "needStage(VOTING); needPerson(person);")
    @Broken(at = "public int open(", from = "needPerson(person);",
        to = "if (election.envelopes.sealedOf(person) == NONE) { throw new IllegalStateException(); } "
            + "needPerson(person);")
    static void ofOpen(Check check) {
        BallotFoundry x = Ready.early(1);
        check.fails("no person, and EARLY", Check.INDEX, () -> x.open(1));
        x.advance(6);
        check.fails("no person, and so no envelope", Check.INDEX, () -> x.open(1));
    }

    @Sentence(WORDS)
    @Broken(at = "public int setSlip(", from = "needClerk(clerk);",
        to = "needRange(slip, 0, MOST_SLIP); needClerk(clerk);")
    @Broken(at = "public int setSlip(", from = "needClerk(clerk);",
        to = "if (slip == 1) { throw new IllegalArgumentException(); } needClerk(clerk);")
    static void ofSetSlip(Check check) {
        BallotFoundry x = new BallotFoundry();
        check.fails("no clerk, and the slip above", Check.INDEX, () -> x.setSlip(4, 21));
        check.fails("no clerk, and the slip 1", Check.INDEX, () -> x.setSlip(-1, 1));
    }

    @Sentence(WORDS)
    @Broken(at = "public boolean count(", from = "needStation(station);",
        to = "needStage(COUNTING); needStation(station);")
    @Broken(at = "public boolean count(", from = "needClerk(clerk);", to = "needStage(COUNTING); needClerk(clerk);")
    static void ofCount(Check check) {
        BallotFoundry x = Ready.voting(0);
        check.fails("no station, and VOTING", Check.INDEX, () -> x.count(1, 0));
        check.fails("no clerk, and VOTING", Check.INDEX, () -> x.count(0, 4));
    }

    @Sentence(WORDS)
    @Broken(at = "public boolean count(", from = "needClerk(clerk);",
        to = "if (station >= election.stationsOfIt) { throw new IllegalStateException(); } needClerk(clerk);")
    @Broken(at = "public boolean count(", from = "needClerk(clerk);",
        to = "if (election.boxes[station].hasNumbers()) { throw new IllegalStateException(); } needClerk(clerk);")
    @Broken(at = "public boolean count(", from = "needClerk(clerk);",
        to = "if (election.boxes[station].counts >= MOST_COUNTS) { throw new IllegalStateException(); } "
            + "needClerk(clerk);")
    static void ofCountWhileCounting(Check check) {
        BallotFoundry x = Ready.twoStations();
        x.station(0, 0);
        x.advance(7);
        Ready.settle(x, 0);
        check.fails("no clerk, and the station is settled", Check.INDEX, () -> x.count(0, 4));
        check.fails("no clerk, and the station is none of the election", Check.INDEX, () -> x.count(2, -1));
        for (int count = 0; count < 8; count++) {
            x.count(1, 0);
        }
        check.fails("no clerk, and 8 counts", Check.INDEX, () -> x.count(1, 4));
    }

    @Sentence(WORDS)
    @Broken(at = "public int recount(", from = "needStation(station);",
        to = "needStage(COUNTING); needStation(station);")
    static void ofRecount(Check check) {
        BallotFoundry x = Ready.voting(0);
        check.fails("no station, and VOTING", Check.INDEX, () -> x.recount(1));
    }

    @Sentence(WORDS)
    @Broken(at = "public int numberOf(", from = "needStation(station);",
        to = "needRange(party, 0, BLANK); needStation(station);")
    static void ofNumberOf(Check check) {
        BallotFoundry x = Ready.done();
        check.fails("no station, and the party out of range", Check.INDEX, () -> x.numberOf(1, 6));
    }
}
