/** Promises 18 to 24: early votes, votes, opened envelopes and boxes. */
final class VotesSentences {
    private static final int FAR = Integer.MAX_VALUE;

    private VotesSentences() {
    }

    /** Two people on the roll, and the person 2 that came behind it. */
    private static BallotFoundry earlyWithAnother() {
        BallotFoundry x = Ready.early(2);
        x.person(0, 0);
        return x;
    }

    private static BallotFoundry votingWithAnother() {
        BallotFoundry x = earlyWithAnother();
        x.early(0, 1);
        x.advance(6);
        return x;
    }

    /** Four people at two stations on the day of the election, each with an envelope. */
    private static BallotFoundry votingWithEnvelopes() {
        BallotFoundry x = Ready.twoStations();
        for (int person = 0; person < 4; person++) {
            x.early(person, person);
        }
        x.advance(6);
        return x;
    }

    private static BallotFoundry earlyWithSixty() {
        BallotFoundry x = Ready.early(4);
        for (int envelope = 0; envelope < 60; envelope++) {
            x.early(envelope % 3, 1);
        }
        return x;
    }

    @Sentence(promise = 18, value = {"A person votes early.", "Returns the number of the envelope."})
    @Broken(at = "public int early(", from = "return election.envelopes.add(person, party);",
        to = "election.envelopes.add(person, party); return 0;")
    @Broken(at = "public int early(", from = "return election.envelopes.add(person, party);",
        to = "return election.envelopes.size;")
    @Broken(at = "public int early(", from = "election.envelopes.add(person, party)",
        to = "election.envelopes.add(0, party)")
    static void earlyTellsTheEnvelope(Check check) {
        BallotFoundry x = Ready.early(3);
        int[] people = {2, 0, 2, 1, 0};
        for (int envelope = 0; envelope < people.length; envelope++) {
            check.due("its number", x.early(people[envelope], 1), envelope);
            check.due("envelopes", x.envelopes(), envelope + 1);
            check.due("its person", x.personOf(envelope), people[envelope]);
        }
    }

    @Sentence(promise = 18, value = "`person`: a person")
    @Broken(at = "private Person personAt(", from = "needPerson(person);", to = "needPerson(person - 1);")
    @Broken(at = "private Person personAt(", from = "needPerson(person);", to = "needPerson(person + 1);")
    static void earlyTakesEachPerson(Check check) {
        BallotFoundry x = Ready.early(20);
        x.early(0, 1);
        x.early(19, 1);
        check.due("the first", x.personOf(0), 0);
        check.due("the last", x.personOf(1), 19);
    }

    @Sentence(promise = 18, value = "`party`: 0 to 4, or BLANK")
    @Broken(at = "public int early(", from = "needRange(party, 0, BLANK);", to = "needRange(party, 1, BLANK);")
    @Broken(at = "public int early(", from = "needRange(party, 0, BLANK);", to = "needParty(party);")
    @Broken(from = "people[size] = person; ballots[size] = ballot;",
        to = "people[size] = person; ballots[size] = ballot % 5;")
    static void earlyTakesEachParty(Check check) {
        BallotFoundry x = Ready.early(6);
        for (int party = 0; party <= BallotFoundry.BLANK; party++) {
            check.due("for " + party, x.early(party, party), party);
        }
        x.advance(7);
        Ready.settle(x, 0);
        for (int party = 0; party <= BallotFoundry.BLANK; party++) {
            check.due("ballots for " + party, x.numberOf(0, party), 1);
        }
    }

    @Sentence(promise = 18, value = "Throws `IndexOutOfBoundsException` if there is no such person")
    @Broken(at = "private void needPerson(", from = "person >= peopleHere", to = "person > peopleHere")
    @Broken(at = "private void needPerson(", from = "person < 0 ||")
    static void earlyNeedsAPerson(Check check) {
        int[] nobody = {-1, 3, 20, -FAR - 1, FAR};
        for (int person : nobody) {
            check.refused("the person " + person, Check.INDEX, VotesSentences::earlyWithAnother,
                x -> x.early(person, 1));
        }
        check.refused("twenty", Check.INDEX, () -> Ready.early(20), x -> x.early(20, 1));
    }

    @Sentence(promise = 18, value = "Throws `IllegalArgumentException` if party is out of range")
    @Broken(at = "public int early(", from = "needRange(party, 0, BLANK);", to = "needRange(party, -1, BLANK);")
    @Broken(at = "public int early(", from = "needRange(party, 0, BLANK);", to = "needRange(party, 0, BLANK + 1);")
    static void earlyNeedsAPartyInRange(Check check) {
        int[] out = {-1, 6, -FAR - 1, FAR};
        for (int party : out) {
            check.refused("for " + party, Check.ARGUMENT, () -> Ready.early(1), x -> x.early(0, party));
        }
    }

    @Sentence(promise = 18, value = "Throws `IllegalStateException` if it is not EARLY,")
    @Broken(at = "public int early(", from = "needStage(EARLY);")
    @Broken(at = "public int early(", from = "needStage(EARLY);",
        to = "if (election.stage > VOTING) { needStage(EARLY); }")
    static void earlyNeedsItsStage(Check check) {
        for (int stage = 0; stage < Ready.STAGES; stage++) {
            int at = stage;
            if (stage == BallotFoundry.EARLY) {
                check.due("EARLY", Ready.at(at, 1).early(0, 1), 0);
            } else {
                check.refused("at the stage " + stage, Check.STATE, () -> Ready.at(at, 1), x -> x.early(0, 1));
            }
        }
        BallotFoundry y = Ready.called(1);
        y.advance(1);
        check.fails("on the roll day", Check.STATE, () -> y.early(0, 1));
        y.advance(6);
        check.due("on the eve", y.early(0, 1), 0);
    }

    @Sentence(promise = 18, value = "the person is not on the roll")
    @Broken(at = "public int early(", from = "needOnRoll(person);")
    @Broken(at = "public int early(", from = "needOnRoll(person);", to = "needOnRoll(0);")
    static void earlyNeedsTheRoll(Check check) {
        check.refused("came behind it", Check.STATE, VotesSentences::earlyWithAnother, x -> x.early(2, 1));
        BallotFoundry y = Ready.town(1);
        y.person(0, 9);
        y.call(8, 0, false);
        y.advance(2);
        check.fails("not of age", Check.STATE, () -> y.early(1, 1));
        check.due("of age", y.early(0, 1), 0);
    }

    @Sentence(promise = 18, value = "or has died,")
    @Broken(at = "public int early(", from = "needAlive(who);")
    @Broken(at = "public int early(", from = "needAlive(who);", to = "needAlive(people[1]);")
    static void earlyNeedsALivingPerson(Check check) {
        check.refused("has died since", Check.STATE, VotesSentences::earlyWithADeath, x -> x.early(0, 1));
        check.due("another lives", earlyWithADeath().early(1, 1), 1);
        BallotFoundry y = Ready.town(1);
        y.die(0);
        y.call(8, 0, false);
        y.advance(2);
        check.fails("had died", Check.STATE, () -> y.early(0, 1));
    }

    private static BallotFoundry earlyWithADeath() {
        BallotFoundry x = Ready.early(2);
        x.early(0, 2);
        x.die(0);
        return x;
    }

    @Sentence(promise = 18, value = "or there are 60 envelopes")
    @Broken(from = "if (election.envelopes.size >= MOST_ENVELOPES) "
        + "{ throw new IllegalStateException(\"no more envelopes\"); }")
    @Broken(at = "public int early(", from = "needOnRoll(person);", to = "needOnRoll(person); voidEnvelopeOf(person);")
    @Broken(from = "MOST_ENVELOPES = 60", to = "MOST_ENVELOPES = 59")
    @Broken(from = "MOST_ENVELOPES = 60", to = "MOST_ENVELOPES = 61")
    static void earlyNeedsRoomForAnEnvelope(Check check) {
        check.due("sixty", earlyWithSixty().envelopes(), 60);
        check.refused("the 61st of one that has some", Check.STATE, VotesSentences::earlyWithSixty, x -> x.early(0, 1));
        check.refused("the 61st of one that has none", Check.STATE, VotesSentences::earlyWithSixty, x -> x.early(3, 1));
        BallotFoundry y = earlyWithSixty();
        check.due("the SEALED one of who is refused", y.stateOf(57), BallotFoundry.SEALED);
        y.advance(7);
        Ready.settle(y, 0);
        y.call(8, 0, false);
        y.advance(2);
        check.due("the first of the next election", y.early(0, 1), 0);
    }

    @Sentence(promise = 19, value = {"A person votes at a station.",
        "Returns how many ballots the box of the station has then."})
    @Broken(at = "public int vote(", from = "return election.boxes[station].size;",
        to = "return election.boxes[0].size;")
    @Broken(at = "public int vote(", from = "election.castFor(person, party); return election.boxes[station].size;",
        to = "int had = election.boxes[station].size; election.castFor(person, party); return had;")
    @Broken(at = "void put(int ballot)", from = "size < MOST_PEOPLE", to = "size < MOST_PEOPLE - 1")
    static void voteTellsHowManyBallots(Check check) {
        BallotFoundry x = votingWithEnvelopes();
        check.due("the first of the station 1", x.vote(3, 1, 0), 1);
        check.due("the first of the station 0", x.vote(1, 0, 0), 1);
        x.open(2);
        check.due("the box, behind an opened envelope", x.ballots(1), 2);
        check.due("the second of the station 0", x.vote(0, 0, 5), 2);
        BallotFoundry y = Ready.voting(20);
        for (int person = 0; person < 20; person++) {
            check.due("ballots", y.vote(person, 0, 0), person + 1);
        }
    }

    @Sentence(promise = 19, value = "`person`: a person")
    @Broken(at = "private Person personAt(", from = "needPerson(person);", to = "needPerson(person - 1);")
    @Broken(at = "private Person personAt(", from = "needPerson(person);", to = "needPerson(person + 1);")
    static void voteTakesEachPerson(Check check) {
        BallotFoundry x = Ready.voting(20);
        check.due("the last", x.vote(19, 0, 1), 1);
        check.due("the first", x.vote(0, 0, 1), 2);
    }

    @Sentence(promise = 19, value = "`station`: a station")
    @Broken(at = "public int vote(", from = "needStation(station);", to = "needStation(station - 1);")
    @Broken(at = "public int vote(", from = "needStation(station);", to = "needStation(station + 1);")
    static void voteTakesEachStation(Check check) {
        BallotFoundry x = Ready.votingAtFive();
        check.due("the first", x.vote(0, 0, 1), 1);
        check.due("the last", x.vote(4, 4, 1), 1);
        check.due("the box of the last", x.ballots(4), 1);
    }

    @Sentence(promise = 19, value = "`party`: 0 to 4, or BLANK")
    @Broken(at = "public int vote(", from = "needRange(party, 0, BLANK);", to = "needRange(party, 1, BLANK);")
    @Broken(at = "public int vote(", from = "needRange(party, 0, BLANK);", to = "needParty(party);")
    @Broken(at = "public int vote(", from = "election.castFor(person, party);",
        to = "election.castFor(person, party % 5);")
    static void voteTakesEachParty(Check check) {
        BallotFoundry x = Ready.counting(0, 1, 2, 3, 4, BallotFoundry.BLANK);
        Ready.settle(x, 0);
        for (int party = 0; party <= BallotFoundry.BLANK; party++) {
            check.due("ballots for " + party, x.numberOf(0, party), 1);
        }
    }

    @Sentence(promise = 19, value = "Throws `IndexOutOfBoundsException` if there is no such person or station")
    @Broken(at = "private void needPerson(", from = "person >= peopleHere", to = "person > peopleHere")
    @Broken(at = "private void needPerson(", from = "person < 0 ||")
    @Broken(at = "public int vote(", from = "needStation(station);")
    static void voteNeedsAPersonAndAStation(Check check) {
        int[] nobody = {-1, 4, 20, -FAR - 1, FAR};
        for (int person : nobody) {
            check.refused("the person " + person, Check.INDEX, VotesSentences::votingWithEnvelopes,
                x -> x.vote(person, 0, 1));
        }
        int[] none = {-1, 2, 5, -FAR - 1, FAR};
        for (int station : none) {
            check.refused("the station " + station, Check.INDEX, VotesSentences::votingWithEnvelopes,
                x -> x.vote(0, station, 1));
        }
        check.refused("of five, the station 5", Check.INDEX, Ready::votingAtFive, x -> x.vote(0, 5, 1));
        check.refused("of twenty, the person 20", Check.INDEX, () -> Ready.voting(20), x -> x.vote(20, 0, 1));
    }

    @Sentence(promise = 19, value = "Throws `IllegalArgumentException` if party is out of range")
    @Broken(at = "public int vote(", from = "needRange(party, 0, BLANK);", to = "needRange(party, -1, BLANK);")
    @Broken(at = "public int vote(", from = "needRange(party, 0, BLANK);", to = "needRange(party, 0, BLANK + 1);")
    static void voteNeedsAPartyInRange(Check check) {
        int[] out = {-1, 6, -FAR - 1, FAR};
        for (int party : out) {
            check.refused("for " + party, Check.ARGUMENT, VotesSentences::votingWithEnvelopes,
                x -> x.vote(0, 0, party));
        }
    }

    @Sentence(promise = 19, value = "Throws `IllegalStateException` if it is not VOTING,")
    @Broken(at = "public int vote(", from = "needStage(VOTING);")
    @Broken(at = "public int vote(", from = "needStage(VOTING);",
        to = "if (election.stage < VOTING) { needStage(VOTING); }")
    static void voteNeedsItsStage(Check check) {
        for (int stage = 0; stage < Ready.STAGES; stage++) {
            int at = stage;
            if (stage == BallotFoundry.VOTING) {
                check.due("VOTING", Ready.at(at, 1).vote(0, 0, 1), 1);
            } else {
                check.refused("at the stage " + stage, Check.STATE, () -> Ready.at(at, 1), x -> x.vote(0, 0, 1));
            }
        }
        BallotFoundry y = Ready.early(1);
        y.advance(5);
        check.fails("on the eve", Check.STATE, () -> y.vote(0, 0, 1));
    }

    @Sentence(promise = 19, value = "the person is not on the roll,")
    @Broken(at = "public int vote(", from = "needOnRoll(person);",
        to = "election.roll.stationsOfPeople[person] = station;")
    static void voteNeedsTheRoll(Check check) {
        check.refused("came behind it", Check.STATE, VotesSentences::votingWithAnother, x -> x.vote(2, 0, 1));
        BallotFoundry y = Ready.town(1);
        y.person(0, 9);
        y.call(8, 0, false);
        y.advance(8);
        check.fails("not of age", Check.STATE, () -> y.vote(1, 0, 1));
        check.due("of age", y.vote(0, 0, 1), 1);
    }

    @Sentence(promise = 19, value = "has died")
    @Broken(at = "public int vote(", from = "needAlive(who);")
    @Broken(at = "public int vote(", from = "needAlive(who);", to = "needAlive(people[0]);")
    static void voteNeedsALivingPerson(Check check) {
        check.refused("died on the day", Check.STATE, VotesSentences::votingWithADeath, x -> x.vote(1, 0, 1));
        check.due("another lives", votingWithADeath().vote(0, 0, 1), 1);
        BallotFoundry y = Ready.early(1);
        y.die(0);
        y.advance(6);
        check.fails("died behind the roll day", Check.STATE, () -> y.vote(0, 0, 1));
        BallotFoundry z = Ready.town(1);
        z.die(0);
        z.call(8, 0, false);
        z.advance(8);
        check.fails("died ahead of the roll", Check.STATE, () -> z.vote(0, 0, 1));
    }

    private static BallotFoundry votingWithADeath() {
        BallotFoundry x = votingWithAnother();
        x.die(1);
        return x;
    }

    @Sentence(promise = 19, value = "or has voted,")
    @Broken(at = "public int vote(",
        from = "if (election.roll.hasVoted[person]) { throw new IllegalStateException(\"the person has voted\"); }")
    @Broken(from = "roll.hasVoted[person] = true;", to = "roll.hasVoted[0] = true;")
    static void voteNeedsWhoHasNotVoted(Check check) {
        check.refused("by a vote", Check.STATE, VotesSentences::votingWithVotes, x -> x.vote(1, 0, 1));
        check.refused("by an opened envelope", Check.STATE, VotesSentences::votingWithVotes, x -> x.vote(2, 1, 1));
        check.due("another has not", votingWithVotes().vote(3, 1, 1), 2);
    }

    private static BallotFoundry votingWithVotes() {
        BallotFoundry x = votingWithEnvelopes();
        x.vote(1, 0, 1);
        x.open(2);
        return x;
    }

    @Sentence(promise = 19, value = "or this is not its station")
    @Broken(from = "if (election.roll.stationFor(person) != station) "
        + "{ throw new IllegalStateException(\"another station is the person's\"); }")
    @Broken(from = "if (election.roll.stationFor(person) != station) {",
        to = "if (election.roll.stationFor(person) < station) {")
    @Broken(from = "if (election.roll.stationFor(person) != station) {",
        to = "if (election.roll.stationFor(person) > station) {")
    static void voteNeedsItsStation(Check check) {
        check.refused("of the station 0, at 1", Check.STATE, VotesSentences::votingWithEnvelopes, x -> x.vote(0, 1, 1));
        check.refused("of the station 1, at 0", Check.STATE, VotesSentences::votingWithEnvelopes, x -> x.vote(3, 0, 1));
        BallotFoundry y = votingWithEnvelopes();
        y.station(0, 20);
        check.fails("at one that is none of the election", Check.STATE, () -> y.vote(0, 2, 1));
        check.due("at its own", y.vote(3, 1, 1), 1);
    }

    @Sentence(promise = 20, value = "A person has its envelope opened.")
    @Broken(from = "election.openEnvelope(envelope, 'o');")
    @Broken(from = "election.openEnvelope(envelope, 'o');", to = "election.openEnvelope(0, 'o');")
    static void openOpensItsEnvelope(Check check) {
        BallotFoundry x = votingWithEnvelopes();
        x.open(3);
        int[] due = {BallotFoundry.SEALED, BallotFoundry.SEALED, BallotFoundry.SEALED, BallotFoundry.OPENED};
        for (int envelope = 0; envelope < due.length; envelope++) {
            check.due("the envelope " + envelope, x.stateOf(envelope), due[envelope]);
        }
        check.due("the box of its station", x.ballots(1), 1);
        check.due("another box", x.ballots(0), 0);
    }

    @Sentence(promise = 20, value = "`person`: a person")
    @Broken(at = "public int open(", from = "needPerson(person);", to = "needPerson(person - 1);")
    @Broken(at = "public int open(", from = "needPerson(person);", to = "needPerson(person + 1);")
    static void openTakesEachPerson(Check check) {
        BallotFoundry x = Ready.early(20);
        x.early(19, 1);
        x.early(0, 1);
        x.advance(6);
        check.due("the first", x.open(0), 1);
        check.due("the last", x.open(19), 0);
    }

    @Sentence(promise = 20, value = "Returns the number of the envelope.")
    @Broken(at = "public int open(", from = "return envelope;", to = "return person;")
    @Broken(at = "public int open(", from = "return envelope;", to = "return election.envelopes.sealedOf(person);")
    @Broken(from = "people[envelope] == person && states[envelope] == SEALED", to = "people[envelope] == person")
    static void openTellsTheEnvelope(Check check) {
        BallotFoundry x = Ready.early(3);
        x.early(2, 1);
        x.early(1, 1);
        x.early(2, 1);
        x.early(0, 1);
        x.advance(6);
        check.due("the SEALED one of two", x.open(2), 2);
        check.due("the last", x.open(0), 3);
        check.due("one between them", x.open(1), 1);
    }

    @Sentence(promise = 20, value = "Throws `IndexOutOfBoundsException` if there is no such person")
    @Broken(at = "public int open(", from = "needPerson(person);")
    @Broken(at = "private void needPerson(", from = "person >= peopleHere", to = "person > peopleHere")
    static void openNeedsAPerson(Check check) {
        int[] nobody = {-1, 4, 20, -FAR - 1, FAR};
        for (int person : nobody) {
            check.refused("the person " + person, Check.INDEX, VotesSentences::votingWithEnvelopes,
                x -> x.open(person));
        }
        check.refused("of twenty, the person 20", Check.INDEX, () -> Ready.voting(20), x -> x.open(20));
    }

    @Sentence(promise = 20, value = "Throws `IllegalStateException` if it is not VOTING,")
    @Broken(at = "public int open(", from = "needStage(VOTING);")
    static void openNeedsItsStage(Check check) {
        check.refused("EARLY, with an envelope", Check.STATE, VotesSentences::earlyWithSixty, x -> x.open(0));
        for (int stage = 0; stage < Ready.STAGES; stage++) {
            int at = stage;
            check.refused("without an envelope, at the stage " + stage, Check.STATE, () -> Ready.at(at, 1),
                x -> x.open(0));
        }
        BallotFoundry y = votingWithEnvelopes();
        y.advance(1);
        check.fails("behind the day", Check.STATE, () -> y.open(0));
    }

    @Sentence(promise = 20, value = "or the person has no SEALED envelope")
    @Broken(at = "public int open(",
        from = "if (envelope == NONE) { throw new IllegalStateException(\"no sealed envelope\"); }")
    @Broken(from = "people[envelope] == person && states[envelope] == SEALED", to = "people[envelope] == person")
    @Broken(from = "people[envelope] == person && states[envelope] == SEALED", to = "states[envelope] == SEALED")
    static void openNeedsASealedEnvelope(Check check) {
        check.refused("never one", Check.STATE, VotesSentences::votingWithAnother, x -> x.open(1));
        check.refused("not on the roll", Check.STATE, VotesSentences::votingWithAnother, x -> x.open(2));
        check.refused("VOID by a vote", Check.STATE, VotesSentences::votingWithVotes, x -> x.open(1));
        check.refused("OPENED", Check.STATE, VotesSentences::votingWithVotes, x -> x.open(2));
        BallotFoundry y = votingWithEnvelopes();
        y.die(3);
        check.fails("VOID by death", Check.STATE, () -> y.open(3));
        check.due("another's is SEALED", y.open(0), 0);
    }

    @Sentence(promise = 21, value = "Returns how many envelopes the latest election has.")
    @Broken(at = "public int envelopes()", from = "return election.envelopes.size;",
        to = "return Math.min(59, election.envelopes.size);")
    @Broken(at = "public int envelopes()", from = "return election.envelopes.size;",
        to = "return election.stage > VOTING ? 0 : election.envelopes.size;")
    @Broken(from = "envelopes.size = 0;")
    static void envelopesAreCounted(Check check) {
        check.due("without an election", new BallotFoundry().envelopes(), 0);
        BallotFoundry x = earlyWithSixty();
        check.due("the most, the VOID ones too", x.envelopes(), 60);
        x.advance(7);
        check.due("the OPENED ones too", x.envelopes(), 60);
        Ready.settle(x, 0);
        check.due("when it is DONE", x.envelopes(), 60);
        x.call(8, 0, false);
        check.due("of the next election", x.envelopes(), 0);
        x.advance(2);
        x.early(0, 0);
        check.due("one of the next election", x.envelopes(), 1);
    }

    @Sentence(promise = 22, value = {"Returns the state of an envelope of the latest election.",
        "Returns SEALED, VOID or OPENED."})
    @Broken(at = "public int stateOf(", from = "return election.envelopes.states[envelope];",
        to = "return election.envelopes.states[0];")
    @Broken(at = "boolean voidEnvelopeOf(", from = "election.envelopes.states[envelope] = VOID;")
    @Broken(from = "envelopes.states[envelope] = OPENED;")
    @Broken(from = "states[size] = SEALED;")
    static void stateOfTellsTheState(Check check) {
        BallotFoundry x = Ready.early(2);
        x.early(0, 1);
        x.early(1, 1);
        x.early(0, 1);
        check.due("a later one has come", x.stateOf(0), BallotFoundry.VOID);
        check.due("the only one", x.stateOf(1), BallotFoundry.SEALED);
        check.due("the later one", x.stateOf(2), BallotFoundry.SEALED);
        x.advance(7);
        check.due("VOID stays", x.stateOf(0), BallotFoundry.VOID);
        check.due("opened", x.stateOf(1), BallotFoundry.OPENED);
        Ready.settle(x, 0);
        check.due("when it is DONE", x.stateOf(2), BallotFoundry.OPENED);
        x.call(8, 0, false);
        x.advance(2);
        x.early(0, 1);
        check.due("of the next election", x.stateOf(0), BallotFoundry.SEALED);
    }

    @Sentence(promise = 22, value = "`envelope`: an envelope")
    @Broken(at = "public int stateOf(", from = "needEnvelope(envelope);", to = "needEnvelope(envelope - 1);")
    @Broken(at = "public int stateOf(", from = "needEnvelope(envelope);", to = "needEnvelope(envelope + 1);")
    static void stateOfTakesEachEnvelope(Check check) {
        BallotFoundry x = earlyWithSixty();
        check.due("the first", x.stateOf(0), BallotFoundry.VOID);
        check.due("the last", x.stateOf(59), BallotFoundry.SEALED);
    }

    @Sentence(promise = 22, value = "Throws `IndexOutOfBoundsException` if there is no such envelope")
    @Broken(at = "public int stateOf(", from = "needEnvelope(envelope);")
    @Broken(at = "private void needEnvelope(", from = "envelope >= election", to = "envelope > election")
    static void stateOfNeedsAnEnvelope(Check check) {
        check.refused("there is no election", Check.INDEX, BallotFoundry::new, x -> x.stateOf(0));
        check.refused("there is none", Check.INDEX, () -> Ready.early(1), x -> x.stateOf(0));
        int[] none = {-1, 4, 60, -FAR - 1, FAR};
        for (int envelope : none) {
            check.refused("four, but not " + envelope, Check.INDEX, VotesSentences::votingWithEnvelopes,
                x -> x.stateOf(envelope));
        }
        check.fails("of sixty, the envelope 60", Check.INDEX, () -> earlyWithSixty().stateOf(60));
    }

    @Sentence(promise = 23, value = {"Returns the person of an envelope of the latest election.",
        "Returns the person."})
    @Broken(at = "public int personOf(", from = "return election.envelopes.people[envelope];",
        to = "return election.envelopes.people[0];")
    @Broken(from = "people[size] = person; ballots[size] = ballot;",
        to = "people[size] = size; ballots[size] = ballot;")
    static void personOfTellsThePerson(Check check) {
        BallotFoundry x = Ready.early(3);
        x.early(2, 1);
        x.early(0, 1);
        x.early(2, 1);
        check.due("of a VOID one", x.personOf(0), 2);
        check.due("of a SEALED one", x.personOf(1), 0);
        x.die(0);
        x.advance(7);
        check.due("of one who has died", x.personOf(1), 0);
        check.due("of an OPENED one", x.personOf(2), 2);
        Ready.settle(x, 0);
        x.call(8, 0, false);
        x.advance(2);
        x.early(1, 1);
        check.due("of the next election", x.personOf(0), 1);
    }

    @Sentence(promise = 23, value = "`envelope`: an envelope")
    @Broken(at = "public int personOf(", from = "needEnvelope(envelope);", to = "needEnvelope(envelope - 1);")
    @Broken(at = "public int personOf(", from = "needEnvelope(envelope);", to = "needEnvelope(envelope + 1);")
    static void personOfTakesEachEnvelope(Check check) {
        BallotFoundry x = earlyWithSixty();
        check.due("the first", x.personOf(0), 0);
        check.due("the last", x.personOf(59), 2);
    }

    @Sentence(promise = 23, value = "Throws `IndexOutOfBoundsException` if there is no such envelope")
    @Broken(at = "public int personOf(", from = "needEnvelope(envelope);")
    @Broken(at = "private void needEnvelope(", from = "envelope >= election", to = "envelope > election")
    static void personOfNeedsAnEnvelope(Check check) {
        check.refused("there is no election", Check.INDEX, BallotFoundry::new, x -> x.personOf(0));
        check.refused("there is none", Check.INDEX, () -> Ready.early(1), x -> x.personOf(0));
        int[] none = {-1, 4, 60, -FAR - 1, FAR};
        for (int envelope : none) {
            check.refused("four, but not " + envelope, Check.INDEX, VotesSentences::votingWithEnvelopes,
                x -> x.personOf(envelope));
        }
        check.fails("of sixty, the envelope 60", Check.INDEX, () -> earlyWithSixty().personOf(60));
    }

    @Sentence(promise = 24, value = {
        "Returns how many ballots there are in the box of a station, in the latest election.", "Returns how many."})
    @Broken(at = "public int ballots(", from = "return election.boxes[station].size;",
        to = "return election.boxes[0].size;")
    @Broken(at = "public int ballots(", from = "return election.boxes[station].size;",
        to = "return Math.min(election.boxes[station].size, 19);")
    @Broken(from = "boxes[station].clear();")
    static void ballotsAreCounted(Check check) {
        BallotFoundry x = votingWithEnvelopes();
        check.due("SEALED ones are in no box", x.ballots(1), 0);
        x.vote(3, 1, 5);
        check.due("a vote, though it is blank", x.ballots(1), 1);
        x.open(2);
        check.due("an opened one", x.ballots(1), 2);
        check.due("none in another box", x.ballots(0), 0);
        x.die(0);
        x.advance(1);
        check.due("one opened at the end, of two", x.ballots(0), 1);
        Ready.settle(x, 0);
        Ready.settle(x, 1);
        check.due("when it is DONE", x.ballots(1), 2);
        x.call(8, 0, false);
        check.due("of the next election", x.ballots(1), 0);
        check.due("the most", Ready.counting(new int[20]).ballots(0), 20);
        check.due("without an election", Ready.town(1).ballots(0), 0);
    }

    @Sentence(promise = 24, value = "`station`: a station")
    @Broken(at = "public int ballots(", from = "needStation(station);", to = "needStation(station - 1);")
    @Broken(at = "public int ballots(", from = "needStation(station);", to = "needStation(station + 1);")
    static void ballotsTakesEachStation(Check check) {
        BallotFoundry x = Ready.votingAtFive();
        x.vote(4, 4, 1);
        check.due("the first", x.ballots(0), 0);
        check.due("the last", x.ballots(4), 1);
    }

    @Sentence(promise = 24, value = "Throws `IndexOutOfBoundsException` if there is no such station")
    @Broken(at = "public int ballots(", from = "needStation(station);")
    @Broken(at = "private void needStation(", from = "station >= stations.size", to = "station > stations.size")
    static void ballotsNeedsAStation(Check check) {
        check.refused("there is none", Check.INDEX, BallotFoundry::new, x -> x.ballots(0));
        int[] none = {-1, 2, 5, -FAR - 1, FAR};
        for (int station : none) {
            check.refused("two, but not " + station, Check.INDEX, VotesSentences::votingWithEnvelopes,
                x -> x.ballots(station));
        }
        check.refused("five", Check.INDEX, Ready::votingAtFive, x -> x.ballots(5));
    }
}
