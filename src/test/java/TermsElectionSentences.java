/** Terms: elections, their rolls and stages, early votes, votes and boxes. */
final class TermsElectionSentences {
    private TermsElectionSentences() {
    }

    /** So many people at the crossing 0, stations at these crossings with these seats, and the roll of an election. */
    private static BallotFoundry rolled(int people, int... crossingsAndSeats) {
        BallotFoundry x = new BallotFoundry();
        for (int at = 0; at < crossingsAndSeats.length; at += 2) {
            x.station(crossingsAndSeats[at], crossingsAndSeats[at + 1]);
        }
        Ready.settlers(x, people, 0);
        x.call(8, 0, false);
        x.advance(2);
        return x;
    }

    private static void stationsDue(Check check, BallotFoundry x, int... due) {
        for (int person = 0; person < due.length; person++) {
            check.due("the station of " + person, x.stationOf(person), due[person]);
        }
    }

    @Sentence("An election is called for a day, with some seats for the parties.")
    @Broken(from = "day = itsDay;", to = "day = itsDay - 1;")
    @Broken(from = "day = itsDay;", to = "day = itsDay + 1;")
    @Broken(from = "partySeats = seatsToGive;", to = "partySeats = seatsToGive + 1;")
    static void electionHasADayAndSeats(Check check) {
        BallotFoundry x = Ready.town(1);
        x.call(11, 4, false);
        x.advance(10);
        check.due("the day ahead", x.stage(), BallotFoundry.EARLY);
        x.advance(1);
        check.due("its day", x.stage(), BallotFoundry.VOTING);
        x.vote(0, 0, 2);
        x.advance(1);
        Ready.settle(x, 0);
        check.due("all its seats", x.seats(2), 4);
    }

    @Sentence("Its roll day is 7 days ahead of it.")
    @Broken(from = "ROLL_AHEAD = 7", to = "ROLL_AHEAD = 6")
    @Broken(from = "ROLL_AHEAD = 7", to = "ROLL_AHEAD = 8")
    static void rollDayIsSevenDaysAhead(Check check) {
        BallotFoundry x = Ready.town(0);
        x.call(20, 0, false);
        x.advance(13);
        check.due("on the roll day", x.stage(), BallotFoundry.CALLED);
        x.person(0, 0);
        x.advance(1);
        check.due("six days ahead", x.stage(), BallotFoundry.EARLY);
        x.person(0, 0);
        x.advance(1);
        check.due("came seven days ahead", x.isOnRoll(0), true);
        check.due("came six days ahead", x.isOnRoll(1), false);
    }

    @Sentence("When the day behind the roll day begins, the roll is made:")
    @Broken(from = "now == election.day - ROLL_AHEAD + 1", to = "now == election.day - ROLL_AHEAD")
    @Broken(from = "now == election.day - ROLL_AHEAD + 1", to = "now == election.day - ROLL_AHEAD + 2")
    static void rollIsMadeBehindTheRollDay(Check check) {
        BallotFoundry x = Ready.town(1);
        x.call(10, 0, false);
        x.advance(3);
        check.due("at the roll day", x.isOnRoll(0), false);
        x.advance(1);
        check.due("when the day behind it begins", x.isOnRoll(0), true);
        BallotFoundry y = Ready.town(1);
        y.call(8, 0, false);
        check.due("the shortest election", y.isOnRoll(0), false);
        y.advance(100);
        check.due("in one step far beyond it", y.isOnRoll(0), true);
    }

    @Sentence("on it is each person who has not died")
    @Broken(from = "!who.hasDied && who.age", to = "who.age")
    @Broken(from = "person < peopleHere; person++) { Person who",
        to = "person < peopleHere - 1; person++) { Person who")
    static void rollHasWhoHasNotDied(Check check) {
        BallotFoundry x = Ready.town(4);
        x.die(0);
        x.call(8, 0, false);
        x.advance(1);
        x.die(1);
        x.advance(1);
        x.die(2);
        check.due("died ahead of the call", x.isOnRoll(0), false);
        check.due("died on the roll day", x.isOnRoll(1), false);
        check.due("died behind the roll day", x.isOnRoll(2), true);
        check.due("lives", x.isOnRoll(3), true);
    }

    @Sentence("and is of age on the day of the election,")
    @Broken(from = "who.age <= election.day", to = "who.age <= now")
    @Broken(from = "who.age <= election.day", to = "who.age < election.day")
    @Broken(from = "who.age <= election.day", to = "who.age <= election.day + 1")
    static void rollHasWhoIsOfAgeOnItsDay(Check check) {
        BallotFoundry x = Ready.town(0);
        x.person(0, 3);
        x.person(0, 8);
        x.person(0, 9);
        x.call(8, 0, false);
        x.advance(2);
        check.due("of age behind the roll day", x.isOnRoll(0), true);
        check.due("of age on the day of the election", x.isOnRoll(1), true);
        check.due("of age the day behind", x.isOnRoll(2), false);
    }

    @Sentence("with the crossing at which it dwells on the roll day.")
    @Broken(from = "int rollDay = election.day - ROLL_AHEAD;", to = "int rollDay = election.day - ROLL_AHEAD - 1;")
    static void rollHasTheCrossingOfTheRollDay(Check check) {
        BallotFoundry x = new BallotFoundry();
        x.station(0, 20);
        x.station(35, 20);
        Ready.settlers(x, 3, 0);
        x.call(9, 0, false);
        x.move(0, 35);
        x.advance(2);
        x.move(1, 35);
        x.advance(1);
        x.move(2, 35);
        stationsDue(check, x, 1, 1, 0);
    }

    @Sentence("Then each of these, by rising numbers, gets a station:")
    @Broken(from = "for (int person = 0; person < peopleHere; person++) { Person who",
        to = "for (int person = peopleHere - 1; person >= 0; person--) { Person who")
    static void rollGoesByRisingNumbers(Check check) {
        stationsDue(check, rolled(4, 0, 1, 1, 1, 2, 20), 0, 1, 2, 2);
    }

    @Sentence("of those to which there is a way,")
    @Broken(from = "streets != NONE && hasSeat", to = "hasSeat")
    static void stationNeedsAWay(Check check) {
        BallotFoundry x = Ready.town(0);
        x.station(2, 20);
        x.bar(0, 1, true);
        x.bar(0, 6, true);
        x.person(1, 0);
        x.person(0, 0);
        x.call(8, 0, false);
        x.advance(2);
        stationsDue(check, x, 1, 0);
    }

    @Sentence("and that have fewer than their seats of people so far,")
    @Broken(from = "election.roll.peopleAt(station) < stations.seats[station]",
        to = "election.roll.peopleAt(station) <= stations.seats[station]")
    @Broken(from = "election.roll.peopleAt(station) < stations.seats[station]",
        to = "election.roll.peopleAt(station) + 1 < stations.seats[station]")
    static void stationNeedsASeat(Check check) {
        stationsDue(check, rolled(5, 0, 2, 1, 0, 2, 1, 35, 20), 0, 0, 2, 3, 3);
    }

    @Sentence("the one with the shortest way,")
    @Broken(from = "streets < shortest", to = "streets > shortest")
    @Broken(from = "|| streets < shortest")
    static void stationIsTheNearest(Check check) {
        stationsDue(check, rolled(4, 12, 1, 3, 1, 1, 1, 6, 1), 2, 3, 0, 1);
    }

    @Sentence("of several the lowest;")
    @Broken(from = "streets < shortest", to = "streets <= shortest")
    static void nearestIsTheLowestOfSeveral(Check check) {
        stationsDue(check, rolled(4, 7, 1, 1, 1, 6, 1, 1, 1), 1, 2, 3, 0);
    }

    @Sentence("if there is none such, of those to which there is a way the one with the fewest people so far,")
    @Broken(from = "there < fewest", to = "there > fewest")
    @Broken(from = "|| there < fewest")
    @Broken(from = "streets != NONE && (emptiest", to = "(emptiest")
    static void fullStationsFillEvenly(Check check) {
        BallotFoundry x = new BallotFoundry();
        x.station(14, 0);
        x.station(0, 2);
        x.station(35, 1);
        Ready.settlers(x, 7, 0);
        x.bar(14, 8, true);
        x.bar(14, 13, true);
        x.bar(14, 15, true);
        x.bar(14, 20, true);
        x.call(8, 0, false);
        x.advance(2);
        stationsDue(check, x, 1, 1, 2, 2, 1, 2, 1);
    }

    @Sentence("if there is none such, of those to which there is a way the one with the fewest people so far, "
        + "of several the lowest;")
    @Broken(from = "there < fewest", to = "there <= fewest")
    static void emptiestIsTheLowestOfSeveral(Check check) {
        stationsDue(check, rolled(4, 35, 0, 1, 0, 0, 0), 0, 1, 2, 0);
    }

    @Sentence("if there is no way to any, the station 0.")
    @Broken(from = "emptiest != NONE ? emptiest : 0", to = "emptiest != NONE ? emptiest : stations.size - 1")
    @Broken(from = "emptiest != NONE ? emptiest : 0", to = "emptiest")
    static void noWayToAnyStation(Check check) {
        BallotFoundry x = new BallotFoundry();
        x.station(34, 0);
        x.station(1, 20);
        Ready.settlers(x, 2, 0);
        x.bar(0, 1, true);
        x.bar(0, 6, true);
        x.call(8, 0, false);
        x.advance(2);
        stationsDue(check, x, 0, 0);
        check.due("though it has no seat", x.peopleOf(0), 2);
        check.due("on the roll all the same", x.isOnRoll(1), true);
    }

    @Sentence("What changes later, changes neither the roll nor the stations of people.")
    @Broken(at = "public boolean die(", from = "who.hasDied = true;",
        to = "who.hasDied = true; election.roll.stationsOfPeople[person] = NONE;")
    @Broken(at = "public int move(", from = "int before =",
        to = "if (election.stage == EARLY) { town.measureFrom(crossing); "
            + "election.roll.stationsOfPeople[person] = chooseStation(); } int before =")
    @Broken(at = "public int person(", from = "peopleHere++;",
        to = "peopleHere++; if (election.stage == EARLY) { election.roll.enter(number, 0); }")
    @Broken(at = "public int setSeats(", from = "stations.seats[station] = seats;",
        to = "stations.seats[station] = seats; if (election.stage == EARLY) { election.roll.clear(); makeRoll(); }")
    @Broken(at = "public boolean bar(", from = "return town.setBarred(street, isBarred);",
        to = "boolean was = town.setBarred(street, isBarred); "
            + "if (election.stage == EARLY) { election.roll.clear(); makeRoll(); } return was;")
    @Broken(at = "public int station(", from = "return stations.add(crossing, seats);",
        to = "int added = stations.add(crossing, seats); "
            + "if (election.stage == EARLY) { election.roll.clear(); makeRoll(); } return added;")
    static void laterChangesLeaveTheRoll(Check check) {
        BallotFoundry x = new BallotFoundry();
        x.station(0, 20);
        x.station(35, 20);
        Ready.settlers(x, 2, 1);
        Ready.settlers(x, 2, 35);
        x.call(8, 0, false);
        x.advance(2);
        x.move(0, 35);
        stationsDue(check, x, 0, 0, 1, 1);
        x.bar(0, 1, true);
        x.bar(0, 6, true);
        stationsDue(check, x, 0, 0, 1, 1);
        x.bar(0, 1, false);
        x.setSeats(0, 0);
        stationsDue(check, x, 0, 0, 1, 1);
        x.setSeats(0, 20);
        x.station(1, 20);
        stationsDue(check, x, 0, 0, 1, 1);
        x.die(1);
        check.due("who dies stays on it", x.isOnRoll(1), true);
        x.person(0, 0);
        check.due("who comes is not on it", x.isOnRoll(4), false);
        x.advance(50);
        stationsDue(check, x, 0, 0, 1, 1, BallotFoundry.NONE);
    }

    @Sentence({"The stages of an election are CALLED up to its roll day,", "EARLY from then on,"})
    @Broken(from = "stage = CALLED;", to = "stage = EARLY;")
    @Broken(from = "election.stage = EARLY;")
    @Broken(from = "now == election.day - ROLL_AHEAD + 1", to = "now == election.day - ROLL_AHEAD")
    static void calledUpToTheRollDayAndEarlyThen(Check check) {
        BallotFoundry x = Ready.town(0);
        x.call(9, 0, false);
        int[] due = {BallotFoundry.CALLED, BallotFoundry.CALLED, BallotFoundry.CALLED, BallotFoundry.EARLY,
            BallotFoundry.EARLY};
        for (int day = 0; day < due.length; day++) {
            check.due("stage on the day " + day, x.stage(), due[day]);
            x.advance(1);
        }
    }

    @Sentence({"VOTING on its day,", "COUNTING from the day behind it on,"})
    @Broken(from = "election.stage = VOTING;")
    @Broken(from = "election.stage = COUNTING;")
    @Broken(from = "now == election.day + 1", to = "now == election.day + 2")
    @Broken(from = "election.stage == EARLY && now == election.day",
        to = "election.stage == EARLY && now == election.day - 1")
    static void votingOnItsDayAndCountingThen(Check check) {
        BallotFoundry x = Ready.town(0);
        x.call(8, 0, false);
        x.advance(7);
        check.due("on the eve", x.stage(), BallotFoundry.EARLY);
        x.advance(1);
        check.due("on its day", x.stage(), BallotFoundry.VOTING);
        x.advance(1);
        check.due("the day behind it", x.stage(), BallotFoundry.COUNTING);
        x.advance(100);
        check.due("long behind it", x.stage(), BallotFoundry.COUNTING);
    }

    @Sentence({"until all its stations are settled,", "and DONE then."})
    @Broken(from = "if (election.isAllSettled()) { election.stage = DONE; }")
    @Broken(from = "if (election.isAllSettled()) { election.stage = DONE; }", to = "election.stage = DONE;")
    @Broken(from = "boolean isAllSettled() { for (int station = 0; station < stationsOfIt; station++) {",
        to = "boolean isAllSettled() { for (int station = 0; station < stationsOfIt - 1; station++) {")
    static void doneWhenAllAreSettled(Check check) {
        BallotFoundry x = Ready.twoStations();
        x.advance(7);
        Ready.settle(x, 0);
        check.due("one of two", x.stage(), BallotFoundry.COUNTING);
        x.count(1, 0);
        check.due("one count is missing", x.stage(), BallotFoundry.COUNTING);
        x.count(1, 1);
        check.due("both", x.stage(), BallotFoundry.DONE);
        x.advance(100);
        check.due("stays", x.stage(), BallotFoundry.DONE);
    }

    @Sentence("The stations of an election are those that there are when the roll is made.")
    @Broken(from = "election.stationsOfIt = stations.size;", to = "election.stationsOfIt = 1;")
    @Broken(from = "station >= election.stationsOfIt", to = "station >= stations.size")
    @Broken(from = "boolean isAllSettled() { for (int station = 0; station < stationsOfIt; station++) {",
        to = "boolean isAllSettled() { for (int station = 0; station < MOST_STATIONS; station++) {")
    static void stationsAreThoseOfTheRoll(Check check) {
        BallotFoundry x = Ready.town(0);
        x.person(35, 0);
        x.call(8, 0, false);
        x.advance(1);
        x.station(35, 20);
        x.advance(1);
        x.station(35, 20);
        check.due("added on the roll day", x.stationOf(0), 1);
        x.advance(7);
        check.fails("added when the roll was made", Check.STATE, () -> x.count(2, 0));
        Ready.settle(x, 0);
        check.due("without the second", x.stage(), BallotFoundry.COUNTING);
        Ready.settle(x, 1);
        check.due("without the third", x.stage(), BallotFoundry.DONE);
    }

    @Sentence("NO_ELECTION is ahead of the first one.")
    @Broken(from = "private int stage = NO_ELECTION;", to = "private int stage = DONE;")
    static void noElectionAheadOfTheFirst(Check check) {
        BallotFoundry x = Ready.town(0);
        check.due("at first", x.stage(), BallotFoundry.NO_ELECTION);
        x.advance(100);
        check.due("as long as none is called", x.stage(), BallotFoundry.NO_ELECTION);
        x.call(8, 0, false);
        check.due("not any more", x.stage(), BallotFoundry.CALLED);
    }

    @Sentence("While it is EARLY, each person on the roll can vote early for a party, or BLANK.")
    @Broken(at = "public int early(", from = "needRange(party, 0, BLANK);", to = "needParty(party);")
    @Broken(at = "public int early(", from = "needStage(EARLY);", to = "needStage(CALLED);")
    @Broken(at = "public int early(", from = "return election.envelopes.add(person, party);",
        to = "return election.envelopes.add(person, 0);")
    static void eachOnTheRollVotesEarly(Check check) {
        BallotFoundry x = Ready.early(20);
        for (int person = 0; person < 20; person++) {
            check.due("the envelope of " + person, x.early(person, person % 6), person);
            if (person == 10) {
                x.advance(5);
            }
        }
        x.advance(2);
        Ready.settle(x, 0);
        int[] due = {4, 4, 3, 3, 3, 3};
        for (int party = 0; party < due.length; party++) {
            check.due("ballots for " + party, x.numberOf(0, party), due[party]);
        }
    }

    @Sentence("This is an envelope, SEALED at first;")
    @Broken(from = "states[size] = SEALED;", to = "states[size] = VOID;")
    @Broken(from = "states[size] = SEALED;")
    static void envelopeIsSealedAtFirst(Check check) {
        BallotFoundry x = Ready.early(1);
        x.early(0, 1);
        check.due("an envelope", x.envelopes(), 1);
        check.due("at first", x.stateOf(0), BallotFoundry.SEALED);
        x.advance(7);
        Ready.settle(x, 0);
        x.call(8, 0, false);
        x.advance(2);
        x.early(0, 1);
        check.due("where the election before had an opened one", x.stateOf(0), BallotFoundry.SEALED);
    }

    @Sentence("the envelopes of an election are numbered from 0.")
    @Broken(from = "envelopes.size = 0;")
    @Broken(at = "return NONE; } people[size] = person;", from = "return size - 1;", to = "return size;")
    static void envelopesAreNumberedFromZero(Check check) {
        BallotFoundry x = Ready.early(1);
        check.due("the first", x.early(0, 1), 0);
        check.due("the second", x.early(0, 1), 1);
        x.advance(7);
        Ready.settle(x, 0);
        x.call(8, 0, false);
        x.advance(2);
        check.due("the first of the second election", x.early(0, 1), 0);
    }

    @Sentence("An earlier envelope of the same person that is SEALED is VOID then.")
    @Broken(at = "public int early(", from = "voidEnvelopeOf(person);")
    @Broken(from = "people[envelope] == person && states[envelope] == SEALED", to = "states[envelope] == SEALED")
    static void anEarlierEnvelopeIsVoid(Check check) {
        BallotFoundry x = Ready.early(2);
        x.early(1, 1);
        x.early(0, 1);
        check.due("another's", x.stateOf(0), BallotFoundry.SEALED);
        x.early(0, 2);
        check.due("the earlier", x.stateOf(1), BallotFoundry.VOID);
        check.due("the later", x.stateOf(2), BallotFoundry.SEALED);
        check.due("another's still", x.stateOf(0), BallotFoundry.SEALED);
        x.early(0, 2);
        check.due("the later, by a third", x.stateOf(2), BallotFoundry.VOID);
    }

    @Sentence("If a person dies, its SEALED envelope is VOID.")
    @Broken(at = "public boolean die(", from = "return voidEnvelopeOf(person);", to = "return false;")
    @Broken(from = "people[envelope] == person && states[envelope] == SEALED", to = "people[envelope] == person")
    static void deathVoidsTheEnvelope(Check check) {
        BallotFoundry x = Ready.early(3);
        x.early(0, 1);
        x.early(1, 1);
        x.early(2, 1);
        x.die(0);
        check.due("while EARLY", x.stateOf(0), BallotFoundry.VOID);
        check.due("another's", x.stateOf(1), BallotFoundry.SEALED);
        x.advance(6);
        x.die(1);
        check.due("while VOTING", x.stateOf(1), BallotFoundry.VOID);
        x.open(2);
        x.die(2);
        check.due("no opened one", x.stateOf(2), BallotFoundry.OPENED);
        x.advance(1);
        check.due("the one ballot", x.ballots(0), 1);
    }

    @Sentence("On the day of the election a person on the roll can vote at its own station, once:")
    @Broken(at = "public int vote(", from = "needStage(VOTING);", to = "needStage(EARLY);")
    @Broken(at = "public int vote(",
        from = "if (election.roll.hasVoted[person]) { throw new IllegalStateException(\"the person has voted\"); }")
    @Broken(at = "public int vote(", from = "election.roll.stationFor(person) != station", to = "station != 0")
    static void votesOnceAtItsOwnStation(Check check) {
        BallotFoundry x = Ready.twoStations();
        check.fails("ahead of the day", Check.STATE, () -> x.vote(0, 0, 1));
        x.advance(6);
        check.fails("at another station", Check.STATE, () -> x.vote(3, 0, 1));
        check.due("at its own", x.vote(3, 1, 1), 1);
        check.fails("twice", Check.STATE, () -> x.vote(3, 1, 1));
        check.due("at the station 0", x.vote(0, 0, 1), 1);
        x.advance(1);
        check.fails("behind the day", Check.STATE, () -> x.vote(1, 0, 1));
    }

    @Sentence("its ballot comes into the box of that;")
    @Broken(at = "public int vote(", from = "election.castFor(person, party);")
    @Broken(at = "public int vote(", from = "election.castFor(person, party);", to = "election.castFor(person, 0);")
    @Broken(from = "boxes[station].put(ballot);", to = "boxes[0].put(ballot);")
    static void ballotComesIntoTheBox(Check check) {
        BallotFoundry x = Ready.twoStations();
        x.advance(6);
        x.vote(2, 1, 4);
        check.due("into the box of its station", x.ballots(1), 1);
        check.due("not into another", x.ballots(0), 0);
        x.advance(1);
        Ready.settle(x, 1);
        check.due("as what it is", x.numberOf(1, 4), 1);
    }

    @Sentence("a SEALED envelope of the person is VOID then.")
    @Broken(at = "public int vote(", from = "voidEnvelopeOf(person);")
    @Broken(at = "public int vote(", from = "voidEnvelopeOf(person);", to = "voidEnvelopeOf(0);")
    static void voteVoidsTheEnvelope(Check check) {
        BallotFoundry x = Ready.early(2);
        x.early(0, 1);
        x.early(1, 2);
        x.advance(6);
        x.vote(1, 0, 3);
        check.due("its envelope", x.stateOf(1), BallotFoundry.VOID);
        check.due("another's", x.stateOf(0), BallotFoundry.SEALED);
        x.advance(1);
        check.due("a ballot of each", x.ballots(0), 2);
    }

    @Sentence("Or it can have its SEALED envelope opened: that is OPENED,")
    @Broken(from = "envelopes.states[envelope] = OPENED;")
    @Broken(from = "envelopes.states[envelope] = OPENED;", to = "envelopes.states[envelope] = VOID;")
    static void openedAtItsWish(Check check) {
        BallotFoundry x = Ready.early(2);
        x.early(0, 1);
        x.early(1, 1);
        x.advance(6);
        x.open(1);
        check.due("its envelope", x.stateOf(1), BallotFoundry.OPENED);
        check.due("another's", x.stateOf(0), BallotFoundry.SEALED);
    }

    @Sentence("its ballot comes into the box of the station of the person,")
    @Broken(at = "void openEnvelope(", from = "castFor(person, envelopes.ballots[envelope]);")
    @Broken(at = "void openEnvelope(", from = "envelopes.ballots[envelope]", to = "envelopes.ballots[0]")
    @Broken(from = "boxes[station].put(ballot);", to = "boxes[0].put(ballot);")
    static void openedBallotComesIntoTheBox(Check check) {
        BallotFoundry x = Ready.twoStations();
        x.early(0, 1);
        x.early(3, 5);
        x.move(3, 0);
        x.advance(6);
        x.open(3);
        check.due("the box of its station", x.ballots(1), 1);
        check.due("another box", x.ballots(0), 0);
        x.advance(1);
        Ready.settle(x, 1);
        check.due("as what it is", x.numberOf(1, BallotFoundry.BLANK), 1);
    }

    @Sentence("and the person has voted.")
    @Broken(at = "void castFor(", from = "roll.hasVoted[person] = true;")
    static void whoHasItOpenedHasVoted(Check check) {
        BallotFoundry x = Ready.early(1);
        x.early(0, 1);
        x.advance(6);
        x.open(0);
        check.fails("a vote then", Check.STATE, () -> x.vote(0, 0, 1));
        check.due("one ballot", x.ballots(0), 1);
    }

    @Sentence("When the day of the election ends, all envelopes that are SEALED are OPENED,")
    @Broken(from = "election.openAllSealed();")
    @Broken(at = "void openAllSealed()", from = "envelopes.states[envelope] == SEALED",
        to = "envelopes.states[envelope] != OPENED")
    @Broken(at = "void openAllSealed()", from = "envelope < envelopes.size", to = "envelope < envelopes.size - 1")
    static void dayEndOpensAllSealed(Check check) {
        BallotFoundry x = Ready.early(3);
        x.early(0, 1);
        x.early(0, 2);
        x.early(1, 1);
        x.early(2, 1);
        x.advance(6);
        x.open(1);
        check.due("sealed on the day", x.stateOf(3), BallotFoundry.SEALED);
        x.advance(1);
        int[] due = {BallotFoundry.VOID, BallotFoundry.OPENED, BallotFoundry.OPENED, BallotFoundry.OPENED};
        for (int envelope = 0; envelope < due.length; envelope++) {
            check.due("the envelope " + envelope, x.stateOf(envelope), due[envelope]);
        }
    }

    @Sentence("by rising numbers, and their ballots come into the boxes of the stations of their people.")
    @Broken(at = "void openAllSealed()", from = "for (int envelope = 0; envelope < envelopes.size; envelope++)",
        to = "for (int envelope = envelopes.size - 1; envelope >= 0; envelope--)")
    @Broken(from = "boxes[station].put(ballot);", to = "boxes[0].put(ballot);")
    @Broken(at = "void openEnvelope(", from = "castFor(person, envelopes.ballots[envelope]);")
    static void dayEndOpensByRisingNumbers(Check check) {
        BallotFoundry x = Ready.twoStations();
        x.early(1, 0);
        x.early(3, 4);
        x.early(0, 2);
        x.advance(7);
        check.due("the box 0", x.ballots(0), 2);
        check.due("the box 1", x.ballots(1), 1);
        x.setSlip(0, 2);
        x.setSlip(1, 2);
        Ready.settle(x, 0);
        check.due("the first is read as what it is", x.numberOf(0, 0), 1);
        check.due("the second as the next one", x.numberOf(0, 3), 1);
    }

    @Sentence("Ballots in a box lie in the order in which they came.")
    @Broken(at = "void put(int ballot)", from = "ballots[size] = ballot;",
        to = "System.arraycopy(ballots, 0, ballots, 1, size); ballots[0] = ballot;")
    static void ballotsLieInTheirOrder(Check check) {
        BallotFoundry x = Ready.early(4);
        x.early(3, 4);
        x.early(0, 3);
        x.advance(6);
        x.vote(2, 0, 1);
        x.open(0);
        x.vote(1, 0, 2);
        x.advance(1);
        x.setSlip(0, 2);
        x.setSlip(1, 2);
        Ready.settle(x, 0);
        int[] due = {0, 1, 1, 0, 1, 1};
        for (int party = 0; party < due.length; party++) {
            check.due("1 3 2 4 read as 1 4 2 5, of " + party, x.numberOf(0, party), due[party]);
        }
    }
}
