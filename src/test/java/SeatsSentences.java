/** Promises 31 to 35: votes, seats and lots. */
final class SeatsSentences {
    private static final int FAR = Integer.MAX_VALUE;

    private SeatsSentences() {
    }

    /** Two ballots for the party 1 are read as one for 1 and one for 2. */
    private static BallotFoundry misreadInCounting(int seats) {
        BallotFoundry x = Ready.town(2);
        x.call(8, seats, false);
        x.advance(8);
        x.vote(0, 0, 1);
        x.vote(1, 0, 1);
        x.advance(1);
        x.setSlip(0, 2);
        x.setSlip(1, 2);
        return x;
    }

    private static BallotFoundry fiveForOneEach() {
        return Ready.given(5, false, 0, 1, 1, 1, 1, 1);
    }

    @Sentence(promise = 31, value = {"Returns the votes of a party in the latest election.", "Returns the votes;"})
    @Broken(at = "public int votes(", from = "election.numbersFor(party)", to = "election.ballotsFor(party)")
    @Broken(at = "public int votes(", from = "election.numbersFor(party)", to = "election.numbersFor(0)")
    @Broken(at = "public int votes(", from = "election.numbersFor(party)",
        to = "Math.min(19, election.numbersFor(party))")
    static void votesAreTold(Check check) {
        BallotFoundry x = misreadInCounting(0);
        Ready.settle(x, 0);
        int[] due = {0, 1, 1, 0, 0};
        for (int party = 0; party < 5; party++) {
            check.due("by its numbers, of " + party, x.votes(party), due[party]);
        }
        check.due("the most", Ready.done(new int[20]).votes(0), 20);
        x.call(8, 0, false);
        x.advance(9);
        x.setSlip(0, 0);
        x.setSlip(1, 0);
        Ready.settle(x, 0);
        check.due("in the next election", x.votes(1), 0);
    }

    @Sentence(promise = 31, value = "`party`: 0 to 4")
    @Broken(at = "public int votes(", from = "needParty(party);", to = "needParty(party - 1);")
    @Broken(at = "public int votes(", from = "needParty(party);", to = "needParty(party + 1);")
    static void votesTakesEachParty(Check check) {
        BallotFoundry x = Ready.done(0, 4, 4);
        check.due("the first", x.votes(0), 1);
        check.due("the last", x.votes(4), 2);
    }

    @Sentence(promise = 31, value = "NONE if it is not DONE.")
    @Broken(at = "public int votes(", from = "if (election.stage != DONE) { return NONE; }")
    @Broken(at = "public int votes(", from = "election.stage != DONE", to = "election.stage < COUNTING")
    static void votesAheadOfDone(Check check) {
        for (int stage = 0; stage < BallotFoundry.DONE; stage++) {
            check.due("at the stage " + stage, Ready.at(stage, 1).votes(0), BallotFoundry.NONE);
        }
        BallotFoundry x = oneOfTwoIsSettled();
        check.due("one of two is settled", x.votes(0), BallotFoundry.NONE);
        Ready.settle(x, 1);
        check.due("both are", x.votes(0), 2);
        x.call(8, 0, false);
        check.due("by the next call", x.votes(0), BallotFoundry.NONE);
    }

    private static BallotFoundry oneOfTwoIsSettled() {
        BallotFoundry x = Ready.twoStations();
        x.early(0, 0);
        x.early(1, 0);
        x.advance(7);
        Ready.settle(x, 0);
        return x;
    }

    @Sentence(promise = 31, value = "Throws `IndexOutOfBoundsException` if there is no such party")
    @Broken(at = "public int votes(", from = "needParty(party);")
    @Broken(at = "public int votes(", from = "needParty(party); if (election.stage != DONE) { return NONE; }",
        to = "if (election.stage != DONE) { return NONE; } needParty(party);")
    static void votesNeedsAParty(Check check) {
        int[] none = {-1, 5, -FAR - 1, FAR};
        for (int party : none) {
            check.refused("the party " + party, Check.INDEX, () -> Ready.done(0), x -> x.votes(party));
            check.refused("without an election, the party " + party, Check.INDEX, BallotFoundry::new,
                x -> x.votes(party));
        }
    }

    @Sentence(promise = 32, value = {"Returns the seats of a party in the latest election, given one by one.",
        "Returns the seats;"})
    @Broken(at = "public int seats(", from = "giveByNumbers();", to = "giveByBallots();")
    @Broken(at = "public int seats(", from = "return giving.seats[party];", to = "return giving.seats[0];")
    @Broken(from = "seats[party]++; given++;", to = "given++;")
    @Broken(at = "void give(", from = "Arrays.fill(seats, 0);")
    static void seatsAreTold(Check check) {
        BallotFoundry x = Ready.given(6, true, 0, 5, 0, 7, 3);
        int[] due = {2, 0, 3, 1, 0};
        for (int party = 0; party < 5; party++) {
            check.due("by odd ones, of " + party, x.seats(party), due[party]);
        }
        check.due("asked again", x.seats(2), 3);
        BallotFoundry y = misreadInCounting(2);
        Ready.settle(y, 0);
        check.due("by the numbers, of 1", y.seats(1), 1);
        check.due("by the numbers, of 2", y.seats(2), 1);
        check.due("all to one", Ready.given(30, false, 0, 0, 0, 0, 0, 1).seats(4), 30);
        check.due("no seats", Ready.given(0, false, 0, 1).seats(0), 0);
    }

    @Sentence(promise = 32, value = "`party`: 0 to 4")
    @Broken(at = "public int seats(", from = "needParty(party);", to = "needParty(party - 1);")
    @Broken(at = "public int seats(", from = "needParty(party);", to = "needParty(party + 1);")
    static void seatsTakesEachParty(Check check) {
        BallotFoundry x = fiveForOneEach();
        check.due("the first", x.seats(0), 1);
        check.due("the last", x.seats(4), 1);
    }

    @Sentence(promise = 32, value = "NONE if it is not DONE.")
    @Broken(at = "public int seats(", from = "if (election.stage != DONE) { return NONE; }")
    @Broken(at = "public int seats(", from = "election.stage != DONE", to = "election.stage < COUNTING")
    static void seatsAheadOfDone(Check check) {
        for (int stage = 0; stage < BallotFoundry.DONE; stage++) {
            check.due("at the stage " + stage, Ready.at(stage, 1).seats(0), BallotFoundry.NONE);
        }
        BallotFoundry x = oneOfTwoIsSettled();
        check.due("one of two is settled", x.seats(0), BallotFoundry.NONE);
        Ready.settle(x, 1);
        check.due("both are", x.seats(0), 3);
        x.call(8, 0, false);
        check.due("by the next call", x.seats(0), BallotFoundry.NONE);
    }

    @Sentence(promise = 32, value = "Throws `IndexOutOfBoundsException` if there is no such party")
    @Broken(at = "public int seats(", from = "needParty(party);")
    @Broken(at = "public int seats(", from = "needParty(party); if (election.stage != DONE) { return NONE; }",
        to = "if (election.stage != DONE) { return NONE; } needParty(party);")
    static void seatsNeedsAParty(Check check) {
        int[] none = {-1, 5, -FAR - 1, FAR};
        for (int party : none) {
            check.refused("the party " + party, Check.INDEX, () -> Ready.done(0), x -> x.seats(party));
            check.refused("without an election, the party " + party, Check.INDEX, BallotFoundry::new,
                x -> x.seats(party));
        }
    }

    @Sentence(promise = 33, value = {"Returns the party that gets a seat in the latest election.",
        "`place`: from 0: the first seat that is given", "Returns the party;"})
    @Broken(at = "public int seatAt(", from = "giveByNumbers();", to = "giveByBallots();")
    @Broken(at = "public int seatAt(", from = "return giving.partyAt(place);", to = "return giving.partyAt(place - 1);")
    @Broken(at = "public int seatAt(", from = "return giving.partyAt(place);", to = "return giving.partyAt(place + 1);")
    @Broken(from = "parties[place] = party;")
    @Broken(at = "public int seatAt(", from = "if (place < 0)", to = "if (place <= 0)")
    static void seatAtTellsTheParty(Check check) {
        BallotFoundry x = Ready.given(6, false, 0, 5, 0, 7, 3);
        int[] due = {2, 0, 2, 3, 0, 2};
        for (int place = 0; place < due.length; place++) {
            check.due("the place " + place, x.seatAt(place), due[place]);
        }
        check.due("asked again", x.seatAt(0), 2);
        BallotFoundry y = misreadInCounting(2);
        Ready.settle(y, 0);
        check.due("both by the numbers", y.seatAt(0) + y.seatAt(1), 3);
        check.due("the last of the most", Ready.given(30, false, 0, 0, 0, 0, 0, 1).seatAt(29), 4);
    }

    @Sentence(promise = 33, value = "NONE if it is not DONE,")
    @Broken(at = "public int seatAt(", from = "if (election.stage != DONE) { return NONE; }")
    @Broken(at = "public int seatAt(", from = "election.stage != DONE", to = "election.stage < COUNTING")
    static void seatAtAheadOfDone(Check check) {
        BallotFoundry x = misreadInCounting(2);
        check.due("while COUNTING", x.seatAt(0), BallotFoundry.NONE);
        x.count(0, 0);
        check.due("by one count", x.seatAt(0), BallotFoundry.NONE);
        x.count(0, 1);
        check.due("DONE", x.seatAt(0) > 0, true);
        x.call(8, 2, false);
        check.due("by the next call", x.seatAt(0), BallotFoundry.NONE);
        for (int stage = 0; stage < BallotFoundry.DONE; stage++) {
            check.due("at the stage " + stage, Ready.at(stage, 1).seatAt(0), BallotFoundry.NONE);
        }
        BallotFoundry y = oneOfTwoIsSettled();
        check.due("one of two is settled", y.seatAt(0), BallotFoundry.NONE);
        Ready.settle(y, 1);
        check.due("both are", y.seatAt(0), 0);
    }

    @Sentence(promise = 33, value = "or not so many seats are given.")
    @Broken(from = "if (place < 0 || place >= given || place >= MOST_PARTY_SEATS) { return NONE; }",
        to = "if (place < 0 || place >= MOST_PARTY_SEATS) { return NONE; }")
    @Broken(from = "place >= given ||", to = "place > given ||")
    @Broken(from = "given = 0; lotsDrawn", to = "lotsDrawn")
    static void seatAtBehindTheLast(Check check) {
        BallotFoundry x = Ready.given(2, false, 0, 3);
        check.due("the last", x.seatAt(1), 0);
        check.due("behind it", x.seatAt(2), BallotFoundry.NONE);
        check.due("far behind it", x.seatAt(FAR), BallotFoundry.NONE);
        check.due("behind the most", Ready.given(30, false, 0, 3).seatAt(30), BallotFoundry.NONE);
        check.due("no seats", Ready.given(0, false, 0, 3).seatAt(0), BallotFoundry.NONE);
        check.due("no votes", Ready.given(5, false, 0).seatAt(0), BallotFoundry.NONE);
        x.call(8, 1, false);
        x.advance(8);
        x.vote(0, 0, 1);
        x.advance(1);
        Ready.settle(x, 0);
        check.due("of the next election, the last", x.seatAt(0), 1);
        check.due("of the next election, behind it", x.seatAt(1), BallotFoundry.NONE);
    }

    @Sentence(promise = 33, value = "Throws `IndexOutOfBoundsException` if place is below 0")
    @Broken(at = "public int seatAt(",
        from = "if (place < 0) { throw new IndexOutOfBoundsException(\"no such place\"); }")
    @Broken(at = "public int seatAt(", from = "if (place < 0)", to = "if (place < -1)")
    @Broken(at = "public int seatAt(", from = "if (place < 0)", to = "if (place < 0 && election.stage == DONE)")
    static void seatAtNeedsAPlace(Check check) {
        check.refused("below", Check.INDEX, () -> Ready.done(0), x -> x.seatAt(-1));
        check.refused("far below", Check.INDEX, () -> Ready.done(0), x -> x.seatAt(-FAR - 1));
        check.refused("below, without an election", Check.INDEX, BallotFoundry::new, x -> x.seatAt(-1));
    }

    @Sentence(promise = 34, value = {"Returns how many lots were drawn in the latest election.", "Returns how many;"})
    @Broken(from = "lotsDrawn++;")
    @Broken(at = "void give(", from = "lotsDrawn = 0;")
    @Broken(at = "public int lots()", from = "giveByNumbers();", to = "giveByBallots();")
    @Broken(at = "private int nextParty(", from = "if (ties == 1) { return tied[0]; }")
    static void lotsAreTold(Check check) {
        BallotFoundry x = fiveForOneEach();
        check.due("four, and none for the last", x.lots(), 4);
        check.due("asked again", x.lots(), 4);
        check.due("none", Ready.given(5, false, 0, 5, 0, 7, 3).lots(), 0);
        check.due("none without votes", Ready.given(5, false, 0).lots(), 0);
        check.due("none without seats", Ready.given(0, false, 0, 1, 1).lots(), 0);
        check.due("one of two ties is behind the last seat", Ready.given(1, false, 0, 1, 1).lots(), 1);
        BallotFoundry y = misreadInCounting(1);
        Ready.settle(y, 0);
        check.due("by the numbers", y.lots(), 1);
        y.seatsByBallots(1);
        check.due("by the numbers, when the boxes were asked", y.lots(), 1);
        y.call(8, 1, false);
        y.advance(8);
        y.vote(0, 0, 1);
        y.advance(1);
        Ready.settle(y, 0);
        check.due("none in the next election", y.lots(), 0);
    }

    @Sentence(promise = 34, value = "NONE if it is not DONE.")
    @Broken(at = "public int lots()", from = "if (election.stage != DONE) { return NONE; }")
    @Broken(at = "public int lots()", from = "election.stage != DONE", to = "election.stage < COUNTING")
    static void lotsAheadOfDone(Check check) {
        for (int stage = 0; stage < BallotFoundry.DONE; stage++) {
            check.due("at the stage " + stage, Ready.at(stage, 1).lots(), BallotFoundry.NONE);
        }
        BallotFoundry x = oneOfTwoIsSettled();
        check.due("one of two is settled", x.lots(), BallotFoundry.NONE);
        Ready.settle(x, 1);
        check.due("both are", x.lots(), 0);
        x.call(8, 0, false);
        check.due("by the next call", x.lots(), BallotFoundry.NONE);
    }

    @Sentence(promise = 35, value = {
        "Returns the seats that a party would have if each station of the latest election had the numbers of its box:",
        "Returns the seats;"})
    @Broken(at = "public int seatsByBallots(", from = "giveByBallots();", to = "giveByNumbers();")
    @Broken(at = "public int seatsByBallots(", from = "return giving.seats[party];", to = "return giving.seats[0];")
    @Broken(at = "private void giveByBallots()", from = "election.ballotsFor(party)",
        to = "election.ballotsFor(party) + election.ballotsFor(BLANK)")
    static void seatsByBallotsAreTold(Check check) {
        BallotFoundry x = misreadInCounting(2);
        check.due("ahead of a count", x.seatsByBallots(1), 2);
        Ready.settle(x, 0);
        check.due("of 1, by its numbers", x.seats(1), 1);
        check.due("of 1, by its box", x.seatsByBallots(1), 2);
        check.due("of 2, by its numbers", x.seats(2), 1);
        check.due("of 2, by its box", x.seatsByBallots(2), 0);
        check.due("blank ballots alone", Ready.done(5, 5).seatsByBallots(0), 0);
        check.due("blank ballots are no party's", Ready.given(3, false, 0, 2, 1, 0, 0, 0, 17).seatsByBallots(2), 0);
        check.due("empty boxes", Ready.done().seatsByBallots(0), 0);
        x.call(8, 2, false);
        x.advance(9);
        check.due("in the next election", x.seatsByBallots(1), 0);
    }

    @Sentence(promise = 35, value = "found from all boxes at once,")
    @Broken(at = "int ballotsFor(int party)", from = "station < stationsOfIt", to = "station < stationsOfIt - 1")
    @Broken(at = "int ballotsFor(int party)", from = "station < stationsOfIt", to = "station <= stationsOfIt")
    @Broken(at = "int ballotsFor(int party)", from = "sum += ", to = "sum = ")
    static void seatsByBallotsAreFromAllBoxes(Check check) {
        BallotFoundry x = Ready.twoStations();
        x.advance(6);
        x.vote(0, 0, 3);
        x.vote(1, 0, BallotFoundry.BLANK);
        x.vote(2, 1, 2);
        x.vote(3, 1, 2);
        x.advance(1);
        check.due("for two ballots in the box 1", x.seatsByBallots(2), 2);
        check.due("for one in the box 0", x.seatsByBallots(3), 1);
        BallotFoundry y = Ready.votingAtFive();
        for (int person = 0; person < 5; person++) {
            y.vote(person, person, 4 - person);
        }
        y.advance(1);
        for (int party = 0; party < 5; party++) {
            check.due("one in each of five boxes", y.seatsByBallots(party), 1);
        }
    }

    @Sentence(promise = 35, value = "and given likewise, with lots from the first number on.")
    @Broken(at = "private void giveByBallots()", from = "election.isOdd", to = "!election.isOdd")
    @Broken(at = "private void giveByBallots()", from = "election.sumOfSeeds()", to = "0")
    @Broken(at = "private void giveByBallots()", from = "election.sumOfSeeds()", to = "giving.number")
    @Broken(at = "private void giveByBallots()", from = "election.partySeats", to = "MOST_PARTY_SEATS")
    static void seatsByBallotsDrawFromTheFirstNumber(Check check) {
        // The first number 1 lets the lot among two fall on the first, and 0 on the second
        BallotFoundry x = Ready.given(1, false, 1, 1, 1);
        for (int asked = 0; asked < 3; asked++) {
            check.due("of 0", x.seatsByBallots(0), 1);
            check.due("of 1", x.seatsByBallots(1), 0);
            check.due("by the numbers", x.seatAt(0), 0);
        }
        check.due("by odd ones", Ready.given(2, true, 0, 5, 2).seatsByBallots(1), 1);
        check.due("by all", Ready.given(2, false, 0, 5, 2).seatsByBallots(1), 0);
    }

    @Sentence(promise = 35, value = "`party`: 0 to 4")
    @Broken(at = "public int seatsByBallots(", from = "needParty(party);", to = "needParty(party - 1);")
    @Broken(at = "public int seatsByBallots(", from = "needParty(party);", to = "needParty(party + 1);")
    static void seatsByBallotsTakesEachParty(Check check) {
        BallotFoundry x = fiveForOneEach();
        check.due("the first", x.seatsByBallots(0), 1);
        check.due("the last", x.seatsByBallots(4), 1);
    }

    @Sentence(promise = 35, value = "NONE ahead of COUNTING.")
    @Broken(at = "public int seatsByBallots(",
        from = "if (election.stage != COUNTING && election.stage != DONE) { return NONE; }")
    @Broken(at = "public int seatsByBallots(", from = "election.stage != COUNTING && election.stage != DONE",
        to = "election.stage != DONE")
    @Broken(at = "public int seatsByBallots(", from = "election.stage != COUNTING && election.stage != DONE",
        to = "election.stage < VOTING")
    static void seatsByBallotsAheadOfCounting(Check check) {
        for (int stage = 0; stage < Ready.STAGES; stage++) {
            int due = stage < BallotFoundry.COUNTING ? BallotFoundry.NONE : 0;
            check.due("at the stage " + stage, Ready.at(stage, 1).seatsByBallots(0), due);
        }
        BallotFoundry x = Ready.voting(1);
        x.vote(0, 0, 1);
        check.due("with a ballot in its box", x.seatsByBallots(1), BallotFoundry.NONE);
        x.advance(1);
        check.due("when the day has ended", x.seatsByBallots(1), 3);
        Ready.settle(x, 0);
        x.call(8, 0, false);
        check.due("by the next call", x.seatsByBallots(1), BallotFoundry.NONE);
    }

    @Sentence(promise = 35, value = "Throws `IndexOutOfBoundsException` if there is no such party")
    @Broken(at = "public int seatsByBallots(", from = "needParty(party);")
    @Broken(at = "public int seatsByBallots(",
        from = "needParty(party); if (election.stage != COUNTING && election.stage != DONE) { return NONE; }",
        to = "if (election.stage != COUNTING && election.stage != DONE) { return NONE; } needParty(party);")
    static void seatsByBallotsNeedsAParty(Check check) {
        int[] none = {-1, 5, -FAR - 1, FAR};
        for (int party : none) {
            check.refused("the party " + party, Check.INDEX, () -> Ready.counting(0), x -> x.seatsByBallots(party));
            check.refused("without an election, the party " + party, Check.INDEX, BallotFoundry::new,
                x -> x.seatsByBallots(party));
        }
    }
}
