/** Promises 10 to 14: calling, seeds, days and stages. */
final class ElectionSentences {
    private static final int FAR = Integer.MAX_VALUE;

    private ElectionSentences() {
    }

    @Sentence(promise = 10, value = "Calls an election.")
    @Broken(at = "public int call(", from = "election.start(now + ahead, seats, isOdd);")
    @Broken(from = "roll.clear();")
    @Broken(from = "hasVoted[person] = false;")
    @Broken(from = "boxes[station].clear();")
    @Broken(from = "envelopes.size = 0;")
    @Broken(from = "book.size = 0;")
    @Broken(from = "Arrays.fill(seeds, 0);")
    static void callBeginsAnElection(Check check) {
        BallotFoundry x = Ready.early(2);
        x.seed(1, 77);
        x.early(0, 1);
        x.advance(7);
        Ready.settle(x, 0);
        check.due("done", x.stage(), BallotFoundry.DONE);
        x.call(8, 5, false);
        check.due("called", x.stage(), BallotFoundry.CALLED);
        check.due("on the roll", x.isOnRoll(0), false);
        check.due("people", x.peopleOf(0), 0);
        check.due("envelopes", x.envelopes(), 0);
        check.due("ballots", x.ballots(0), 0);
        check.due("settled", x.isSettled(0), false);
        check.due("number", x.numberOf(0, 1), BallotFoundry.NONE);
        check.due("notes", x.notes(), 0);
        check.due("votes", x.votes(1), BallotFoundry.NONE);
        check.due("seed", x.seed(1, 0), 0);
        x.advance(8);
        check.due("who has voted ahead of it votes again", x.vote(0, 0, 2), 1);
    }

    @Sentence(promise = 10, value = "`ahead`: 8 to 100: how many days from today it is")
    @Broken(from = "LEAST_AHEAD = 8", to = "LEAST_AHEAD = 9")
    @Broken(from = "MOST_AHEAD = 100", to = "MOST_AHEAD = 99")
    @Broken(from = "election.start(now + ahead,", to = "election.start(ahead,")
    static void callTakesDaysAhead(Check check) {
        BallotFoundry x = Ready.on(30);
        x.call(8, 0, false);
        x.advance(8);
        check.due("in 8 days", x.stage(), BallotFoundry.VOTING);
        BallotFoundry y = Ready.on(30);
        y.call(100, 0, false);
        y.advance(99);
        check.due("ahead of 100 days", y.stage(), BallotFoundry.EARLY);
        y.advance(1);
        check.due("in 100 days", y.stage(), BallotFoundry.VOTING);
    }

    @Sentence(promise = 10, value = "`seats`: 0 to 30: for the parties")
    @Broken(at = "public int call(", from = "needRange(seats, 0,", to = "needRange(seats, 1,")
    @Broken(from = "MOST_PARTY_SEATS = 30", to = "MOST_PARTY_SEATS = 29")
    @Broken(from = "partySeats = seatsToGive;", to = "partySeats = Math.max(1, Math.min(29, seatsToGive));")
    static void callTakesSeats(Check check) {
        check.due("none", Ready.orderOf(Ready.given(0, false, 0, 2)), "");
        check.due("one", Ready.orderOf(Ready.given(1, false, 0, 2)), "0");
        check.due("the most", Ready.orderOf(Ready.given(30, false, 0, 2)), "000000000000000000000000000000");
    }

    @Sentence(promise = 10, value = "`isOdd`: whether it is by odd ones")
    @Broken(from = "isOdd = isByOddOnes;")
    @Broken(from = "isOdd = isByOddOnes;", to = "isOdd = true;")
    @Broken(from = "isOdd = isByOddOnes;", to = "isOdd = !isByOddOnes;")
    static void callTakesOddOnes(Check check) {
        check.due("by odd ones", Ready.orderOf(Ready.given(2, true, 0, 5, 2)), "01");
        check.due("by all", Ready.orderOf(Ready.given(2, false, 0, 5, 2)), "00");
    }

    @Sentence(promise = 10, value = "Returns its day.")
    @Broken(at = "public int call(", from = "return election.day;", to = "return ahead;")
    @Broken(at = "public int call(", from = "return election.day;", to = "return election.day - ROLL_AHEAD;")
    static void callTellsItsDay(Check check) {
        check.due("from the day 0, the nearest", Ready.on(0).call(8, 0, false), 8);
        check.due("from the day 0, the farthest", Ready.on(0).call(100, 0, false), 100);
        check.due("from the day 250", Ready.on(250).call(9, 0, false), 259);
        check.due("the last day of all", Ready.on(1992).call(8, 0, false), 2000);
    }

    @Sentence(promise = 10, value = "Throws `IllegalArgumentException` if ahead or seats is out of range")
    @Broken(from = "LEAST_AHEAD = 8", to = "LEAST_AHEAD = 7")
    @Broken(from = "MOST_AHEAD = 100", to = "MOST_AHEAD = 101")
    @Broken(at = "public int call(", from = "needRange(seats, 0,", to = "needRange(seats, -1,")
    @Broken(from = "MOST_PARTY_SEATS = 30", to = "MOST_PARTY_SEATS = 31")
    static void callNeedsArgumentsInRange(Check check) {
        int[] aheads = {7, 101, 0, -8, -FAR - 1, FAR};
        for (int ahead : aheads) {
            check.refused("ahead " + ahead, Check.ARGUMENT, () -> Ready.town(1), x -> x.call(ahead, 3, false));
        }
        int[] seats = {-1, 31, -FAR - 1, FAR};
        for (int each : seats) {
            check.refused("seats " + each, Check.ARGUMENT, () -> Ready.town(1), x -> x.call(8, each, true));
        }
    }

    @Sentence(promise = 10, value = "Throws `IllegalStateException` if the stage is neither NO_ELECTION nor DONE,")
    @Broken(from = "election.stage != NO_ELECTION && election.stage != DONE", to = "election.stage != NO_ELECTION")
    @Broken(from = "election.stage != NO_ELECTION && election.stage != DONE",
        to = "election.stage != NO_ELECTION && election.stage < COUNTING")
    @Broken(from = "election.stage != NO_ELECTION && election.stage != DONE",
        to = "election.stage != NO_ELECTION && election.stage != DONE && election.stage != CALLED")
    @Broken(from = "election.stage != NO_ELECTION && election.stage != DONE",
        to = "election.stage != NO_ELECTION && election.stage != DONE && election.stage != EARLY")
    @Broken(from = "election.stage != NO_ELECTION && election.stage != DONE",
        to = "election.stage != NO_ELECTION && election.stage != DONE && election.stage != VOTING")
    static void callNeedsNoElectionOrDone(Check check) {
        for (int stage = BallotFoundry.CALLED; stage <= BallotFoundry.COUNTING; stage++) {
            int at = stage;
            check.refused("at the stage " + stage, Check.STATE, () -> Ready.at(at, 1), x -> x.call(8, 3, false));
        }
        check.due("NO_ELECTION", Ready.at(BallotFoundry.NO_ELECTION, 1).call(8, 3, false), 8);
        check.due("DONE", Ready.at(BallotFoundry.DONE, 1).call(8, 3, false), 17);
    }

    @Sentence(promise = 10, value = "there is no station,")
    @Broken(from = "if (stations.size == 0) { throw new IllegalStateException(\"no station\"); }")
    @Broken(from = "if (stations.size == 0) {", to = "if (stations.size <= 1) {")
    static void callNeedsAStation(Check check) {
        check.refused("without any", Check.STATE, BallotFoundry::new, x -> x.call(8, 3, false));
        BallotFoundry y = new BallotFoundry();
        y.station(0, 0);
        check.due("with one", y.call(8, 3, false), 8);
    }

    @Sentence(promise = 10, value = "or its day would be above 2000")
    @Broken(from = "LAST_ELECTION_DAY = 2000", to = "LAST_ELECTION_DAY = 1999")
    @Broken(from = "LAST_ELECTION_DAY = 2000", to = "LAST_ELECTION_DAY = 2001")
    @Broken(from = "if (now + ahead > LAST_ELECTION_DAY)", to = "if (now > LAST_ELECTION_DAY)")
    static void callNeedsADayUpTo2000(Check check) {
        check.due("2000, the farthest ahead", Ready.on(1900).call(100, 0, false), 2000);
        check.refused("2001, the farthest ahead", Check.STATE, () -> Ready.on(1901), x -> x.call(100, 0, false));
        check.refused("2001, the nearest", Check.STATE, () -> Ready.on(1993), x -> x.call(8, 0, false));
        check.refused("from the last day", Check.STATE, () -> Ready.on(2100), x -> x.call(8, 0, false));
    }

    @Sentence(promise = 11, value = "A party tells its seed, in place of one that it may have told for the election.")
    @Broken(from = "election.seeds[party] = seed;")
    @Broken(from = "election.seeds[party] = seed;", to = "election.seeds[party] += seed;")
    @Broken(from = "election.seeds[party] = seed;", to = "election.seeds[0] = seed;")
    @Broken(from = "election.seeds[party] = seed;", to = "if (before == 0) { election.seeds[party] = seed; }")
    static void seedIsInPlaceOfTheOneBefore(Check check) {
        // The first number 2 lets the lot among two fall on the second, and 1 on the first
        BallotFoundry x = Ready.town(2);
        x.call(8, 1, false);
        x.seed(3, 1);
        x.seed(3, 2);
        x.advance(8);
        x.vote(0, 0, 1);
        x.vote(1, 0, 4);
        x.advance(1);
        Ready.settle(x, 0);
        check.due("the lot by the second one", x.seatAt(0), 4);
        BallotFoundry y = Ready.called(0);
        y.seed(3, 5);
        y.seed(3, 6);
        check.due("the second one", y.seed(3, 0), 6);
        check.due("none again", y.seed(3, 7), 0);
        check.due("another party's", y.seed(0, 0), 0);
    }

    @Sentence(promise = 11, value = "`party`: 0 to 4")
    @Broken(at = "public int seed(", from = "needParty(party);", to = "needParty(party - 1);")
    @Broken(at = "public int seed(", from = "needParty(party);", to = "needParty(party + 1);")
    static void seedTakesEachParty(Check check) {
        BallotFoundry x = Ready.called(0);
        x.seed(0, 1);
        x.seed(4, 2);
        check.due("the first", x.seed(0, 0), 1);
        check.due("the last", x.seed(4, 0), 2);
    }

    @Sentence(promise = 11, value = "`seed`: 0 to 9999")
    @Broken(at = "public int seed(", from = "needRange(seed, 0,", to = "needRange(seed, 1,")
    @Broken(from = "MOST_SEED = 9999", to = "MOST_SEED = 9998")
    static void seedTakesEachNumber(Check check) {
        BallotFoundry x = Ready.called(0);
        check.due("the greatest", x.seed(2, 9999), 0);
        check.due("the least", x.seed(2, 0), 9999);
        check.due("the least is told", x.seed(2, 1), 0);
    }

    @Sentence(promise = 11, value = "Returns the seed before.")
    @Broken(at = "public int seed(", from = "return before;", to = "return seed;")
    @Broken(at = "public int seed(", from = "return before;", to = "return election.sumOfSeeds() - seed;")
    @Broken(from = "Arrays.fill(seeds, 0);")
    static void seedTellsTheOneBefore(Check check) {
        BallotFoundry x = Ready.called(0);
        check.due("none", x.seed(1, 4), 0);
        check.due("another party's none", x.seed(2, 9), 0);
        check.due("the one", x.seed(1, 5), 4);
        check.due("the next", x.seed(1, 5), 5);
        x.advance(9);
        Ready.settle(x, 0);
        x.call(8, 0, false);
        check.due("none for the next election", x.seed(1, 1), 0);
    }

    @Sentence(promise = 11, value = "Throws `IndexOutOfBoundsException` if there is no such party")
    @Broken(at = "public int seed(", from = "needParty(party);")
    @Broken(at = "void needParty(", from = "party >= PARTIES", to = "party > PARTIES")
    static void seedNeedsAParty(Check check) {
        int[] none = {-1, 5, -FAR - 1, FAR};
        for (int party : none) {
            check.refused("the party " + party, Check.INDEX, () -> Ready.called(1), x -> x.seed(party, 1));
        }
    }

    @Sentence(promise = 11, value = "Throws `IllegalArgumentException` if seed is out of range")
    @Broken(at = "public int seed(", from = "needRange(seed, 0,", to = "needRange(seed, -1,")
    @Broken(from = "MOST_SEED = 9999", to = "MOST_SEED = 10000")
    static void seedNeedsANumberInRange(Check check) {
        int[] out = {-1, 10000, -FAR - 1, FAR};
        for (int seed : out) {
            check.refused("the seed " + seed, Check.ARGUMENT, () -> Ready.called(1), x -> x.seed(0, seed));
        }
    }

    @Sentence(promise = 11, value = "Throws `IllegalStateException` if it is neither CALLED nor EARLY")
    @Broken(at = "public int seed(", from = "election.stage != CALLED && election.stage != EARLY",
        to = "election.stage == VOTING")
    @Broken(at = "public int seed(", from = "election.stage != CALLED && election.stage != EARLY",
        to = "election.stage != CALLED && election.stage != EARLY && election.stage != NO_ELECTION")
    @Broken(at = "public int seed(", from = "election.stage != CALLED && election.stage != EARLY",
        to = "election.stage == NO_ELECTION || election.stage > VOTING")
    @Broken(at = "public int seed(", from = "election.stage != CALLED && election.stage != EARLY",
        to = "election.stage != CALLED")
    static void seedNeedsCalledOrEarly(Check check) {
        for (int stage = 0; stage < Ready.STAGES; stage++) {
            int at = stage;
            if (stage == BallotFoundry.CALLED || stage == BallotFoundry.EARLY) {
                check.due("at the stage " + stage, Ready.at(at, 1).seed(0, 1), 0);
            } else {
                check.refused("at the stage " + stage, Check.STATE, () -> Ready.at(at, 1), x -> x.seed(0, 1));
            }
        }
    }

    @Sentence(promise = 12, value = {"Lets days pass.", "Returns today then."})
    @Broken(at = "public int advance(", from = "return now;", to = "return days;")
    @Broken(at = "public int advance(", from = "for (int passed = 0; passed < days; passed++) { now++; beginDay(); }",
        to = "now += days; beginDay();")
    @Broken(at = "public int advance(", from = "beginDay();")
    static void daysPass(Check check) {
        BallotFoundry x = Ready.town(1);
        check.due("three", x.advance(3), 3);
        check.due("four more", x.advance(4), 7);
        check.due("today", x.today(), 7);
        x.call(8, 1, false);
        check.due("over all days of an election", x.advance(20), 27);
        check.due("its stage", x.stage(), BallotFoundry.COUNTING);
        check.due("its roll", x.isOnRoll(0), true);
    }

    @Sentence(promise = 12, value = "`days`: 1 to 100")
    @Broken(from = "needRange(days, 1, MOST_DAYS);", to = "needRange(days, 2, MOST_DAYS);")
    @Broken(from = "MOST_DAYS = 100", to = "MOST_DAYS = 99")
    static void advanceTakesDays(Check check) {
        BallotFoundry x = new BallotFoundry();
        check.due("the fewest", x.advance(1), 1);
        check.due("the most", x.advance(100), 101);
    }

    @Sentence(promise = 12, value = "Throws `IllegalArgumentException` if days is out of range")
    @Broken(from = "needRange(days, 1, MOST_DAYS);", to = "needRange(days, 0, MOST_DAYS);")
    @Broken(from = "MOST_DAYS = 100", to = "MOST_DAYS = 101")
    static void advanceNeedsDaysInRange(Check check) {
        int[] out = {0, -1, 101, -FAR - 1, FAR};
        for (int days : out) {
            check.refused("days " + days, Check.ARGUMENT, () -> Ready.called(1), x -> x.advance(days));
        }
    }

    @Sentence(promise = 12, value = "Throws `IllegalStateException` if it would be above 2100")
    @Broken(from = "LAST_DAY = 2100", to = "LAST_DAY = 2099")
    @Broken(from = "LAST_DAY = 2100", to = "LAST_DAY = 2101")
    @Broken(from = "if (now + days > LAST_DAY)", to = "if (now > LAST_DAY)")
    static void advanceEndsAt2100(Check check) {
        check.due("to the last day", Ready.on(2000).advance(100), 2100);
        check.refused("the most days, to the day 2101", Check.STATE, () -> Ready.on(2001), x -> x.advance(100));
        check.refused("one day, to the day 2101", Check.STATE, () -> Ready.on(2100), x -> x.advance(1));
        BallotFoundry y = Ready.on(2099);
        check.fails("two days", Check.STATE, () -> y.advance(2));
        check.due("one day all the same", y.advance(1), 2100);
    }

    @Sentence(promise = 13, value = "Returns today.")
    @Broken(at = "public int today()", from = "return now;", to = "return now + 1;")
    @Broken(at = "public int today()", from = "return now;", to = "return Math.min(now, 2099);")
    @Broken(at = "public int today()", from = "return now;", to = "return election.day;")
    static void todayIsTold(Check check) {
        BallotFoundry x = Ready.called(1);
        check.due("at first", x.today(), 0);
        x.advance(1);
        check.due("the next day", x.today(), 1);
        x.advance(100);
        check.due("a hundred days on", x.today(), 101);
        check.due("the last day", Ready.on(2100).today(), 2100);
    }

    @Sentence(promise = 14, value = "Returns the stage of the latest election;")
    @Broken(at = "public int stage()", from = "return election.stage;",
        to = "return Math.min(election.stage, COUNTING);")
    @Broken(from = "stage = CALLED;")
    @Broken(from = "election.stage = VOTING;", to = "election.stage = COUNTING;")
    static void stageIsTheLatestElections(Check check) {
        for (int stage = 0; stage < Ready.STAGES; stage++) {
            check.due("the stage", Ready.at(stage, 1).stage(), stage);
        }
        BallotFoundry x = Ready.at(BallotFoundry.DONE, 1);
        x.call(8, 0, false);
        check.due("of the second", x.stage(), BallotFoundry.CALLED);
        x.advance(8);
        check.due("of the second, on its day", x.stage(), BallotFoundry.VOTING);
    }

    @Sentence(promise = 14, value = "NO_ELECTION without one.")
    @Broken(from = "private int stage = NO_ELECTION;", to = "private int stage = DONE;")
    @Broken(from = "private void beginDay() {",
        to = "private void beginDay() { if (now == 1) { election.stage = DONE; }")
    static void stageWithoutAnElection(Check check) {
        BallotFoundry x = new BallotFoundry();
        check.due("of a new object", x.stage(), BallotFoundry.NO_ELECTION);
        x.station(0, 0);
        x.person(0, 0);
        check.due("of a town", x.stage(), BallotFoundry.NO_ELECTION);
        check.due("on the last day", Ready.on(2100).stage(), BallotFoundry.NO_ELECTION);
        check.fails("a call that throws calls none", Check.ARGUMENT, () -> x.call(7, 0, false));
        check.due("behind a call that throws", x.stage(), BallotFoundry.NO_ELECTION);
    }
}
