/** Promises 25 to 30: slips, counts and the numbers of stations. */
final class CountingSentences {
    private static final int FAR = Integer.MAX_VALUE;

    private CountingSentences() {
    }

    /** The station 0 has two ballots, the station 1 none, and the station 2 is none of the election. */
    private static BallotFoundry countingTwo() {
        BallotFoundry x = Ready.twoStations();
        x.station(0, 20);
        x.advance(6);
        x.vote(0, 0, 1);
        x.vote(1, 0, 4);
        x.advance(1);
        return x;
    }

    private static BallotFoundry countingFive() {
        BallotFoundry x = Ready.town(0);
        for (int station = 1; station < 5; station++) {
            x.station(station, 1);
        }
        x.call(8, 0, false);
        x.advance(9);
        return x;
    }

    private static BallotFoundry countedEightTimes() {
        BallotFoundry x = countingTwo();
        for (int count = 0; count < 8; count++) {
            x.count(0, 0);
        }
        return x;
    }

    private static BallotFoundry oneOfTwoIsSettled() {
        BallotFoundry x = countingTwo();
        Ready.settle(x, 0);
        return x;
    }

    @Sentence(promise = 25, value = "Sets the slip of a clerk.")
    @Broken(from = "slips[clerk] = slip;")
    @Broken(from = "slips[clerk] = slip;", to = "slips[0] = slip;")
    @Broken(from = "box.countBy(clerk, slips[clerk]);", to = "box.countBy(clerk, slips[0]);")
    static void setSlipSetsIt(Check check) {
        BallotFoundry x = Ready.counting(0, 0);
        x.setSlip(3, 2);
        x.count(0, 0);
        check.due("with the slip and without", x.count(0, 3), false);
        x.setSlip(3, 0);
        check.due("without it again", x.count(0, 3), true);
        check.due("its numbers", x.numberOf(0, 0), 2);
        x.setSlip(0, 2);
        check.due("the numbers of a station that is settled stay", x.numberOf(0, 0), 2);
    }

    @Sentence(promise = 25, value = "`clerk`: 0 to 3")
    @Broken(at = "public int setSlip(", from = "needClerk(clerk);", to = "needClerk(clerk - 1);")
    @Broken(at = "public int setSlip(", from = "needClerk(clerk);", to = "needClerk(clerk + 1);")
    static void setSlipTakesEachClerk(Check check) {
        BallotFoundry x = new BallotFoundry();
        x.setSlip(0, 5);
        x.setSlip(3, 6);
        check.due("the first", x.setSlip(0, 0), 5);
        check.due("the last", x.setSlip(3, 0), 6);
    }

    @Sentence(promise = 25, value = "`slip`: 0, or 2 to 20")
    @Broken(at = "public int setSlip(", from = "needRange(slip, 0, MOST_SLIP);", to = "needRange(slip, 1, MOST_SLIP);")
    @Broken(from = "MOST_SLIP = 20", to = "MOST_SLIP = 19")
    @Broken(from = "if (slip == 1) {", to = "if (slip == 1 || slip == 2) {")
    static void setSlipTakesEachSlip(Check check) {
        BallotFoundry x = new BallotFoundry();
        check.due("the least above 0", x.setSlip(1, 2), 0);
        check.due("the greatest", x.setSlip(1, 20), 2);
        check.due("none", x.setSlip(1, 0), 20);
        check.due("none is set", x.setSlip(1, 3), 0);
    }

    @Sentence(promise = 25, value = "Returns the slip before.")
    @Broken(at = "public int setSlip(", from = "return before;", to = "return slip;")
    @Broken(at = "public int setSlip(", from = "return before;", to = "return slips[3];")
    @Broken(at = "public int call(", from = "return election.day;", to = "Arrays.fill(slips, 0); return election.day;")
    static void setSlipTellsTheOneBefore(Check check) {
        BallotFoundry x = Ready.town(0);
        check.due("none", x.setSlip(2, 4), 0);
        check.due("another clerk's none", x.setSlip(3, 9), 0);
        check.due("the one", x.setSlip(2, 5), 4);
        check.due("the next", x.setSlip(2, 7), 5);
        x.call(8, 0, false);
        x.advance(9);
        check.due("it stays in an election", x.setSlip(2, 8), 7);
        Ready.settle(x, 0);
        x.call(8, 0, false);
        check.due("and in the next one", x.setSlip(2, 0), 8);
    }

    @Sentence(promise = 25, value = "Throws `IndexOutOfBoundsException` if there is no such clerk")
    @Broken(at = "public int setSlip(", from = "needClerk(clerk);")
    @Broken(at = "void needClerk(", from = "clerk >= CLERKS", to = "clerk > CLERKS")
    static void setSlipNeedsAClerk(Check check) {
        int[] nobody = {-1, 4, -FAR - 1, FAR};
        for (int clerk : nobody) {
            check.refused("the clerk " + clerk, Check.INDEX, CountingSentences::countingTwo, x -> x.setSlip(clerk, 2));
        }
    }

    @Sentence(promise = 25, value = "Throws `IllegalArgumentException` if slip is out of range")
    @Broken(at = "public int setSlip(", from = "needRange(slip, 0, MOST_SLIP);", to = "needRange(slip, -1, MOST_SLIP);")
    @Broken(from = "MOST_SLIP = 20", to = "MOST_SLIP = 21")
    @Broken(from = "if (slip == 1) { throw new IllegalArgumentException(\"a slip at each ballot\"); }")
    static void setSlipNeedsASlipInRange(Check check) {
        int[] out = {-1, 1, 21, -2, -FAR - 1, FAR};
        for (int slip : out) {
            check.refused("the slip " + slip, Check.ARGUMENT, CountingSentences::countingTwo, x -> x.setSlip(0, slip));
        }
    }

    @Sentence(promise = 26, value = {"A clerk counts the box of a station.",
        "Returns whether the station is settled then."})
    @Broken(at = "public boolean count(", from = "return box.hasNumbers();", to = "return election.stage == DONE;")
    @Broken(at = "public boolean count(", from = "return box.hasNumbers();", to = "return box.counts > 1;")
    @Broken(at = "public boolean count(", from = "Box box = election.boxes[station];",
        to = "Box box = election.boxes[0];")
    static void countTellsWhetherItIsSettled(Check check) {
        BallotFoundry x = countingTwo();
        check.due("a first count", x.count(0, 3), false);
        check.due("a second by the same clerk", x.count(0, 3), false);
        check.due("a first of the other station", x.count(1, 0), false);
        check.due("a third, by another clerk", x.count(0, 0), true);
        check.due("a second of the other station", x.count(1, 3), true);
        check.due("then it is DONE", x.stage(), BallotFoundry.DONE);
    }

    @Sentence(promise = 26, value = "`station`: a station")
    @Broken(at = "public boolean count(", from = "needStation(station);", to = "needStation(station - 1);")
    @Broken(at = "public boolean count(", from = "needStation(station);", to = "needStation(station + 1);")
    static void countTakesEachStation(Check check) {
        BallotFoundry x = countingFive();
        Ready.settle(x, 0);
        Ready.settle(x, 4);
        check.due("the first", x.isSettled(0), true);
        check.due("the last", x.isSettled(4), true);
        check.due("none between them", x.isSettled(3), false);
    }

    @Sentence(promise = 26, value = "`clerk`: 0 to 3")
    @Broken(at = "public boolean count(", from = "needClerk(clerk);", to = "needClerk(clerk - 1);")
    @Broken(at = "public boolean count(", from = "needClerk(clerk);", to = "needClerk(clerk + 1);")
    static void countTakesEachClerk(Check check) {
        BallotFoundry x = countingTwo();
        check.due("the first", x.count(0, 0), false);
        check.due("the last", x.count(0, 3), true);
    }

    @Sentence(promise = 26, value = "Throws `IndexOutOfBoundsException` if there is no such station or clerk")
    @Broken(at = "public boolean count(", from = "needStation(station);")
    @Broken(at = "public boolean count(", from = "needClerk(clerk);")
    @Broken(at = "private void needStation(", from = "station >= stations.size", to = "station > stations.size")
    @Broken(at = "void needClerk(", from = "clerk >= CLERKS", to = "clerk > CLERKS")
    static void countNeedsAStationAndAClerk(Check check) {
        int[] none = {-1, 3, 5, -FAR - 1, FAR};
        for (int station : none) {
            check.refused("the station " + station, Check.INDEX, CountingSentences::countingTwo,
                x -> x.count(station, 0));
        }
        check.refused("five", Check.INDEX, CountingSentences::countingFive, x -> x.count(5, 0));
        int[] nobody = {-1, 4, -FAR - 1, FAR};
        for (int clerk : nobody) {
            check.refused("the clerk " + clerk, Check.INDEX, CountingSentences::countingTwo, x -> x.count(0, clerk));
        }
    }

    @Sentence(promise = 26, value = "Throws `IllegalStateException` if it is not COUNTING,")
    @Broken(at = "public boolean count(", from = "needStage(COUNTING);")
    @Broken(at = "public boolean count(", from = "needStage(COUNTING);",
        to = "if (election.stage < VOTING) { needStage(COUNTING); }")
    static void countNeedsItsStage(Check check) {
        for (int stage = 0; stage < Ready.STAGES; stage++) {
            int at = stage;
            if (stage == BallotFoundry.COUNTING) {
                check.due("COUNTING", Ready.at(at, 1).count(0, 0), false);
            } else {
                check.refused("at the stage " + stage, Check.STATE, () -> Ready.at(at, 1), x -> x.count(0, 0));
            }
        }
    }

    @Sentence(promise = 26, value = "the station is none of the election,")
    @Broken(from = "if (station >= election.stationsOfIt) "
        + "{ throw new IllegalStateException(\"no station of the election\"); }")
    @Broken(from = "station >= election.stationsOfIt", to = "station > election.stationsOfIt")
    @Broken(from = "station >= election.stationsOfIt", to = "station + 1 >= election.stationsOfIt")
    static void countNeedsAStationOfTheElection(Check check) {
        check.refused("the station 2", Check.STATE, CountingSentences::countingTwo, x -> x.count(2, 0));
        check.due("the last of the election", countingTwo().count(1, 0), false);
    }

    @Sentence(promise = 26, value = "it is settled,")
    @Broken(from = "if (box.hasNumbers()) { throw new IllegalStateException(\"the station is settled\"); }")
    @Broken(from = "if (box.hasNumbers()) {", to = "if (box.counts > 1) {")
    static void countNeedsAStationThatIsNotSettled(Check check) {
        for (int clerk = 0; clerk < 4; clerk++) {
            int by = clerk;
            check.refused("by the clerk " + clerk, Check.STATE, CountingSentences::oneOfTwoIsSettled,
                x -> x.count(0, by));
        }
        BallotFoundry y = oneOfTwoIsSettled();
        y.count(1, 0);
        y.count(1, 0);
        check.due("one that two counts have not settled", y.count(1, 1), true);
    }

    @Sentence(promise = 26, value = "or it has 8 counts")
    @Broken(from = "if (box.counts >= MOST_COUNTS) { throw new IllegalStateException(\"no more counts\"); }")
    @Broken(from = "MOST_COUNTS = 8", to = "MOST_COUNTS = 7")
    @Broken(from = "MOST_COUNTS = 8", to = "MOST_COUNTS = 9")
    static void countsAreEightAtMost(Check check) {
        check.refused("the ninth, by the same clerk", Check.STATE, CountingSentences::countedEightTimes,
            x -> x.count(0, 0));
        check.refused("the ninth, by another", Check.STATE, CountingSentences::countedEightTimes, x -> x.count(0, 1));
        BallotFoundry y = countedEightTimes();
        check.due("of the other station", y.count(1, 0), false);
        check.due("all eight are kept", y.recount(0), 8);
        check.due("counted anew", y.count(0, 0), false);
        BallotFoundry z = countingTwo();
        for (int count = 0; count < 7; count++) {
            z.count(0, 2);
        }
        check.due("the eighth settles", z.count(0, 1), true);
        check.due("the numbers of the eighth", z.numberOf(0, 4), 1);
    }

    @Sentence(promise = 27, value = "Throws all counts of a station away, so that it can be counted anew;")
    @Broken(at = "int dropCounts()", from = "counts = 0;")
    @Broken(at = "int dropCounts()", from = "counts = 0;", to = "counts = Math.max(0, counts - 1);")
    @Broken(at = "public int recount(", from = "election.boxes[station].dropCounts()",
        to = "election.boxes[0].dropCounts()")
    static void recountThrowsAllAway(Check check) {
        BallotFoundry x = countingTwo();
        x.count(0, 0);
        x.count(0, 0);
        x.count(1, 0);
        x.recount(0);
        check.due("none is left to be alike", x.count(0, 1), false);
        check.due("the same clerk's ones are away too", x.count(0, 1), false);
        check.due("the other station's is kept", x.count(1, 1), true);
        x.recount(1);
        check.due("the other station's are away", x.count(1, 0), false);
        check.due("the first station's are kept", x.count(0, 0), true);
    }

    @Sentence(promise = 27, value = "if it was settled, it is not any more.")
    @Broken(at = "int dropCounts()", from = "settledBy = NONE;")
    static void recountUnsettles(Check check) {
        BallotFoundry x = oneOfTwoIsSettled();
        x.recount(0);
        check.due("settled", x.isSettled(0), false);
        check.due("number", x.numberOf(0, 1), BallotFoundry.NONE);
        check.due("misread", x.misread(0), BallotFoundry.NONE);
        Ready.settle(x, 1);
        check.due("it is not DONE without it", x.stage(), BallotFoundry.COUNTING);
        Ready.settle(x, 0);
        check.due("and DONE with it", x.stage(), BallotFoundry.DONE);
    }

    @Sentence(promise = 27, value = "`station`: a station")
    @Broken(at = "public int recount(", from = "needStation(station);", to = "needStation(station - 1);")
    @Broken(at = "public int recount(", from = "needStation(station);", to = "needStation(station + 1);")
    static void recountTakesEachStation(Check check) {
        BallotFoundry x = countingFive();
        x.count(0, 0);
        x.count(4, 0);
        x.count(4, 0);
        check.due("the first", x.recount(0), 1);
        check.due("the last", x.recount(4), 2);
    }

    @Sentence(promise = 27, value = "Returns how many there were.")
    @Broken(at = "int dropCounts()", from = "return dropped;", to = "return counts;")
    @Broken(at = "int dropCounts()", from = "return dropped;", to = "return Math.min(dropped, 7);")
    @Broken(at = "void clear() { size = 0;", from = "counts = 0;")
    static void recountTellsHowManyThereWere(Check check) {
        check.due("none", countingTwo().recount(0), 0);
        check.due("the most", countedEightTimes().recount(0), 8);
        BallotFoundry x = oneOfTwoIsSettled();
        check.due("two", x.recount(0), 2);
        check.due("none any more", x.recount(0), 0);
        check.due("none of one that is none of the election", x.recount(2), 0);
        BallotFoundry y = Ready.done(1);
        y.call(8, 0, false);
        y.advance(9);
        check.due("none of the election before", y.recount(0), 0);
    }

    @Sentence(promise = 27, value = "Throws `IndexOutOfBoundsException` if there is no such station")
    @Broken(at = "public int recount(", from = "needStation(station);")
    @Broken(at = "private void needStation(", from = "station >= stations.size", to = "station > stations.size")
    static void recountNeedsAStation(Check check) {
        int[] none = {-1, 3, 5, -FAR - 1, FAR};
        for (int station : none) {
            check.refused("the station " + station, Check.INDEX, CountingSentences::oneOfTwoIsSettled,
                x -> x.recount(station));
        }
        check.refused("five", Check.INDEX, CountingSentences::countingFive, x -> x.recount(5));
    }

    @Sentence(promise = 27, value = "Throws `IllegalStateException` if it is not COUNTING")
    @Broken(at = "public int recount(", from = "needStage(COUNTING);")
    @Broken(at = "public int recount(", from = "needStage(COUNTING);",
        to = "if (election.stage < COUNTING) { needStage(COUNTING); }")
    @Broken(at = "public int recount(", from = "needStage(COUNTING);",
        to = "if (election.stage > COUNTING) { needStage(COUNTING); }")
    static void recountNeedsItsStage(Check check) {
        for (int stage = 0; stage < Ready.STAGES; stage++) {
            int at = stage;
            if (stage == BallotFoundry.COUNTING) {
                check.due("COUNTING", Ready.at(at, 1).recount(0), 0);
            } else {
                check.refused("at the stage " + stage, Check.STATE, () -> Ready.at(at, 1), x -> x.recount(0));
            }
        }
    }

    @Sentence(promise = 28, value = {"Tells whether a station is settled.",
        "Returns whether it is, in the latest election."})
    @Broken(at = "public boolean isSettled(", from = "election.boxes[station].hasNumbers()",
        to = "election.boxes[0].hasNumbers()")
    @Broken(at = "public boolean isSettled(", from = "return", to = "return election.stage == DONE &&")
    @Broken(from = "boxes[station].clear();")
    @Broken(at = "boolean hasNumbers()", from = "settledBy != NONE", to = "counts > 0")
    static void isSettledTellsWhetherItIs(Check check) {
        BallotFoundry x = countingTwo();
        check.due("without a count", x.isSettled(0), false);
        x.count(0, 0);
        check.due("by one", x.isSettled(0), false);
        x.count(0, 1);
        check.due("by two", x.isSettled(0), true);
        check.due("another", x.isSettled(1), false);
        check.due("one that is none of the election", x.isSettled(2), false);
        Ready.settle(x, 1);
        check.due("when it is DONE", x.isSettled(1), true);
        check.due("one that is none of the election, when it is DONE", x.isSettled(2), false);
        x.call(8, 0, false);
        check.due("in the next election", x.isSettled(0), false);
        check.due("without an election", Ready.town(1).isSettled(0), false);
    }

    @Sentence(promise = 28, value = "`station`: a station")
    @Broken(at = "public boolean isSettled(", from = "needStation(station);", to = "needStation(station - 1);")
    @Broken(at = "public boolean isSettled(", from = "needStation(station);", to = "needStation(station + 1);")
    static void isSettledTakesEachStation(Check check) {
        BallotFoundry x = countingFive();
        Ready.settle(x, 4);
        check.due("the first", x.isSettled(0), false);
        check.due("the last", x.isSettled(4), true);
    }

    @Sentence(promise = 28, value = "Throws `IndexOutOfBoundsException` if there is no such station")
    @Broken(at = "public boolean isSettled(", from = "needStation(station);")
    @Broken(at = "private void needStation(", from = "station >= stations.size", to = "station > stations.size")
    static void isSettledNeedsAStation(Check check) {
        check.refused("there is none", Check.INDEX, BallotFoundry::new, x -> x.isSettled(0));
        int[] none = {-1, 3, 5, -FAR - 1, FAR};
        for (int station : none) {
            check.refused("three, but not " + station, Check.INDEX, CountingSentences::countingTwo,
                x -> x.isSettled(station));
        }
        check.refused("five", Check.INDEX, CountingSentences::countingFive, x -> x.isSettled(5));
    }

    @Sentence(promise = 29, value = {"Returns a number of a station that is settled.", "Returns the number;"})
    @Broken(at = "public int numberOf(", from = "election.boxes[station].settledNumber(party)",
        to = "election.boxes[0].settledNumber(party)")
    @Broken(from = "return numbers[settledBy][kind];", to = "return ballotsFor(kind);")
    @Broken(from = "return numbers[settledBy][kind];", to = "return Math.min(19, numbers[settledBy][kind]);")
    static void numberOfTellsTheNumber(Check check) {
        BallotFoundry x = countingTwo();
        x.setSlip(0, 2);
        x.setSlip(1, 2);
        Ready.settle(x, 0);
        Ready.settle(x, 1);
        int[] due = {0, 1, 0, 0, 0, 1};
        for (int party = 0; party < due.length; party++) {
            check.due("of the station 0, for " + party, x.numberOf(0, party), due[party]);
            check.due("of the station 1, for " + party, x.numberOf(1, party), 0);
        }
        check.due("the greatest", Ready.done(new int[20]).numberOf(0, 0), 20);
    }

    @Sentence(promise = 29, value = "`station`: a station")
    @Broken(at = "public int numberOf(", from = "needStation(station);", to = "needStation(station - 1);")
    @Broken(at = "public int numberOf(", from = "needStation(station);", to = "needStation(station + 1);")
    static void numberOfTakesEachStation(Check check) {
        BallotFoundry x = countingFive();
        Ready.settle(x, 0);
        Ready.settle(x, 4);
        check.due("the first", x.numberOf(0, 0), 0);
        check.due("the last", x.numberOf(4, 0), 0);
    }

    @Sentence(promise = 29, value = "`party`: 0 to 4, or BLANK")
    @Broken(at = "public int numberOf(", from = "needRange(party, 0, BLANK);", to = "needRange(party, 1, BLANK);")
    @Broken(at = "public int numberOf(", from = "needRange(party, 0, BLANK);", to = "needParty(party);")
    static void numberOfTakesEachParty(Check check) {
        BallotFoundry x = Ready.done(0, 4, 4, 5, 5, 5);
        check.due("the first", x.numberOf(0, 0), 1);
        check.due("the last", x.numberOf(0, 4), 2);
        check.due("BLANK", x.numberOf(0, BallotFoundry.BLANK), 3);
    }

    @Sentence(promise = 29, value = "NONE if it is not settled.")
    @Broken(from = "if (settledBy < 0 || settledBy >= MOST_COUNTS || kind < 0 || kind >= KINDS) { return NONE; }",
        to = "if (settledBy < 0) { return 0; }")
    @Broken(from = "if (settledBy < 0 || settledBy >= MOST_COUNTS || kind < 0 || kind >= KINDS) { return NONE; }",
        to = "if (settledBy < 0) { return counts > 0 ? numbers[0][kind] : NONE; }")
    static void numberOfOneThatIsNotSettled(Check check) {
        BallotFoundry x = countingTwo();
        check.due("without a count", x.numberOf(0, 1), BallotFoundry.NONE);
        x.count(0, 0);
        check.due("by one count", x.numberOf(0, 1), BallotFoundry.NONE);
        check.due("none of the election", x.numberOf(2, 0), BallotFoundry.NONE);
        x.count(0, 1);
        check.due("settled", x.numberOf(0, 1), 1);
        x.recount(0);
        check.due("not any more", x.numberOf(0, 1), BallotFoundry.NONE);
        for (int stage = 0; stage < BallotFoundry.COUNTING; stage++) {
            check.due("at the stage " + stage, Ready.at(stage, 1).numberOf(0, 0), BallotFoundry.NONE);
        }
    }

    @Sentence(promise = 29, value = "Throws `IndexOutOfBoundsException` if there is no such station")
    @Broken(at = "public int numberOf(", from = "needStation(station);")
    @Broken(at = "private void needStation(", from = "station >= stations.size", to = "station > stations.size")
    static void numberOfNeedsAStation(Check check) {
        check.refused("there is none", Check.INDEX, BallotFoundry::new, x -> x.numberOf(0, 0));
        int[] none = {-1, 3, 5, -FAR - 1, FAR};
        for (int station : none) {
            check.refused("three, but not " + station, Check.INDEX, CountingSentences::countingTwo,
                x -> x.numberOf(station, 0));
        }
        check.refused("five", Check.INDEX, CountingSentences::countingFive, x -> x.numberOf(5, 0));
    }

    @Sentence(promise = 29, value = "Throws `IllegalArgumentException` if party is out of range")
    @Broken(at = "public int numberOf(", from = "needRange(party, 0, BLANK);")
    @Broken(at = "public int numberOf(", from = "needRange(party, 0, BLANK);", to = "needRange(party, -1, BLANK);")
    @Broken(at = "public int numberOf(", from = "needRange(party, 0, BLANK);", to = "needRange(party, 0, BLANK + 1);")
    static void numberOfNeedsAPartyInRange(Check check) {
        int[] out = {-1, 6, -FAR - 1, FAR};
        for (int party : out) {
            check.refused("settled, for " + party, Check.ARGUMENT, CountingSentences::oneOfTwoIsSettled,
                x -> x.numberOf(0, party));
            check.refused("not settled, for " + party, Check.ARGUMENT, CountingSentences::oneOfTwoIsSettled,
                x -> x.numberOf(1, party));
        }
    }

    /** The misread ballots of a station that two clerks have counted with that slip. */
    private static int misreadWith(int slip, int... ballots) {
        BallotFoundry x = Ready.counting(ballots);
        x.setSlip(0, slip);
        x.setSlip(1, slip);
        Ready.settle(x, 0);
        return x.misread(0);
    }

    @Sentence(promise = 30, value = {
        "Returns how many ballots a station that is settled has in its numbers for another party, or BLANK, than its box.",
        "Returns the differences by which a party, or BLANK, has more in the box than in the numbers, together;"})
    @Broken(from = "lost += Math.max(0, ballotsFor(kind) - settledNumber(kind));",
        to = "lost += Math.abs(ballotsFor(kind) - settledNumber(kind));")
    @Broken(from = "lost += Math.max(0, ballotsFor(kind) - settledNumber(kind));",
        to = "lost = Math.max(lost, ballotsFor(kind) - settledNumber(kind));")
    @Broken(at = "int lostByReading()", from = "kind < KINDS", to = "kind < PARTIES")
    @Broken(at = "int lostByReading()", from = "int kind = 0", to = "int kind = 1")
    @Broken(at = "public int misread(", from = "election.boxes[station]", to = "election.boxes[1]")
    static void misreadTellsTheDifferences(Check check) {
        check.due("none is misread", misreadWith(0, 0, 1, 2, 3, 4, 5), 0);
        check.due("an empty box", misreadWith(2), 0);
        check.due("one of the first party", misreadWith(2, 2, 0), 1);
        check.due("one blank", misreadWith(2, 2, 5), 1);
        check.due("two of one party", misreadWith(2, 3, 3, 3, 3), 2);
        check.due("one of each of two parties", misreadWith(2, 0, 1, 0, 3), 2);
        check.due("each a next one, so that they make up for one another", misreadWith(2, 0, 0, 0, 1, 0, 2), 1);
        check.due("all in a ring, so that none has more", misreadWith(2, 5, 0, 5, 1, 5, 2, 5, 3, 5, 4, 5, 5), 0);
        BallotFoundry x = countingTwo();
        x.setSlip(2, 2);
        x.setSlip(3, 2);
        x.count(0, 2);
        x.count(0, 3);
        check.due("of the station 0", x.misread(0), 1);
        Ready.settle(x, 1);
        check.due("of the station 1", x.misread(1), 0);
    }

    @Sentence(promise = 30, value = "`station`: a station")
    @Broken(at = "public int misread(", from = "needStation(station);", to = "needStation(station - 1);")
    @Broken(at = "public int misread(", from = "needStation(station);", to = "needStation(station + 1);")
    static void misreadTakesEachStation(Check check) {
        BallotFoundry x = countingFive();
        Ready.settle(x, 0);
        Ready.settle(x, 4);
        check.due("the first", x.misread(0), 0);
        check.due("the last", x.misread(4), 0);
    }

    @Sentence(promise = 30, value = "NONE if it is not settled.")
    @Broken(at = "int lostByReading()", from = "if (!hasNumbers()) { return NONE; }")
    @Broken(at = "int lostByReading()", from = "if (!hasNumbers()) { return NONE; }",
        to = "if (!hasNumbers()) { return size > 0 ? NONE : 0; }")
    static void misreadOfOneThatIsNotSettled(Check check) {
        BallotFoundry x = countingTwo();
        check.due("without a count", x.misread(0), BallotFoundry.NONE);
        check.due("without a count and ballots", x.misread(1), BallotFoundry.NONE);
        check.due("none of the election", x.misread(2), BallotFoundry.NONE);
        x.count(0, 0);
        check.due("by one count", x.misread(0), BallotFoundry.NONE);
        x.count(0, 1);
        check.due("settled", x.misread(0), 0);
        x.recount(0);
        check.due("not any more", x.misread(0), BallotFoundry.NONE);
        for (int stage = 0; stage < BallotFoundry.COUNTING; stage++) {
            check.due("at the stage " + stage, Ready.at(stage, 1).misread(0), BallotFoundry.NONE);
        }
    }

    @Sentence(promise = 30, value = "Throws `IndexOutOfBoundsException` if there is no such station")
    @Broken(at = "public int misread(", from = "needStation(station);")
    @Broken(at = "private void needStation(", from = "station >= stations.size", to = "station > stations.size")
    static void misreadNeedsAStation(Check check) {
        check.refused("there is none", Check.INDEX, BallotFoundry::new, x -> x.misread(0));
        int[] none = {-1, 3, 5, -FAR - 1, FAR};
        for (int station : none) {
            check.refused("three, but not " + station, Check.INDEX, CountingSentences::countingTwo,
                x -> x.misread(station));
        }
        check.refused("five", Check.INDEX, CountingSentences::countingFive, x -> x.misread(5));
    }
}
