/** Terms: counting, seats and lots. */
final class TermsCountingSentences {
    private TermsCountingSentences() {
    }

    /** The numbers of the station 0 when two clerks have counted it with that slip. */
    private static String readWith(int slip, int... ballots) {
        BallotFoundry x = Ready.counting(ballots);
        x.setSlip(0, slip);
        x.setSlip(1, slip);
        Ready.settle(x, 0);
        return numbersOf(x);
    }

    private static String numbersOf(BallotFoundry x) {
        StringBuilder numbers = new StringBuilder();
        for (int party = 0; party <= BallotFoundry.BLANK; party++) {
            numbers.append(x.numberOf(0, party));
        }
        return numbers.toString();
    }

    @Sentence("There are the clerks 0 to 3;")
    @Broken(from = "CLERKS = 4", to = "CLERKS = 3")
    @Broken(from = "CLERKS = 4", to = "CLERKS = 5")
    @Broken(at = "void needClerk(", from = "clerk < 0", to = "clerk <= 0")
    static void clerksAreFour(Check check) {
        for (int clerk = 0; clerk < 4; clerk++) {
            BallotFoundry x = Ready.counting(0);
            check.due("a count by " + clerk, x.count(0, clerk), false);
            check.due("a count by the next behind " + clerk, x.count(0, (clerk + 1) % 4), true);
        }
        BallotFoundry y = Ready.counting(0);
        check.fails("ahead of the first", Check.INDEX, () -> y.count(0, -1));
        check.fails("behind the last", Check.INDEX, () -> y.count(0, 4));
    }

    @Sentence("a clerk has a slip, 0 at first.")
    @Broken(from = "private int now = 0;", to = "private int now = 0; { slips[0] = 2; }")
    @Broken(from = "private int now = 0;", to = "private int now = 0; { slips[3] = 20; }")
    static void slipsAreZeroAtFirst(Check check) {
        BallotFoundry x = new BallotFoundry();
        for (int clerk = 0; clerk < 4; clerk++) {
            check.due("the slip of " + clerk, x.setSlip(clerk, 0), 0);
        }
    }

    @Sentence("To count a box a clerk goes through it from the first ballot on, and reads each as what it is;")
    @Broken(from = "int kind = isSlipped ? (ballots[place] + 1) % KINDS : ballots[place];",
        to = "int kind = isSlipped ? (ballots[place] + 1) % KINDS : ballots[0];")
    @Broken(from = "for (int place = 0; place < size; place++) { boolean isSlipped",
        to = "for (int place = 1; place < size; place++) { boolean isSlipped")
    @Broken(from = "for (int place = 0; place < size; place++) { boolean isSlipped",
        to = "for (int place = 0; place < size - 1; place++) { boolean isSlipped")
    @Broken(from = "slip > 0 && (place + 1) % slip == 0", to = "slip > 0 && (size - place) % slip == 0")
    static void countReadsFromTheFirstOn(Check check) {
        check.due("each as what it is", readWith(0, 5, 4, 3, 2, 1, 0, 5, 5), "111113");
        check.due("an empty box", readWith(0), "000000");
        check.due("a box with one ballot", readWith(0, 3), "000100");
        check.due("the second of three, from the first on", readWith(2, 1, 3, 0), "110010");
        check.due("the third of four, from the first on", readWith(3, 1, 3, 0, 4), "020110");
    }

    @Sentence("but with a slip n above 0, each n-th ballot (the n-th, the 2 * n-th and so on) as the next one:")
    @Broken(from = "(place + 1) % slip == 0", to = "place + 1 == slip")
    @Broken(from = "(place + 1) % slip == 0", to = "place % slip == 0")
    @Broken(from = "(place + 1) % slip == 0", to = "place + 1 >= slip")
    @Broken(from = "slip > 0 &&", to = "slip > 2 &&")
    static void slipReadsEachNth(Check check) {
        check.due("each second", readWith(2, 0, 0, 0, 0, 0, 0, 0), "430000");
        check.due("each third", readWith(3, 0, 0, 0, 0, 0, 0, 0), "520000");
        check.due("the last one alone", readWith(7, 0, 0, 0, 0, 0, 0, 0), "610000");
        check.due("none, behind the last one", readWith(8, 0, 0, 0, 0, 0, 0, 0), "700000");
        check.due("none of an empty box", readWith(2), "000000");
        check.due("the twentieth of a full box", readWith(20, new int[20]), "1910000");
    }

    @Sentence("the party p as p + 1, 4 as BLANK, BLANK as 0.")
    @Broken(from = "(ballots[place] + 1) % KINDS", to = "(ballots[place] + 1) % PARTIES")
    @Broken(from = "(ballots[place] + 1) % KINDS", to = "(ballots[place] + 1)")
    @Broken(from = "(ballots[place] + 1) % KINDS", to = "(ballots[place] + 5) % KINDS")
    @Broken(from = "(ballots[place] + 1) % KINDS", to = "Math.min(ballots[place] + 1, BLANK)")
    static void slipReadsTheNextOne(Check check) {
        check.due("0 as 1", readWith(2, 2, 0), "011000");
        check.due("1 as 2", readWith(2, 3, 1), "001100");
        check.due("2 as 3", readWith(2, 0, 2), "100100");
        check.due("3 as 4", readWith(2, 0, 3), "100010");
        check.due("4 as BLANK", readWith(2, 0, 4), "100001");
        check.due("BLANK as 0", readWith(2, 1, BallotFoundry.BLANK), "110000");
    }

    @Sentence("Each count of a station is kept.")
    @Broken(from = "for (int earlier = 0; earlier < counts; earlier++)",
        to = "for (int earlier = Math.max(0, counts - 1); earlier < counts; earlier++)")
    @Broken(from = "for (int earlier = 0; earlier < counts; earlier++)",
        to = "for (int earlier = 0; earlier < counts && earlier < 1; earlier++)")
    static void eachCountIsKept(Check check) {
        BallotFoundry x = Ready.counting(0, 0, 0, 0, 0, 0, 0, 0);
        int[] slips = {0, 2, 3, 4, 5, 0, 6};
        for (int slip : slips) {
            x.setSlip(0, slip);
            check.due("by the clerk 0", x.count(0, 0), false);
        }
        x.setSlip(1, 3);
        check.due("the eighth like the third", x.count(0, 1), true);
        BallotFoundry y = Ready.counting(0, 0);
        y.count(0, 0);
        y.setSlip(0, 2);
        y.count(0, 0);
        check.due("the third like the first", y.count(0, 1), true);
    }

    @Sentence("A station is settled as soon as two of its counts, by different clerks,")
    @Broken(from = "clerks[earlier] != clerk &&")
    @Broken(from = "clerks[counts] = clerk;", to = "clerks[counts] = 0;")
    @Broken(from = "settledBy = counts; }", to = "settledBy = counts > 1 ? counts : NONE; }")
    static void settledByDifferentClerks(Check check) {
        BallotFoundry x = Ready.counting(1, 2);
        check.due("one", x.count(0, 3), false);
        check.due("two by the same clerk", x.count(0, 3), false);
        check.due("three by the same clerk", x.count(0, 3), false);
        check.due("one by another", x.count(0, 1), true);
        BallotFoundry y = Ready.counting(1, 2);
        y.count(0, 0);
        check.due("as soon as two", y.count(0, 2), true);
    }

    @Sentence("are alike in all numbers;")
    @Broken(from = "kind < some.length && kind < others.length", to = "kind < PARTIES - 1")
    @Broken(from = "for (int kind = 0; kind < some.length", to = "for (int kind = 2; kind < some.length")
    @Broken(from = "if (some[kind] != others[kind]) { return false; }")
    static void settledIfAlikeInAllNumbers(Check check) {
        for (int ballot = 0; ballot <= BallotFoundry.BLANK; ballot++) {
            BallotFoundry x = Ready.counting(ballot, ballot);
            x.setSlip(0, 2);
            x.count(0, 0);
            check.due("unlike in " + ballot + " and the next", x.count(0, 1), false);
        }
        BallotFoundry y = Ready.counting(2, 1, 0, 2, 2);
        y.setSlip(0, 2);
        y.setSlip(1, 3);
        y.count(0, 0);
        check.due("unlike in two or three places", y.count(0, 1), false);
        BallotFoundry z = Ready.counting(2, 1, 1, 2);
        z.setSlip(0, 2);
        z.setSlip(1, 2);
        z.count(0, 0);
        check.due("alike, though both are misread", z.count(0, 1), true);
    }

    @Sentence("these are its numbers then.")
    @Broken(from = "return numbers[settledBy][kind];", to = "return numbers[0][kind];")
    @Broken(from = "return numbers[settledBy][kind];", to = "return ballotsFor(kind);")
    static void alikeCountsAreItsNumbers(Check check) {
        BallotFoundry x = Ready.counting(1, 1);
        x.count(0, 0);
        x.setSlip(0, 2);
        x.setSlip(3, 2);
        x.count(0, 0);
        x.count(0, 3);
        check.due("those of the second and the third", numbersOf(x), "011000");
    }

    @Sentence("The votes of a party are the sum of its numbers over all stations.")
    @Broken(at = "int numbersFor(", from = "sum += ", to = "sum = ")
    @Broken(at = "int numbersFor(", from = "station < stationsOfIt", to = "station <= stationsOfIt")
    @Broken(at = "int numbersFor(", from = "station < stationsOfIt", to = "station < stationsOfIt - 1")
    @Broken(at = "int numbersFor(", from = "boxes[station].settledNumber(party)",
        to = "boxes[station].ballotsFor(party)")
    static void votesAreSumsOfNumbers(Check check) {
        BallotFoundry x = Ready.twoStations();
        x.advance(6);
        for (int person = 0; person < 4; person++) {
            x.vote(person, person / 2, 3);
        }
        x.advance(1);
        Ready.settle(x, 0);
        x.setSlip(0, 2);
        x.setSlip(1, 2);
        Ready.settle(x, 1);
        check.due("two of the station 0, and one of 1", x.votes(3), 3);
        check.due("one of the station 1, misread", x.votes(4), 1);
        check.due("a party without any", x.votes(0), 0);
        BallotFoundry y = Ready.votingAtFive();
        for (int person = 0; person < 5; person++) {
            y.vote(person, person, 3);
        }
        y.advance(1);
        for (int station = 0; station < 5; station++) {
            Ready.settle(y, station);
        }
        check.due("one of each of five stations", y.votes(3), 5);
    }

    @Sentence("The seats are given one by one: each time to the party with the greatest quotient of its votes, "
        + "divided by (how many seats it has by then, and 1),")
    @Broken(from = ": seats[party] + 1;", to = ": seats[party] + 2;")
    @Broken(from = ": seats[party] + 1;", to = ": 1;")
    @Broken(from = "if (compared > 0) { ties = 0; }")
    @Broken(at = "void give(", from = "place < seatsToGive", to = "place < seatsToGive - 1")
    static void seatsByTheGreatestQuotient(Check check) {
        // 7, 5, 7/2, 3, 5/2, 7/3
        BallotFoundry x = Ready.given(6, false, 0, 5, 0, 7, 3);
        check.due("in their order", Ready.orderOf(x), "202302");
        check.due("no lot", x.lots(), 0);
        check.due("of the last party", x.seats(4), 0);
        // 9, 9/2, 9/3 and 9/4 are all above 2
        check.due("one takes all", Ready.orderOf(Ready.given(4, false, 0, 0, 2, 0, 0, 9)), "4444");
    }

    @Sentence("or, if the election is by odd ones, by (twice how many it has, and 1),")
    @Broken(from = "2 * seats[party] + 1", to = "seats[party] + 1")
    @Broken(from = "2 * seats[party] + 1", to = "2 * seats[party] + 2")
    @Broken(from = "2 * seats[party] + 1", to = "3 * seats[party] + 1")
    @Broken(from = "return isOdd ?", to = "return !isOdd ?")
    @Broken(from = "isOdd = isByOddOnes;")
    static void seatsByOddOnes(Check check) {
        // 7, 5, 3, 7/3, 5/3, 7/5
        BallotFoundry x = Ready.given(6, true, 0, 5, 0, 7, 3);
        check.due("in their order", Ready.orderOf(x), "203202");
        check.due("no lot", x.lots(), 0);
        // 8, 8/3, 2, 8/5, 8/7
        check.due("by 1, 3, 5 and 7", Ready.orderOf(Ready.given(5, true, 0, 8, 2)), "00100");
    }

    @Sentence("as exact fractions.")
    @Broken(from = "Integer.compare(votes[one] * divisor(other, isOdd), votes[other] * divisor(one, isOdd))",
        to = "Integer.compare(votes[one] / divisor(one, isOdd), votes[other] / divisor(other, isOdd))")
    @Broken(from = "Integer.compare(votes[one] * divisor(other, isOdd), votes[other] * divisor(one, isOdd))",
        to = "Integer.compare(votes[one] * 10 / divisor(one, isOdd), votes[other] * 10 / divisor(other, isOdd))")
    static void quotientsAreExact(Check check) {
        // Behind 11, 9, 11/2 and 9/2 come 11/3 ahead of 9/3, and then 9/3 ahead of 11/4
        BallotFoundry x = Ready.given(6, false, 0, 9, 11);
        check.due("in their order", Ready.orderOf(x), "101010");
        check.due("no lot", x.lots(), 0);
        // 11/7 is above 9/6 by a fourteenth
        BallotFoundry y = Ready.given(15, false, 0, 9, 11);
        check.due("of 11", y.seats(1), 8);
        check.due("no lot for what is close", y.lots(), 0);
    }

    @Sentence("A party without votes gets none;")
    @Broken(from = "giving.votes[party] = election.numbersFor(party);",
        to = "giving.votes[party] = Math.max(1, election.numbersFor(party));")
    static void noSeatWithoutVotes(Check check) {
        BallotFoundry x = Ready.given(30, false, 0, 0, 1, 0, 0, 0, 19);
        for (int party = 0; party < 5; party++) {
            check.due("seats of " + party, x.seats(party), party == 1 ? 30 : 0);
        }
        check.due("no lot", x.lots(), 0);
    }

    @Sentence("if no party has votes, no seats are given.")
    @Broken(from = "votes[party] <= 0", to = "votes[party] < 0")
    static void noSeatsWithoutAnyVotes(Check check) {
        BallotFoundry x = Ready.given(30, false, 0, 0, 0, 0, 0, 0, 20);
        check.due("blank ballots alone, the first seat", x.seatAt(0), BallotFoundry.NONE);
        check.due("blank ballots alone, lots", x.lots(), 0);
        BallotFoundry y = Ready.given(30, true, 0);
        check.due("an empty box, the first seat", y.seatAt(0), BallotFoundry.NONE);
        for (int party = 0; party < 5; party++) {
            check.due("blank ballots alone, seats of " + party, x.seats(party), 0);
            check.due("an empty box, seats of " + party, y.seats(party), 0);
        }
    }

    @Sentence("Of several parties with the greatest quotient one is drawn by lot.")
    @Broken(from = "if (ties == 1) { return tied[0]; }", to = "if (ties >= 1) { return tied[0]; }")
    @Broken(from = "if (ties == 1) { return tied[0]; }")
    static void tiesAreDrawnByLot(Check check) {
        // From the first number 1 the lots among two are 13448 % 2, and from 2 they are 14551 % 2
        check.due("the lot falls on the first", Ready.orderOf(Ready.given(1, false, 1, 1, 1)), "0");
        check.due("the lot falls on the second", Ready.orderOf(Ready.given(1, false, 2, 1, 1)), "1");
        check.due("one lot", Ready.given(1, false, 2, 1, 1).lots(), 1);
        check.due("none for the one that is left", Ready.given(2, false, 2, 1, 1).lots(), 1);
        check.due("none without a tie", Ready.given(2, false, 2, 5, 1).lots(), 0);
    }

    @Sentence("Each party can tell a seed for an election, as long as it is CALLED or EARLY;")
    @Broken(at = "public int seed(", from = "election.stage != CALLED && election.stage != EARLY",
        to = "election.stage != CALLED")
    @Broken(at = "public int seed(", from = "election.stage != CALLED && election.stage != EARLY",
        to = "election.stage != EARLY")
    @Broken(at = "public int seed(", from = "election.stage != CALLED && election.stage != EARLY",
        to = "election.stage != CALLED && election.stage != EARLY && election.stage != VOTING")
    static void seedsWhileCalledOrEarly(Check check) {
        BallotFoundry x = Ready.called(0);
        for (int party = 0; party < 5; party++) {
            check.due("while CALLED", x.seed(party, party + 1), 0);
        }
        x.advance(1);
        check.due("on the roll day", x.seed(0, 10), 1);
        x.advance(1);
        for (int party = 1; party < 5; party++) {
            check.due("while EARLY", x.seed(party, 10), party + 1);
        }
        x.advance(5);
        check.due("on the eve", x.seed(0, 11), 10);
        x.advance(1);
        check.fails("on the day", Check.STATE, () -> x.seed(0, 12));
    }

    @Sentence("otherwise its seed is 0.")
    @Broken(from = "Arrays.fill(seeds, 0);")
    @Broken(from = "Arrays.fill(seeds, 0);", to = "Arrays.fill(seeds, 1);")
    static void seedsAreZeroOtherwise(Check check) {
        // The first number 0 gives 12345 % 5, and 3 gives 15654 % 5
        check.due("none is told", Ready.orderOf(Ready.given(1, false, 0, 1, 1, 1, 1, 1)), "0");
        check.due("one is told", Ready.orderOf(Ready.given(1, false, 3, 1, 1, 1, 1, 1)), "4");
        BallotFoundry x = Ready.given(1, false, 3, 1, 1, 1, 1, 1);
        x.call(8, 1, false);
        for (int party = 0; party < 5; party++) {
            check.due("of " + party + ", for the next election", x.seed(party, 0), 0);
        }
    }

    @Sentence("The first number is the sum of all seeds;")
    @Broken(from = "sum += seeds[party];", to = "sum = seeds[party];")
    @Broken(at = "int sumOfSeeds()", from = "party < PARTIES", to = "party < PARTIES - 1")
    @Broken(at = "int sumOfSeeds()", from = "int party = 0", to = "int party = 1")
    static void firstNumberIsTheSum(Check check) {
        seedsDue(check, 14320, 1, 20, 300, 4000, 9999);
        seedsDue(check, 49995, 9999, 9999, 9999, 9999, 9999);
    }

    private static void seedsDue(Check check, int sum, int... seeds) {
        BallotFoundry x = Ready.town(5);
        x.call(8, 5, false);
        for (int party = 0; party < 5; party++) {
            x.seed(party, seeds[party]);
        }
        x.advance(8);
        for (int person = 0; person < 5; person++) {
            x.vote(person, 0, person);
        }
        x.advance(1);
        Ready.settle(x, 0);
        check.due("drawn from " + sum, Ready.orderOf(x), drawnFrom(sum));
        check.due("lots", x.lots(), 4);
    }

    /** The order in which five parties are drawn, one after the other. */
    private static String drawnFrom(long first) {
        StringBuilder left = new StringBuilder("01234");
        StringBuilder order = new StringBuilder();
        long number = first;
        while (left.length() > 1) {
            number = (number * 1103 + 12345) % 65536;
            int at = (int) (number % left.length());
            order.append(left.charAt(at));
            left.deleteCharAt(at);
        }
        return order.append(left).toString();
    }

    @Sentence("for each lot the number becomes (the number times 1103, and 12345), modulo 65536,")
    @Broken(from = "number * 1103 + 12345", to = "number * 1104 + 12345")
    @Broken(from = "number * 1103 + 12345", to = "number * 1103 + 12346")
    @Broken(from = "number * 1103 + 12345", to = "(number + 12345) * 1103")
    @Broken(from = "% 65536;", to = "% 65535;")
    @Broken(from = "% 65536;", to = "% 65537;")
    @Broken(from = "number = (number * 1103 + 12345) % 65536;",
        to = "if (lotsDrawn == 0) { number = (number * 1103 + 12345) % 65536; }")
    static void numberOfEachLot(Check check) {
        // 48 comes to 65289, and 49 to 66392
        int[] seeds = {0, 1, 2, 48, 49, 700, 5555, 9999};
        for (int seed : seeds) {
            BallotFoundry x = Ready.given(5, false, seed, 1, 1, 1, 1, 1);
            check.due("drawn from " + seed, Ready.orderOf(x), drawnFrom(seed));
        }
    }

    @Sentence("and the lot falls on the one whose place among the parties in question, by rising numbers and from 0, "
        + "is the number, modulo how many they are.")
    @Broken(from = "return ties > 0 ? number % ties : NONE;", to = "return ties > 0 ? (number + 1) % ties : NONE;")
    @Broken(from = "return ties > 0 ? number % ties : NONE;", to = "return ties > 0 ? number % PARTIES % ties : NONE;")
    @Broken(from = "return ties > 0 ? number % ties : NONE;", to = "return ties > 0 ? ties - 1 - number % ties : NONE;")
    @Broken(from = "drawn >= PARTIES ? NONE : tied[drawn];", to = "drawn >= PARTIES ? NONE : drawn;")
    static void lotFallsByPlaces(Check check) {
        // Three tie at 2: 1, 3 and 4; 12345 % 3 is 0, (1 * 1103 + 12345) % 3 is 2, (2 * 1103 + 12345) % 3 is 1
        check.due("the place 0", Ready.orderOf(Ready.given(1, false, 0, 1, 2, 0, 2, 2)), "1");
        check.due("the place 2", Ready.orderOf(Ready.given(1, false, 1, 1, 2, 0, 2, 2)), "4");
        check.due("the place 1", Ready.orderOf(Ready.given(1, false, 2, 1, 2, 0, 2, 2)), "3");
    }
}
