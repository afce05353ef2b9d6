/** Promises 31 to 35: votes, quotients, seats and lots. */
public final class SeatsTest {
    private static final Check check = new Check("SeatsTest");

    public static void main(String[] args) {
        votesAreSums();
        partiesAreNeeded();
        nothingIsToldAheadOfDone();
        seatsByAllNumbers();
        seatsByOddOnes();
        quotientsAreExact();
        noVotesNoSeats();
        noSeatsToGive();
        lotsFollowTheNumber();
        lotsAmongSome();
        lotsByTheSumOfSeeds();
        seatAtHasPlaces();
        seatsByBallotsReadBoxes();
        seatsByBallotsWhileCounting();
        seatsByBallotsDrawAnew();
        check.end();
    }

    /** An election of one station with so many ballots for each kind, up to its counting. */
    private static BallotFoundry counting(int seats, boolean isOdd, int seed, int... kinds) {
        BallotFoundry x = new BallotFoundry();
        x.station(0, 20);
        int voters = 0;
        for (int kind : kinds) {
            voters += kind;
        }
        for (int person = 0; person < voters; person++) {
            x.person(0, 0);
        }
        x.call(8, seats, isOdd);
        x.seed(0, seed);
        x.advance(8);
        int person = 0;
        for (int kind = 0; kind < kinds.length; kind++) {
            for (int ballot = 0; ballot < kinds[kind]; ballot++) {
                x.vote(person, 0, kind);
                person++;
            }
        }
        x.advance(1);
        return x;
    }

    private static BallotFoundry done(int seats, boolean isOdd, int seed, int... kinds) {
        BallotFoundry x = counting(seats, isOdd, seed, kinds);
        x.count(0, 0);
        x.count(0, 1);
        return x;
    }

    private static void orderDue(String what, BallotFoundry x, int... due) {
        int[] seats = new int[5];
        for (int place = 0; place < due.length; place++) {
            check.due(what + ", place " + place, x.seatAt(place), due[place]);
            seats[due[place]]++;
        }
        check.due(what + ", behind the last place", x.seatAt(due.length), BallotFoundry.NONE);
        for (int party = 0; party < 5; party++) {
            check.due(what + ", seats of " + party, x.seats(party), seats[party]);
            check.due(what + ", by ballots of " + party, x.seatsByBallots(party), seats[party]);
        }
    }

    private static void votesAreSums() {
        BallotFoundry x = new BallotFoundry();
        x.station(0, 2);
        x.station(35, 20);
        for (int person = 0; person < 5; person++) {
            x.person(0, 0);
        }
        x.call(8, 3, false);
        x.advance(8);
        int[] ballots = {1, 1, 1, 4, 5};
        for (int person = 0; person < 5; person++) {
            x.vote(person, x.stationOf(person), ballots[person]);
        }
        x.advance(1);
        x.setSlip(2, 2);
        x.setSlip(3, 2);
        x.count(0, 2);
        x.count(0, 3);
        check.due("a station is not settled", x.votes(1), BallotFoundry.NONE);
        x.count(1, 0);
        x.count(1, 1);
        int[] due = {0, 2, 1, 0, 1};
        for (int party = 0; party < 5; party++) {
            check.due("votes of " + party, x.votes(party), due[party]);
        }
    }

    private static void partiesAreNeeded() {
        BallotFoundry x = done(3, false, 0, 1, 1);
        check.fails("votes below", Check.INDEX, () -> x.votes(-1));
        check.fails("votes above", Check.INDEX, () -> x.votes(5));
        check.fails("seats below", Check.INDEX, () -> x.seats(-1));
        check.fails("seats above", Check.INDEX, () -> x.seats(5));
        check.fails("by ballots below", Check.INDEX, () -> x.seatsByBallots(-1));
        check.fails("by ballots above", Check.INDEX, () -> x.seatsByBallots(5));
        check.fails("place below", Check.INDEX, () -> x.seatAt(-1));
        check.due("a far place", x.seatAt(Integer.MAX_VALUE), BallotFoundry.NONE);
        BallotFoundry y = new BallotFoundry();
        check.fails("votes above, without an election", Check.INDEX, () -> y.votes(5));
        check.fails("seats above, without an election", Check.INDEX, () -> y.seats(5));
        check.fails("by ballots above, without an election", Check.INDEX, () -> y.seatsByBallots(5));
        check.fails("place below, without an election", Check.INDEX, () -> y.seatAt(-1));
    }

    private static void nothingIsToldAheadOfDone() {
        BallotFoundry x = new BallotFoundry();
        x.station(0, 20);
        x.person(0, 0);
        x.call(8, 3, false);
        int[] steps = {1, 1, 6};
        for (int step : steps) {
            x.advance(step);
            noneDue("stage " + x.stage(), x);
            check.due("by ballots, stage " + x.stage(), x.seatsByBallots(0), BallotFoundry.NONE);
        }
        x.vote(0, 0, 0);
        x.advance(1);
        noneDue("counting", x);
        check.due("by ballots, counting", x.seatsByBallots(0), 3);
        x.count(0, 0);
        noneDue("one count", x);
        x.count(0, 1);
        check.due("votes, done", x.votes(0), 1);
        check.due("seats, done", x.seats(0), 3);
        check.due("lots, done", x.lots(), 0);
        orderDue("done", x, 0, 0, 0);
    }

    private static void noneDue(String what, BallotFoundry x) {
        check.due(what + ", votes", x.votes(0), BallotFoundry.NONE);
        check.due(what + ", seats", x.seats(0), BallotFoundry.NONE);
        check.due(what + ", place", x.seatAt(0), BallotFoundry.NONE);
        check.due(what + ", lots", x.lots(), BallotFoundry.NONE);
    }

    private static void seatsByAllNumbers() {
        // 8, 5, 2 by 1, 2, 3 ..: 8, 5, 4, 8/3, 5/2, and then 2 (8/4) with 2 (2/1)
        BallotFoundry x = done(5, false, 0, 8, 0, 5, 2, 0, 3);
        orderDue("all", x, 0, 2, 0, 0, 2);
        check.due("no lot", x.lots(), 0);
    }

    private static void seatsByOddOnes() {
        // 8, 5, 2 by 1, 3, 5 ..: 8, 5, 8/3, 2, 5/3, 8/5, 8/7
        BallotFoundry x = done(7, true, 0, 8, 0, 5, 2, 0, 3);
        orderDue("odd", x, 0, 2, 0, 3, 2, 0, 0);
        check.due("no lot", x.lots(), 0);
    }

    private static void quotientsAreExact() {
        // 7/3 is above 9/4 by a twelfth; whole numbers would tie at 2
        BallotFoundry x = done(6, false, 0, 7, 9);
        orderDue("close", x, 1, 0, 1, 0, 1, 0);
        check.due("no lot", x.lots(), 0);
    }

    private static void noVotesNoSeats() {
        BallotFoundry x = done(4, false, 0, 0, 0, 0, 0, 0, 3);
        check.due("votes", x.votes(0), 0);
        orderDue("blanks alone", x);
        check.due("no lot", x.lots(), 0);
        BallotFoundry y = done(30, true, 0, 0, 1);
        check.due("all to one", y.seats(1), 30);
        check.due("none to one without votes", y.seats(0), 0);
        check.due("the last", y.seatAt(29), 1);
        check.due("behind it", y.seatAt(30), BallotFoundry.NONE);
    }

    private static void noSeatsToGive() {
        BallotFoundry x = done(0, false, 0, 1, 1);
        orderDue("no seats", x);
        check.due("no lot", x.lots(), 0);
    }

    private static void lotsFollowTheNumber() {
        // 0 -> 12345 (5 ties: 0) -> 63088 (4 ties: 0) -> 1001 (3 ties: 2) -> 2528 (2 ties: 0) -> alone
        BallotFoundry x = done(5, false, 0, 1, 1, 1, 1, 1);
        int number = 0;
        java.util.List<Integer> left = new java.util.ArrayList<>(java.util.List.of(0, 1, 2, 3, 4));
        int[] due = new int[5];
        for (int place = 0; place < 5; place++) {
            if (left.size() > 1) {
                number = (number * 1103 + 12345) % 65536;
                due[place] = left.remove(number % left.size());
            } else {
                due[place] = left.get(0);
            }
        }
        orderDue("five alike", x, due);
        check.due("one alone draws no lot", x.lots(), 4);
        check.due("asked twice", x.lots(), 4);
    }

    private static void lotsAmongSome() {
        // 4, 2, 2: the first seat is 0's, then 4/2, 2 and 2 tie
        BallotFoundry x = done(2, false, 1, 4, 0, 2, 0, 2);
        check.due("first", x.seatAt(0), 0);
        int[] tied = {0, 2, 4};
        check.due("lot", x.seatAt(1), tied[(1103 + 12345) % 65536 % 3]);
        check.due("lots", x.lots(), 1);
    }

    private static void lotsByTheSumOfSeeds() {
        int[] seeds = {9999, 9999, 9998, 9999, 9999};
        BallotFoundry x = new BallotFoundry();
        x.station(0, 20);
        for (int person = 0; person < 5; person++) {
            x.person(0, 0);
        }
        x.call(8, 1, true);
        x.seed(4, 17);
        for (int party = 0; party < 5; party++) {
            x.seed(party, seeds[party]);
        }
        x.advance(8);
        for (int person = 0; person < 5; person++) {
            x.vote(person, 0, person);
        }
        x.advance(1);
        x.count(0, 0);
        x.count(0, 1);
        check.due("first number 49994", x.seatAt(0), (49994 * 1103 + 12345) % 65536 % 5);
        check.due("lots", x.lots(), 1);
    }

    private static void seatAtHasPlaces() {
        BallotFoundry x = done(2, false, 0, 0, 0, 0, 2, 1);
        check.due("place 0", x.seatAt(0), 3);
        check.due("place 2", x.seatAt(2), BallotFoundry.NONE);
        check.fails("place below", Check.INDEX, () -> x.seatAt(Integer.MIN_VALUE));
    }

    private static void seatsByBallotsReadBoxes() {
        BallotFoundry x = counting(3, false, 0, 0, 3);
        x.setSlip(0, 2);
        x.setSlip(1, 2);
        x.count(0, 0);
        x.count(0, 1);
        check.due("votes of 1", x.votes(1), 2);
        check.due("votes of 2", x.votes(2), 1);
        check.due("by ballots of 1", x.seatsByBallots(1), 3);
        check.due("by ballots of 2", x.seatsByBallots(2), 0);
        check.due("lots are by the numbers", x.lots(), 1);
        check.due("both have seats by the numbers", x.seats(1) > 0 && x.seats(2) > 0, true);
        check.due("all are given", x.seats(1) + x.seats(2), 3);
    }

    private static void seatsByBallotsWhileCounting() {
        BallotFoundry x = new BallotFoundry();
        x.station(0, 2);
        x.station(35, 20);
        for (int person = 0; person < 5; person++) {
            x.person(0, 0);
        }
        x.call(8, 5, true);
        x.advance(8);
        for (int person = 0; person < 5; person++) {
            x.vote(person, x.stationOf(person), person < 2 ? 3 : 4);
        }
        check.due("while voting", x.seatsByBallots(3), BallotFoundry.NONE);
        x.advance(1);
        check.due("both boxes, of 3", x.seatsByBallots(3), 2);
        check.due("both boxes, of 4", x.seatsByBallots(4), 3);
        check.due("both boxes, of 0", x.seatsByBallots(0), 0);
    }

    private static void seatsByBallotsDrawAnew() {
        BallotFoundry x = done(1, false, 1234, 2, 2, 2, 2, 2);
        int drawn = (1234 * 1103 + 12345) % 65536 % 5;
        for (int asked = 0; asked < 3; asked++) {
            check.due("by ballots", x.seatsByBallots(drawn), 1);
            check.due("by numbers", x.seatAt(0), drawn);
            check.due("lots", x.lots(), 1);
        }
    }
}
