/** Objects that stand at some stage, for the tests of sentences. */
final class Ready {
    static final int STAGES = 6;

    private Ready() {
    }

    /** So many people of age at the crossing 0, where the one station has 20 seats. */
    static BallotFoundry town(int people) {
        BallotFoundry x = new BallotFoundry();
        x.station(0, 20);
        settlers(x, people, 0);
        return x;
    }

    static void settlers(BallotFoundry x, int people, int crossing) {
        for (int person = 0; person < people; person++) {
            x.person(crossing, 0);
        }
    }

    /** Such a town with an election for 3 seats on the day 8, at that stage. */
    static BallotFoundry at(int stage, int people) {
        BallotFoundry x = town(people);
        if (stage == BallotFoundry.NO_ELECTION) {
            return x;
        }
        x.call(8, 3, false);
        if (stage == BallotFoundry.EARLY) {
            x.advance(2);
        } else if (stage == BallotFoundry.VOTING) {
            x.advance(8);
        } else if (stage > BallotFoundry.VOTING) {
            x.advance(9);
        }
        if (stage == BallotFoundry.DONE) {
            settle(x, 0);
        }
        return x;
    }

    static BallotFoundry called(int people) {
        return at(BallotFoundry.CALLED, people);
    }

    static BallotFoundry early(int people) {
        return at(BallotFoundry.EARLY, people);
    }

    static BallotFoundry voting(int people) {
        return at(BallotFoundry.VOTING, people);
    }

    /** The ballots lie in the box of the station 0 in this order, each by the person of its place. */
    static BallotFoundry counting(int... ballots) {
        BallotFoundry x = voting(ballots.length);
        for (int person = 0; person < ballots.length; person++) {
            x.vote(person, 0, ballots[person]);
        }
        x.advance(1);
        return x;
    }

    static BallotFoundry done(int... ballots) {
        BallotFoundry x = counting(ballots);
        settle(x, 0);
        return x;
    }

    static void settle(BallotFoundry x, int station) {
        x.count(station, 0);
        x.count(station, 1);
    }

    /** An election that is done, for so many seats, with so many ballots for each party, and then blanks. */
    static BallotFoundry given(int seats, boolean isOdd, int seed, int... votes) {
        int voters = 0;
        for (int each : votes) {
            voters += each;
        }
        BallotFoundry x = town(voters);
        x.call(8, seats, isOdd);
        x.seed(0, seed);
        x.advance(8);
        int person = 0;
        for (int party = 0; party < votes.length; party++) {
            for (int ballot = 0; ballot < votes[party]; ballot++) {
                x.vote(person, 0, party);
                person++;
            }
        }
        x.advance(1);
        settle(x, 0);
        return x;
    }

    /** Two people at the crossing 0 with the station 0, and two at 35 with the station 1, on the day 2. */
    static BallotFoundry twoStations() {
        BallotFoundry x = new BallotFoundry();
        x.station(0, 20);
        x.station(35, 20);
        settlers(x, 2, 0);
        settlers(x, 2, 35);
        x.call(8, 3, false);
        x.advance(2);
        return x;
    }

    /** Five stations, each with a person of its number, on the day of an election for 5 seats. */
    static BallotFoundry votingAtFive() {
        BallotFoundry x = new BallotFoundry();
        for (int station = 0; station < 5; station++) {
            x.station(station, 1);
            x.person(station, 0);
        }
        x.call(8, 5, false);
        x.advance(8);
        return x;
    }

    /** No election has been called in it. */
    static BallotFoundry on(int day) {
        BallotFoundry x = new BallotFoundry();
        x.station(0, 20);
        for (int today = 0; today < day; today = x.today()) {
            x.advance(Math.min(100, day - today));
        }
        return x;
    }

    static String textOf(BallotFoundry x, int note) {
        StringBuilder text = new StringBuilder();
        int sign = x.signAt(note, 0);
        while (sign != BallotFoundry.NONE && text.length() < 20) {
            text.append((char) sign);
            sign = x.signAt(note, text.length());
        }
        return text.toString();
    }

    /** The order in which the seats are given, as a text of their parties. */
    static String orderOf(BallotFoundry x) {
        StringBuilder order = new StringBuilder();
        int party = x.seatAt(0);
        while (party != BallotFoundry.NONE && order.length() < 40) {
            order.append(party);
            party = x.seatAt(order.length());
        }
        return order.toString();
    }
}
