/** Promises 10 to 17: calling, seeds, days, stages and the roll. */
public final class ElectionTest {
    private static final Check check = new Check("ElectionTest");

    public static void main(String[] args) {
        callAnswersItsDay();
        callRefuses();
        callNeedsADayInRange();
        callBeginsAnew();
        secondElectionHasRowsOfItsOwn();
        seedsAreTold();
        seedsHaveTheirStages();
        daysPass();
        daysEnd();
        stagesGoByDays();
        rollHoldsWhoIsOfAge();
        rollTakesTheRollDay();
        rollStays();
        nearestStationWithSeat();
        townThatIsFull();
        emptiestStationWithWay();
        stationWithoutWay();
        barsCountWhenTheRollIsMade();
        peopleOfCountsTheDead();
        stationsThatComeLater();
        rollAnswersWithoutRoll();
        check.end();
    }

    private static void callAnswersItsDay() {
        BallotFoundry x = new BallotFoundry();
        x.advance(5);
        x.station(0, 0);
        check.due("the shortest", x.call(8, 0, false), 13);
        BallotFoundry y = new BallotFoundry();
        y.station(0, 0);
        check.due("the longest", y.call(100, 30, true), 100);
    }

    private static void callRefuses() {
        BallotFoundry x = new BallotFoundry();
        check.fails("too soon, without a station", Check.ARGUMENT, () -> x.call(7, 0, false));
        check.fails("too late", Check.ARGUMENT, () -> x.call(101, 0, false));
        check.fails("seats below", Check.ARGUMENT, () -> x.call(8, -1, false));
        check.fails("seats above", Check.ARGUMENT, () -> x.call(8, 31, false));
        check.fails("no station", Check.STATE, () -> x.call(8, 0, false));
        check.due("nothing called", x.stage(), BallotFoundry.NO_ELECTION);
        x.station(0, 0);
        x.call(8, 0, false);
        check.fails("called", Check.STATE, () -> x.call(8, 0, false));
        check.fails("called, and seats above", Check.ARGUMENT, () -> x.call(8, 31, false));
        x.advance(2);
        check.fails("early", Check.STATE, () -> x.call(8, 0, false));
        x.advance(6);
        check.fails("voting", Check.STATE, () -> x.call(8, 0, false));
        x.advance(1);
        check.fails("counting", Check.STATE, () -> x.call(8, 0, false));
        x.count(0, 0);
        x.count(0, 1);
        check.due("done", x.call(8, 0, false), 17);
    }

    private static void callNeedsADayInRange() {
        BallotFoundry x = new BallotFoundry();
        x.station(0, 0);
        for (int step = 0; step < 19; step++) {
            x.advance(100);
        }
        x.advance(1);
        check.fails("the day 2001", Check.STATE, () -> x.call(100, 0, false));
        check.due("the day 2000", x.call(99, 0, false), 2000);
        x.advance(100);
        check.due("it is counted behind it", x.stage(), BallotFoundry.COUNTING);
    }

    private static void callBeginsAnew() {
        BallotFoundry x = new BallotFoundry();
        x.station(0, 20);
        x.person(0, 0);
        x.call(8, 3, false);
        x.seed(2, 77);
        x.advance(2);
        x.early(0, 2);
        x.advance(7);
        x.count(0, 0);
        x.count(0, 1);
        check.due("its seats", x.seats(2), 3);
        x.call(8, 3, false);
        check.due("stage", x.stage(), BallotFoundry.CALLED);
        check.due("on roll", x.isOnRoll(0), false);
        check.due("station", x.stationOf(0), BallotFoundry.NONE);
        check.due("people", x.peopleOf(0), 0);
        check.due("envelopes", x.envelopes(), 0);
        check.fails("an old envelope", Check.INDEX, () -> x.stateOf(0));
        check.due("ballots", x.ballots(0), 0);
        check.due("settled", x.isSettled(0), false);
        check.due("number", x.numberOf(0, 2), BallotFoundry.NONE);
        check.due("misread", x.misread(0), BallotFoundry.NONE);
        check.due("votes", x.votes(2), BallotFoundry.NONE);
        check.due("seats", x.seats(2), BallotFoundry.NONE);
        check.due("seatAt", x.seatAt(0), BallotFoundry.NONE);
        check.due("lots", x.lots(), BallotFoundry.NONE);
        check.due("seatsByBallots", x.seatsByBallots(2), BallotFoundry.NONE);
        check.due("notes", x.notes(), 0);
        check.due("seed", x.seed(2, 1), 0);
        x.advance(8);
        check.due("can vote again", x.vote(0, 0, 1), 1);
    }

    private static void secondElectionHasRowsOfItsOwn() {
        BallotFoundry x = new BallotFoundry();
        x.station(0, 20);
        x.person(0, 0);
        x.person(0, 0);
        for (int election = 0; election < 3; election++) {
            x.call(8, 2, false);
            check.due("no lot of the one before", x.lots(), BallotFoundry.NONE);
            x.advance(2);
            check.due("envelope", x.early(0, election), 0);
            check.due("sealed", x.stateOf(0), BallotFoundry.SEALED);
            check.due("another envelope", x.early(1, election), 1);
            x.advance(6);
            check.due("opened", x.open(1), 1);
            x.advance(1);
            check.due("opened by the day's end", x.stateOf(0), BallotFoundry.OPENED);
            check.due("ballots", x.ballots(0), 2);
            check.due("no count of the one before", x.recount(0), 0);
            check.due("a first count", x.count(0, 0), false);
            check.due("a second count", x.count(0, 1), true);
            for (int party = 0; party < 5; party++) {
                check.due("votes", x.votes(party), party == election ? 2 : 0);
                check.due("seats", x.seats(party), party == election ? 2 : 0);
            }
        }
    }

    private static void seedsAreTold() {
        BallotFoundry x = new BallotFoundry();
        x.station(0, 0);
        x.call(8, 0, false);
        check.due("at first", x.seed(0, 9999), 0);
        check.due("in place of it", x.seed(0, 0), 9999);
        check.due("and again", x.seed(0, 5), 0);
        check.due("the last party", x.seed(4, 6), 0);
        check.due("the first is as it was", x.seed(0, 5), 5);
        check.fails("party below", Check.INDEX, () -> x.seed(-1, -1));
        check.fails("party above", Check.INDEX, () -> x.seed(5, 0));
        check.fails("seed below", Check.ARGUMENT, () -> x.seed(0, -1));
        check.fails("seed above", Check.ARGUMENT, () -> x.seed(0, 10000));
        check.due("unchanged", x.seed(0, 1), 5);
    }

    private static void seedsHaveTheirStages() {
        BallotFoundry x = new BallotFoundry();
        check.fails("no election", Check.STATE, () -> x.seed(0, 0));
        check.fails("no election, seed above", Check.ARGUMENT, () -> x.seed(0, 10000));
        x.station(0, 0);
        x.call(8, 0, false);
        check.due("called", x.seed(0, 1), 0);
        x.advance(2);
        check.due("early", x.seed(0, 2), 1);
        x.advance(6);
        check.fails("voting", Check.STATE, () -> x.seed(0, 3));
        x.advance(1);
        check.fails("counting", Check.STATE, () -> x.seed(0, 3));
        x.count(0, 0);
        x.count(0, 1);
        check.fails("done", Check.STATE, () -> x.seed(0, 3));
    }

    private static void daysPass() {
        BallotFoundry x = new BallotFoundry();
        check.due("one", x.advance(1), 1);
        check.due("many", x.advance(100), 101);
        check.due("today", x.today(), 101);
        check.fails("none", Check.ARGUMENT, () -> x.advance(0));
        check.fails("back", Check.ARGUMENT, () -> x.advance(-1));
        check.fails("too many", Check.ARGUMENT, () -> x.advance(101));
        check.fails("far too many", Check.ARGUMENT, () -> x.advance(Integer.MAX_VALUE));
        check.due("today still", x.today(), 101);
    }

    private static void daysEnd() {
        BallotFoundry x = new BallotFoundry();
        for (int step = 0; step < 20; step++) {
            x.advance(100);
        }
        x.advance(99);
        check.fails("above 2100", Check.STATE, () -> x.advance(2));
        check.fails("above 2100, too many days", Check.ARGUMENT, () -> x.advance(101));
        check.due("still", x.today(), 2099);
        check.due("the last day", x.advance(1), 2100);
        check.fails("behind the last day", Check.STATE, () -> x.advance(1));
    }

    private static void stagesGoByDays() {
        BallotFoundry x = new BallotFoundry();
        x.station(0, 0);
        x.station(1, 0);
        x.call(10, 0, false);
        int[] due = {1, 1, 1, 1, 2, 2, 2, 2, 2, 2, 3, 4, 4};
        for (int day = 0; day < due.length; day++) {
            check.due("stage on the day " + day, x.stage(), due[day]);
            x.advance(1);
        }
        x.count(0, 0);
        x.count(0, 1);
        x.count(1, 0);
        check.due("one is not settled", x.stage(), BallotFoundry.COUNTING);
        x.count(1, 1);
        check.due("all are settled", x.stage(), BallotFoundry.DONE);
        x.advance(100);
        check.due("done stays", x.stage(), BallotFoundry.DONE);
        x.call(100, 0, false);
        x.advance(100);
        check.due("in one step to its day", x.stage(), BallotFoundry.VOTING);
        x.advance(100);
        check.due("behind it", x.stage(), BallotFoundry.COUNTING);
    }

    private static void rollHoldsWhoIsOfAge() {
        BallotFoundry x = new BallotFoundry();
        x.station(0, 20);
        x.person(0, 8);
        x.person(0, 9);
        x.person(0, 0);
        x.person(0, 0);
        x.die(2);
        x.call(8, 0, false);
        x.advance(1);
        x.die(3);
        x.person(0, 8);
        x.advance(1);
        x.person(0, 0);
        check.due("of age on the day", x.isOnRoll(0), true);
        check.due("of age the day behind it", x.isOnRoll(1), false);
        check.due("died long ago", x.isOnRoll(2), false);
        check.due("died on the roll day", x.isOnRoll(3), false);
        check.due("came on the roll day", x.isOnRoll(4), true);
        check.due("came behind the roll day", x.isOnRoll(5), false);
        check.due("people", x.peopleOf(0), 2);
        check.due("station of one on it", x.stationOf(4), 0);
        check.due("station of one that is not", x.stationOf(5), BallotFoundry.NONE);
        check.due("station of a dead one", x.stationOf(3), BallotFoundry.NONE);
        check.fails("person below", Check.INDEX, () -> x.isOnRoll(-1));
        check.fails("person above", Check.INDEX, () -> x.isOnRoll(6));
        check.fails("station of a person below", Check.INDEX, () -> x.stationOf(-1));
        check.fails("station of a person above", Check.INDEX, () -> x.stationOf(6));
        check.fails("people of a station below", Check.INDEX, () -> x.peopleOf(-1));
        check.fails("people of a station above", Check.INDEX, () -> x.peopleOf(1));
    }

    private static void rollTakesTheRollDay() {
        BallotFoundry x = new BallotFoundry();
        x.station(0, 20);
        x.station(35, 20);
        x.person(0, 0);
        x.person(0, 0);
        x.person(0, 0);
        x.call(8, 0, false);
        x.move(0, 35);
        x.advance(1);
        check.due("not made on the roll day", x.isOnRoll(0), false);
        x.move(1, 35);
        x.advance(1);
        x.move(2, 35);
        check.due("moved ahead of it", x.stationOf(0), 1);
        check.due("moved on it", x.stationOf(1), 1);
        check.due("moved behind it", x.stationOf(2), 0);
    }

    private static void rollStays() {
        BallotFoundry x = new BallotFoundry();
        x.station(0, 1);
        x.station(1, 1);
        x.person(0, 0);
        x.person(0, 0);
        x.call(8, 0, false);
        x.advance(2);
        x.setSeats(0, 0);
        x.bar(0, 1, true);
        x.move(0, 35);
        x.die(1);
        x.advance(6);
        check.due("who has moved", x.stationOf(0), 0);
        check.due("who has died", x.stationOf(1), 1);
        check.due("who has died is on the roll", x.isOnRoll(1), true);
        x.advance(1);
        check.due("while counting", x.stationOf(0), 0);
        for (int clerk = 0; clerk < 2; clerk++) {
            x.count(0, clerk);
            x.count(1, clerk);
        }
        check.due("done", x.stationOf(1), 1);
        check.due("people, done", x.peopleOf(1), 1);
    }

    private static void nearestStationWithSeat() {
        BallotFoundry x = new BallotFoundry();
        x.station(4, 1);
        x.station(0, 2);
        x.station(2, 1);
        x.station(0, 20);
        for (int person = 0; person < 6; person++) {
            x.person(3, 0);
        }
        x.person(2, 0);
        x.call(8, 0, false);
        x.advance(2);
        int[] due = {0, 2, 1, 1, 3, 3, 3};
        for (int person = 0; person < due.length; person++) {
            check.due("station of " + person, x.stationOf(person), due[person]);
        }
        check.due("people of 0", x.peopleOf(0), 1);
        check.due("people of 1", x.peopleOf(1), 2);
        check.due("people of 2", x.peopleOf(2), 1);
        check.due("people of 3", x.peopleOf(3), 3);
    }

    private static void townThatIsFull() {
        BallotFoundry x = new BallotFoundry();
        for (int station = 0; station < 5; station++) {
            x.station(7 * station, 3);
        }
        for (int person = 0; person < 20; person++) {
            x.person(7 * (person % 5), 0);
        }
        x.call(8, 30, true);
        x.advance(8);
        for (int person = 0; person < 20; person++) {
            check.due("station of " + person, x.stationOf(person), person % 5);
            check.due("ballots", x.vote(person, person % 5, person % 5), person / 5 + 1);
        }
        x.advance(1);
        for (int station = 0; station < 5; station++) {
            check.due("people of " + station, x.peopleOf(station), 4);
            x.count(station, 0);
            check.due("settled", x.count(station, 1), true);
        }
        check.due("stage", x.stage(), BallotFoundry.DONE);
        for (int party = 0; party < 5; party++) {
            check.due("votes", x.votes(party), 4);
            check.due("seats", x.seats(party), 6);
            check.due("by ballots", x.seatsByBallots(party), 6);
        }
        check.due("lots", x.lots(), 6 * 4);
    }

    private static void emptiestStationWithWay() {
        BallotFoundry x = new BallotFoundry();
        x.station(0, 1);
        x.station(35, 0);
        x.station(34, 0);
        for (int person = 0; person < 5; person++) {
            x.person(0, 0);
        }
        x.call(8, 0, false);
        x.advance(2);
        int[] due = {0, 1, 2, 0, 1};
        for (int person = 0; person < due.length; person++) {
            check.due("station of " + person, x.stationOf(person), due[person]);
        }
    }

    private static void stationWithoutWay() {
        BallotFoundry x = new BallotFoundry();
        x.station(14, 0);
        x.station(15, 20);
        x.station(16, 20);
        x.person(0, 0);
        x.person(20, 0);
        x.person(0, 0);
        x.bar(0, 1, true);
        x.bar(0, 6, true);
        x.bar(14, 15, true);
        x.bar(9, 15, true);
        x.bar(15, 16, true);
        x.bar(15, 21, true);
        x.call(8, 0, false);
        x.advance(2);
        check.due("shut in: the station 0 though it has no seat", x.stationOf(0), 0);
        check.due("a station that is shut in is none", x.stationOf(1), 2);
        check.due("shut in, again", x.stationOf(2), 0);
        BallotFoundry y = new BallotFoundry();
        y.station(35, 20);
        y.station(6, 0);
        y.person(6, 0);
        y.bar(35, 34, true);
        y.bar(35, 29, true);
        y.call(8, 0, false);
        y.advance(2);
        check.due("with a way and no seat, ahead of a seat and no way", y.stationOf(0), 1);
    }

    private static void barsCountWhenTheRollIsMade() {
        BallotFoundry x = new BallotFoundry();
        x.station(0, 20);
        x.station(3, 20);
        x.person(1, 0);
        x.call(8, 0, false);
        x.advance(1);
        x.bar(0, 1, true);
        x.advance(1);
        check.due("two streets beat three", x.stationOf(0), 1);
    }

    private static void peopleOfCountsTheDead() {
        BallotFoundry x = new BallotFoundry();
        x.station(0, 20);
        x.person(0, 0);
        x.person(0, 0);
        x.call(8, 0, false);
        check.due("without a roll", x.peopleOf(0), 0);
        x.advance(2);
        x.die(0);
        check.due("the dead too", x.peopleOf(0), 2);
    }

    private static void stationsThatComeLater() {
        BallotFoundry x = new BallotFoundry();
        x.station(0, 0);
        x.person(35, 0);
        x.call(8, 0, false);
        x.advance(1);
        x.station(35, 20);
        x.advance(1);
        x.station(34, 20);
        check.due("came on the roll day", x.peopleOf(1), 1);
        check.due("came behind it", x.peopleOf(2), 0);
        x.advance(7);
        for (int clerk = 0; clerk < 2; clerk++) {
            x.count(0, clerk);
            x.count(1, clerk);
        }
        check.due("done without the one that came later", x.stage(), BallotFoundry.DONE);
        check.due("which is not settled", x.isSettled(2), false);
        check.due("and has no numbers", x.numberOf(2, 0), BallotFoundry.NONE);
        check.due("nor misread ballots", x.misread(2), BallotFoundry.NONE);
        check.due("nor a box with ballots", x.ballots(2), 0);
    }

    private static void rollAnswersWithoutRoll() {
        BallotFoundry x = new BallotFoundry();
        x.station(0, 0);
        x.person(0, 0);
        check.due("on roll", x.isOnRoll(0), false);
        check.due("station", x.stationOf(0), BallotFoundry.NONE);
        check.due("people", x.peopleOf(0), 0);
        check.due("ballots", x.ballots(0), 0);
        check.due("settled", x.isSettled(0), false);
        check.due("number", x.numberOf(0, 0), BallotFoundry.NONE);
        check.due("misread", x.misread(0), BallotFoundry.NONE);
    }
}
