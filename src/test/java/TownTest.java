/** Promises 1 to 5: a new object, streets, ways and stations. */
public final class TownTest {
    private static final Check check = new Check("TownTest");

    public static void main(String[] args) {
        newObject();
        barAnswersWhatWas();
        barBarsOneStreet();
        barNeedsAStreet();
        wayIsTheFewestStreets();
        wayGoesRoundWhatIsBarred();
        wayMayNotBe();
        stationsAreNumbered();
        setSeatsAnswersTheSeatsBefore();
        setSeatsIsForLaterRolls();
        check.end();
    }

    private static void newObject() {
        BallotFoundry x = new BallotFoundry();
        check.due("today", x.today(), 0);
        check.due("stage", x.stage(), BallotFoundry.NO_ELECTION);
        check.due("envelopes", x.envelopes(), 0);
        check.due("notes", x.notes(), 0);
        check.due("lots", x.lots(), BallotFoundry.NONE);
        check.due("votes", x.votes(0), BallotFoundry.NONE);
        check.due("seats", x.seats(4), BallotFoundry.NONE);
        check.due("seatAt", x.seatAt(0), BallotFoundry.NONE);
        check.due("seatsByBallots", x.seatsByBallots(0), BallotFoundry.NONE);
        check.fails("no person", Check.INDEX, () -> x.isOnRoll(0));
        check.fails("no station", Check.INDEX, () -> x.ballots(0));
        for (int clerk = 0; clerk < 4; clerk++) {
            check.due("slip", x.setSlip(clerk, 0), 0);
        }
        for (int one = 0; one < 36; one++) {
            waysOfANewObject(one);
        }
    }

    private static void waysOfANewObject(int one) {
        BallotFoundry x = new BallotFoundry();
        for (int other = 0; other < 36; other++) {
            int rows = Math.abs(one / 6 - other / 6);
            int columns = Math.abs(one % 6 - other % 6);
            check.due("way " + one + " " + other, x.way(one, other), rows + columns);
            if (rows + columns == 1) {
                check.due("bar " + one + " " + other, x.bar(one, other, false), false);
            }
        }
    }

    private static void barAnswersWhatWas() {
        BallotFoundry x = new BallotFoundry();
        check.due("first bar", x.bar(7, 8, true), false);
        check.due("the same street from its other end", x.bar(8, 7, true), true);
        check.due("opened", x.bar(7, 8, false), true);
        check.due("opened again", x.bar(7, 8, false), false);
        check.due("the last street below", x.bar(29, 35, true), false);
        check.due("the last street below, again", x.bar(35, 29, true), true);
        check.due("the last street to the right", x.bar(34, 35, true), false);
        check.due("way to the corner that is shut", x.way(0, 35), BallotFoundry.NONE);
        check.due("another street is as it was", x.bar(28, 34, true), false);
    }

    private static void barBarsOneStreet() {
        for (int one = 0; one < 36; one++) {
            for (int step = 1; step <= 6; step += 5) {
                if (step == 1 ? one % 6 == 5 : one >= 30) {
                    continue;
                }
                BallotFoundry x = new BallotFoundry();
                x.bar(one, one + step, true);
                check.due("barred " + one, x.way(one, one + step), 3);
                check.due("other streets that " + one + " bars", barredBut(x, one, one + step), 0);
                check.due("barred still " + one, x.bar(one + step, one, false), true);
            }
        }
    }

    private static int barredBut(BallotFoundry x, int one, int other) {
        int barred = 0;
        for (int from = 0; from < 36; from++) {
            boolean isRight = from % 6 != 5 && !(from == one && from + 1 == other);
            boolean isBelow = from < 30 && !(from == one && from + 6 == other);
            barred += isRight && x.bar(from, from + 1, false) ? 1 : 0;
            barred += isBelow && x.bar(from, from + 6, false) ? 1 : 0;
        }
        return barred;
    }

    private static void barNeedsAStreet() {
        BallotFoundry x = new BallotFoundry();
        check.fails("one below", Check.INDEX, () -> x.bar(-1, 0, true));
        check.fails("other below", Check.INDEX, () -> x.bar(0, -1, true));
        check.fails("one above", Check.INDEX, () -> x.bar(36, 35, true));
        check.fails("other above", Check.INDEX, () -> x.bar(35, 36, true));
        check.fails("far out", Check.INDEX, () -> x.bar(Integer.MAX_VALUE, Integer.MIN_VALUE, true));
        check.fails("itself", Check.ARGUMENT, () -> x.bar(14, 14, true));
        check.fails("round the end of a row", Check.ARGUMENT, () -> x.bar(11, 12, true));
        check.fails("round the end of a row, back", Check.ARGUMENT, () -> x.bar(12, 11, false));
        check.fails("aslant", Check.ARGUMENT, () -> x.bar(7, 14, true));
        check.fails("aslant to the left", Check.ARGUMENT, () -> x.bar(7, 12, true));
        check.fails("two apart", Check.ARGUMENT, () -> x.bar(0, 2, true));
        check.fails("two rows apart", Check.ARGUMENT, () -> x.bar(0, 12, true));
    }

    private static void wayIsTheFewestStreets() {
        BallotFoundry x = new BallotFoundry();
        check.due("to itself", x.way(20, 20), 0);
        check.due("round the end of a row", x.way(5, 6), 6);
        check.due("across", x.way(0, 35), 10);
        check.fails("one below", Check.INDEX, () -> x.way(-1, 0));
        check.fails("one above", Check.INDEX, () -> x.way(36, 0));
        check.fails("other below", Check.INDEX, () -> x.way(0, -1));
        check.fails("other above", Check.INDEX, () -> x.way(0, 36));
    }

    private static void wayGoesRoundWhatIsBarred() {
        BallotFoundry x = new BallotFoundry();
        x.bar(0, 1, true);
        check.due("round a street", x.way(0, 1), 3);
        check.due("round a street, back", x.way(1, 0), 3);
        for (int row = 0; row < 5; row++) {
            x.bar(6 * row + 2, 6 * row + 3, true);
        }
        check.due("round a wall", x.way(2, 3), 11);
        x.bar(2, 3, false);
        check.due("through the wall", x.way(2, 3), 1);
        check.due("through the gap", x.way(8, 9), 3);
    }

    private static void wayMayNotBe() {
        BallotFoundry x = new BallotFoundry();
        for (int row = 0; row < 6; row++) {
            x.bar(6 * row + 2, 6 * row + 3, true);
        }
        check.due("over a whole wall", x.way(0, 5), BallotFoundry.NONE);
        check.due("over a whole wall, back", x.way(33, 32), BallotFoundry.NONE);
        check.due("on one side of it", x.way(0, 32), 7);
        check.due("to itself", x.way(5, 5), 0);
    }

    private static void stationsAreNumbered() {
        BallotFoundry x = new BallotFoundry();
        check.fails("no crossing below", Check.INDEX, () -> x.station(-1, 0));
        check.fails("no crossing above", Check.INDEX, () -> x.station(36, 21));
        check.fails("seats below", Check.ARGUMENT, () -> x.station(0, -1));
        check.fails("seats above", Check.ARGUMENT, () -> x.station(0, 21));
        check.due("first", x.station(0, 0), 0);
        check.due("second, at the same crossing", x.station(0, 20), 1);
        check.due("third", x.station(35, 1), 2);
        check.due("fourth", x.station(1, 2), 3);
        check.due("fifth", x.station(2, 3), 4);
        check.fails("sixth", Check.STATE, () -> x.station(3, 3));
        check.fails("sixth, wrong seats", Check.ARGUMENT, () -> x.station(3, 21));
        check.fails("sixth, wrong crossing", Check.INDEX, () -> x.station(36, 21));
        check.fails("no sixth", Check.INDEX, () -> x.peopleOf(5));
        check.due("a fifth", x.peopleOf(4), 0);
    }

    private static void setSeatsAnswersTheSeatsBefore() {
        BallotFoundry x = new BallotFoundry();
        check.fails("no station", Check.INDEX, () -> x.setSeats(0, 0));
        x.station(0, 7);
        x.station(1, 8);
        check.due("as made", x.setSeats(0, 20), 7);
        check.due("as set", x.setSeats(0, 0), 20);
        check.due("none", x.setSeats(0, 5), 0);
        check.due("the other one", x.setSeats(1, 5), 8);
        check.fails("below", Check.ARGUMENT, () -> x.setSeats(0, -1));
        check.fails("above", Check.ARGUMENT, () -> x.setSeats(0, 21));
        check.due("unchanged", x.setSeats(0, 5), 5);
        check.fails("station below", Check.INDEX, () -> x.setSeats(-1, 21));
        check.fails("station above", Check.INDEX, () -> x.setSeats(2, 0));
    }

    private static void setSeatsIsForLaterRolls() {
        BallotFoundry x = new BallotFoundry();
        x.station(0, 1);
        x.station(35, 20);
        x.person(0, 0);
        x.person(0, 0);
        x.call(8, 0, false);
        x.advance(2);
        check.due("one seat near", x.peopleOf(0), 1);
        x.setSeats(0, 2);
        check.due("the roll is made", x.peopleOf(0), 1);
        x.advance(7);
        for (int clerk = 0; clerk < 2; clerk++) {
            x.count(0, clerk);
            x.count(1, clerk);
        }
        x.call(8, 0, false);
        x.advance(2);
        check.due("the next roll", x.peopleOf(0), 2);
    }
}
