/** Promises 1 to 5: a new object, streets, ways and stations. */
final class TownSentences {
    private static final int FAR = Integer.MAX_VALUE;

    private TownSentences() {
    }

    @Sentence(promise = 1, value = "The day 0;")
    @Broken(from = "private int now = 0;", to = "private int now = 1;")
    static void newObjectIsAtTheDayZero(Check check) {
        check.due("today", new BallotFoundry().today(), 0);
    }

    @Sentence(promise = 1, value = "no people, stations and elections;")
    @Broken(from = "private int peopleHere = 0;", to = "private int peopleHere = 1;")
    @Broken(at = "class Stations {", from = "size = 0;", to = "size = 1;")
    @Broken(from = "private int stage = NO_ELECTION;", to = "private int stage = CALLED;")
    static void newObjectIsEmpty(Check check) {
        BallotFoundry x = new BallotFoundry();
        check.fails("no person", Check.INDEX, () -> x.isOnRoll(0));
        check.fails("no station", Check.INDEX, () -> x.isSettled(0));
        check.due("no election", x.stage(), BallotFoundry.NO_ELECTION);
        check.fails("no envelope", Check.INDEX, () -> x.stateOf(0));
        check.fails("no note", Check.INDEX, () -> x.signAt(0, 0));
        check.due("the first person", x.person(0, 0), 0);
        check.due("the first station", x.station(0, 0), 0);
    }

    @Sentence(promise = 1, value = "no street is barred.")
    @Broken(from = "public BallotFoundry() {", to = "public BallotFoundry() { town.setBarred(0, true);")
    @Broken(from = "public BallotFoundry() {", to = "public BallotFoundry() { town.setBarred(2 * 34, true);")
    @Broken(from = "public BallotFoundry() {", to = "public BallotFoundry() { town.setBarred(2 * 29 + 1, true);")
    static void newObjectHasNoBars(Check check) {
        BallotFoundry x = new BallotFoundry();
        for (int one = 0; one < 36; one++) {
            if (one % 6 != 5) {
                check.due("to the right of " + one, x.bar(one, one + 1, false), false);
            }
            if (one < 30) {
                check.due("below " + one, x.bar(one, one + 6, false), false);
            }
        }
    }

    @Sentence(promise = 2, value = {"Bars the street between two crossings, or opens it.",
        "`isBarred`: whether it is barred from now on"})
    @Broken(from = "barred[street] = isBarred;")
    @Broken(from = "barred[street] = isBarred;", to = "barred[street] = true;")
    @Broken(from = "barred[street] = isBarred;", to = "barred[street] = !barred[street];")
    static void barBarsAndOpens(Check check) {
        BallotFoundry x = new BallotFoundry();
        x.bar(7, 13, true);
        check.due("barred", x.way(7, 13), 3);
        x.bar(13, 7, true);
        check.due("barred again, from its other end", x.way(7, 13), 3);
        x.bar(7, 13, false);
        check.due("opened", x.way(7, 13), 1);
        x.bar(7, 13, false);
        check.due("opened again", x.way(7, 13), 1);
    }

    @Sentence(promise = 2, value = "`one`: 0 to 35")
    @Broken(at = "public boolean bar(", from = "needCrossing(one);",
        to = "needCrossing(one); if (one == 0) { throw new IndexOutOfBoundsException(); }")
    @Broken(at = "public boolean bar(", from = "needCrossing(one);", to = "needCrossing(one + 1);")
    static void barTakesEachOne(Check check) {
        BallotFoundry x = new BallotFoundry();
        check.due("the first", x.bar(0, 1, true), false);
        check.due("the first is barred", x.bar(1, 0, true), true);
        check.due("the last", x.bar(35, 29, true), false);
        check.due("the last is barred", x.bar(29, 35, true), true);
    }

    @Sentence(promise = 2, value = "`other`: 0 to 35")
    @Broken(at = "public boolean bar(", from = "needCrossing(other);", to = "needCrossing(other - 1);")
    @Broken(at = "public boolean bar(", from = "needCrossing(other);", to = "needCrossing(other + 1);")
    static void barTakesEachOther(Check check) {
        BallotFoundry x = new BallotFoundry();
        check.due("the first", x.bar(6, 0, true), false);
        check.due("the first is barred", x.bar(0, 6, true), true);
        check.due("the last", x.bar(34, 35, true), false);
        check.due("the last is barred", x.bar(35, 34, true), true);
    }

    @Sentence(promise = 2, value = "Returns whether it was.")
    @Broken(from = "return wasBarred;", to = "return isBarred;")
    @Broken(from = "return wasBarred;", to = "return !wasBarred;")
    @Broken(from = "boolean wasBarred = barred[street]; barred[street] = isBarred;",
        to = "barred[street] = isBarred; boolean wasBarred = barred[street];")
    static void barTellsWhetherItWas(Check check) {
        BallotFoundry x = new BallotFoundry();
        check.due("opened, was open", x.bar(0, 1, false), false);
        check.due("barred, was open", x.bar(0, 1, true), false);
        check.due("barred, was barred", x.bar(0, 1, true), true);
        check.due("opened, was barred", x.bar(0, 1, false), true);
    }

    @Sentence(promise = 2, value = "Throws `IndexOutOfBoundsException` if there is no such crossing, of either")
    @Broken(at = "public boolean bar(", from = "needCrossing(one);")
    @Broken(at = "public boolean bar(", from = "needCrossing(other);")
    static void barNeedsCrossings(Check check) {
        check.refused("one below", Check.INDEX, BallotFoundry::new, x -> x.bar(-1, 0, true));
        check.refused("one above", Check.INDEX, BallotFoundry::new, x -> x.bar(36, 30, true));
        check.refused("one far below", Check.INDEX, BallotFoundry::new, x -> x.bar(-FAR - 1, 0, true));
        check.refused("one far above", Check.INDEX, BallotFoundry::new, x -> x.bar(FAR, 0, true));
        check.refused("other below", Check.INDEX, BallotFoundry::new, x -> x.bar(0, -1, true));
        check.refused("other above", Check.INDEX, BallotFoundry::new, x -> x.bar(35, 36, true));
        check.refused("other far below", Check.INDEX, BallotFoundry::new, x -> x.bar(0, -FAR - 1, true));
        check.refused("other far above", Check.INDEX, BallotFoundry::new, x -> x.bar(0, FAR, true));
        check.refused("both", Check.INDEX, BallotFoundry::new, x -> x.bar(-6, -7, true));
    }

    @Sentence(promise = 2, value = "Throws `IllegalArgumentException` if there is no street between them")
    @Broken(from = "high - low == 1 && high % ROW != 0", to = "high - low == 1")
    @Broken(from = "high - low == 1 && high % ROW != 0", to = "high - low <= 1 && high % ROW != 0")
    @Broken(from = "high - low == ROW)", to = "high - low == ROW || high - low == 2 * ROW)")
    @Broken(from = "high - low == ROW)", to = "high - low == ROW || high - low == ROW + 1)")
    static void barNeedsAStreet(Check check) {
        check.refused("itself", Check.ARGUMENT, BallotFoundry::new, x -> x.bar(14, 14, true));
        check.refused("the end of a row, and the next row", Check.ARGUMENT, BallotFoundry::new, x -> x.bar(5, 6, true));
        check.refused("the next row, and the end of a row", Check.ARGUMENT, BallotFoundry::new,
            x -> x.bar(30, 29, true));
        check.refused("two side by side", Check.ARGUMENT, BallotFoundry::new, x -> x.bar(0, 2, true));
        check.refused("two one above the other", Check.ARGUMENT, BallotFoundry::new, x -> x.bar(12, 0, true));
        check.refused("aslant", Check.ARGUMENT, BallotFoundry::new, x -> x.bar(0, 7, true));
        check.refused("aslant to the left", Check.ARGUMENT, BallotFoundry::new, x -> x.bar(1, 6, true));
        check.refused("the ends of a row", Check.ARGUMENT, BallotFoundry::new, x -> x.bar(0, 5, true));
        check.refused("the ends of a column", Check.ARGUMENT, BallotFoundry::new, x -> x.bar(0, 30, true));
        check.refused("the first and the last", Check.ARGUMENT, BallotFoundry::new, x -> x.bar(0, 35, false));
    }

    @Sentence(promise = 3, value = {"Returns the way between two crossings.", "Returns how many streets;"})
    @Broken(from = "return town.measuredTo(other);", to = "return town.measuredTo(other) + 1;")
    @Broken(from = "town.measureFrom(one); return", to = "return")
    @Broken(from = "measured[start] = 0;", to = "measured[start] = 1;")
    static void wayTellsHowManyStreets(Check check) {
        BallotFoundry x = new BallotFoundry();
        check.due("to itself", x.way(0, 0), 0);
        check.due("side by side", x.way(0, 1), 1);
        check.due("one above the other", x.way(6, 0), 1);
        check.due("over a corner", x.way(0, 7), 2);
        check.due("from the end of a row to the next row", x.way(5, 6), 6);
        check.due("the farthest", x.way(5, 30), 10);
        x.bar(0, 1, true);
        check.due("round a bar", x.way(1, 0), 3);
    }

    @Sentence(promise = 3, value = {"`one`: 0 to 35", "`other`: 0 to 35"})
    @Broken(at = "public int way(", from = "needCrossing(one);", to = "needCrossing(one - 1);")
    @Broken(at = "public int way(", from = "needCrossing(one);", to = "needCrossing(one + 1);")
    @Broken(at = "public int way(", from = "needCrossing(other);", to = "needCrossing(other - 1);")
    @Broken(at = "public int way(", from = "needCrossing(other);", to = "needCrossing(other + 1);")
    static void wayTakesEachCrossing(Check check) {
        BallotFoundry x = new BallotFoundry();
        check.due("from the first to the last", x.way(0, 35), 10);
        check.due("from the last to the first", x.way(35, 0), 10);
    }

    @Sentence(promise = 3, value = "NONE if there is no way.")
    @Broken(from = "Arrays.fill(measured, NONE);", to = "if (start >= 0) { measured[start] = NONE; }")
    @Broken(from = "return town.measuredTo(other);", to = "return Math.max(0, town.measuredTo(other));")
    static void wayMayBeNone(Check check) {
        BallotFoundry x = new BallotFoundry();
        check.due("ahead of the bars", x.way(35, 34), 1);
        x.bar(34, 35, true);
        x.bar(29, 35, true);
        check.due("into a corner that is shut", x.way(34, 35), BallotFoundry.NONE);
        check.due("out of it", x.way(35, 0), BallotFoundry.NONE);
        check.due("in it", x.way(35, 35), 0);
        x.bar(29, 35, false);
        check.due("when it is open again", x.way(34, 35), 3);
    }

    @Sentence(promise = 3, value = "Throws `IndexOutOfBoundsException` if there is no such crossing, of either")
    @Broken(at = "public int way(", from = "needCrossing(one);")
    @Broken(at = "public int way(", from = "needCrossing(other);")
    static void wayNeedsCrossings(Check check) {
        int[] none = {-1, 36, -FAR - 1, FAR};
        for (int crossing : none) {
            check.refused("from " + crossing, Check.INDEX, BallotFoundry::new, x -> x.way(crossing, 0));
            check.refused("to " + crossing, Check.INDEX, BallotFoundry::new, x -> x.way(0, crossing));
            check.refused("from and to " + crossing, Check.INDEX, BallotFoundry::new, x -> x.way(crossing, crossing));
        }
    }

    @Sentence(promise = 4, value = {"Adds a station.", "Returns its number."})
    @Broken(from = "return stations.add(crossing, seats);", to = "stations.add(crossing, seats); return 0;")
    @Broken(from = "return stations.add(crossing, seats);", to = "return stations.size;")
    static void stationIsAdded(Check check) {
        BallotFoundry x = new BallotFoundry();
        for (int station = 0; station < 5; station++) {
            int none = station;
            check.fails("there is none yet", Check.INDEX, () -> x.ballots(none));
            check.due("its number", x.station(7, 3), station);
            check.due("there is one", x.ballots(station), 0);
        }
    }

    @Sentence(promise = 4, value = "`crossing`: 0 to 35")
    @Broken(at = "public int station(", from = "needCrossing(crossing);", to = "needCrossing(crossing - 1);")
    @Broken(at = "public int station(", from = "needCrossing(crossing);", to = "needCrossing(crossing + 1);")
    static void stationTakesEachCrossing(Check check) {
        BallotFoundry x = new BallotFoundry();
        check.due("at the first", x.station(0, 1), 0);
        check.due("at the last", x.station(35, 1), 1);
    }

    @Sentence(promise = 4, value = "`seats`: 0 to 20")
    @Broken(at = "public int station(", from = "needRange(seats, 0, MOST_STATION_SEATS);",
        to = "needRange(seats, 1, MOST_STATION_SEATS);")
    @Broken(at = "public int station(", from = "needRange(seats, 0, MOST_STATION_SEATS);",
        to = "needRange(seats, 0, 19);")
    @Broken(from = "return stations.add(crossing, seats);", to = "return stations.add(crossing, Math.min(seats, 19));")
    static void stationTakesSeats(Check check) {
        BallotFoundry x = new BallotFoundry();
        check.due("none", x.station(0, 0), 0);
        check.due("the most", x.station(0, 20), 1);
        check.due("none, as set", x.setSeats(0, 1), 0);
        check.due("the most, as set", x.setSeats(1, 1), 20);
        BallotFoundry y = Ready.town(20);
        y.station(1, 20);
        y.call(8, 0, false);
        y.advance(2);
        check.due("a seat for each of 20", y.peopleOf(0), 20);
    }

    @Sentence(promise = 4, value = "Throws `IndexOutOfBoundsException` if there is no such crossing")
    @Broken(at = "public int station(", from = "needCrossing(crossing);")
    @Broken(at = "public int station(", from = "needCrossing(crossing);", to = "needCrossing(Math.max(0, crossing));")
    static void stationNeedsACrossing(Check check) {
        check.refused("below", Check.INDEX, BallotFoundry::new, x -> x.station(-1, 1));
        check.refused("above", Check.INDEX, BallotFoundry::new, x -> x.station(36, 1));
        check.refused("far below", Check.INDEX, BallotFoundry::new, x -> x.station(-FAR - 1, 1));
        check.refused("far above", Check.INDEX, BallotFoundry::new, x -> x.station(FAR, 1));
    }

    @Sentence(promise = 4, value = "Throws `IllegalArgumentException` if seats is out of range")
    @Broken(at = "public int station(", from = "needRange(seats, 0,", to = "needRange(seats, -1,")
    @Broken(at = "public int station(", from = "MOST_STATION_SEATS);", to = "MOST_STATION_SEATS + 1);")
    static void stationNeedsSeatsInRange(Check check) {
        check.refused("below", Check.ARGUMENT, BallotFoundry::new, x -> x.station(0, -1));
        check.refused("above", Check.ARGUMENT, BallotFoundry::new, x -> x.station(0, 21));
        check.refused("far below", Check.ARGUMENT, BallotFoundry::new, x -> x.station(0, -FAR - 1));
        check.refused("far above", Check.ARGUMENT, BallotFoundry::new, x -> x.station(0, FAR));
    }

    private static BallotFoundry withFiveStations() {
        BallotFoundry x = Ready.town(1);
        for (int station = 1; station < 5; station++) {
            x.station(station, station);
        }
        return x;
    }

    @Sentence(promise = 4, value = "Throws `IllegalStateException` if there are 5")
    @Broken(from = "if (stations.size >= MOST_STATIONS) { throw new IllegalStateException(\"no more stations\"); }")
    @Broken(from = "if (stations.size >= MOST_STATIONS) { throw",
        to = "if (stations.size >= MOST_STATIONS - 1) { throw")
    static void stationsAreFiveAtMost(Check check) {
        check.refused("the sixth", Check.STATE, TownSentences::withFiveStations, x -> x.station(5, 5));
        BallotFoundry x = withFiveStations();
        x.call(8, 0, false);
        check.fails("the sixth while CALLED", Check.STATE, () -> x.station(5, 5));
        check.fails("still no sixth", Check.INDEX, () -> x.ballots(5));
    }

    @Sentence(promise = 5, value = "Sets the seats of a station, for rolls that are made later.")
    @Broken(from = "stations.seats[station] = seats;")
    @Broken(from = "stations.seats[station] = seats;", to = "stations.seats[0] = seats;")
    @Broken(from = "stations.seats[station] = seats;",
        to = "stations.seats[station] = seats; if (election.stage == EARLY) { election.roll.clear(); makeRoll(); }")
    static void setSeatsIsForLaterRolls(Check check) {
        BallotFoundry x = Ready.town(3);
        x.station(1, 0);
        x.setSeats(0, 1);
        x.call(8, 0, false);
        x.setSeats(1, 1);
        x.advance(1);
        x.setSeats(1, 2);
        x.advance(1);
        check.due("set ahead of the roll, of 0", x.peopleOf(0), 1);
        check.due("set on the roll day, of 1", x.peopleOf(1), 2);
        x.setSeats(0, 20);
        check.due("set behind it, of 0", x.peopleOf(0), 1);
        x.advance(7);
        Ready.settle(x, 0);
        Ready.settle(x, 1);
        x.call(8, 0, false);
        x.advance(2);
        check.due("in the next roll, of 0", x.peopleOf(0), 3);
    }

    @Sentence(promise = 5, value = "`station`: a station")
    @Broken(at = "public int setSeats(", from = "needStation(station);", to = "needStation(station - 1);")
    @Broken(at = "public int setSeats(", from = "needStation(station);", to = "needStation(station + 1);")
    static void setSeatsTakesEachStation(Check check) {
        BallotFoundry x = withFiveStations();
        check.due("the first", x.setSeats(0, 9), 20);
        check.due("the last", x.setSeats(4, 9), 4);
    }

    @Sentence(promise = 5, value = "`seats`: 0 to 20")
    @Broken(at = "public int setSeats(", from = "needRange(seats, 0,", to = "needRange(seats, 1,")
    @Broken(at = "public int setSeats(", from = "MOST_STATION_SEATS);", to = "MOST_STATION_SEATS - 1);")
    static void setSeatsTakesSeats(Check check) {
        BallotFoundry x = withFiveStations();
        check.due("none", x.setSeats(1, 0), 1);
        check.due("the most", x.setSeats(1, 20), 0);
        check.due("the most is set", x.setSeats(1, 3), 20);
    }

    @Sentence(promise = 5, value = "Returns the seats before.")
    @Broken(at = "public int setSeats(", from = "return before;", to = "return seats;")
    @Broken(at = "public int setSeats(", from = "return before;", to = "return stations.seats[0];")
    static void setSeatsTellsTheSeatsBefore(Check check) {
        BallotFoundry x = withFiveStations();
        check.due("as added", x.setSeats(3, 7), 3);
        check.due("as set", x.setSeats(3, 7), 7);
        check.due("as set again", x.setSeats(3, 0), 7);
        check.due("another station's", x.setSeats(2, 0), 2);
    }

    @Sentence(promise = 5, value = "Throws `IndexOutOfBoundsException` if there is no such station")
    @Broken(at = "public int setSeats(", from = "needStation(station);",
        to = "if (station < 0 || station >= MOST_STATIONS) { throw new IndexOutOfBoundsException(); }")
    @Broken(at = "public int setSeats(", from = "needStation(station);")
    static void setSeatsNeedsAStation(Check check) {
        check.refused("there is none", Check.INDEX, BallotFoundry::new, x -> x.setSeats(0, 1));
        int[] none = {-1, 1, 4, 5, -FAR - 1, FAR};
        for (int station : none) {
            check.refused("one, but not " + station, Check.INDEX, () -> Ready.town(1), x -> x.setSeats(station, 1));
        }
        check.refused("five", Check.INDEX, TownSentences::withFiveStations, x -> x.setSeats(5, 1));
    }

    @Sentence(promise = 5, value = "Throws `IllegalArgumentException` if seats is out of range")
    @Broken(at = "public int setSeats(", from = "needRange(seats, 0,", to = "needRange(seats, -1,")
    @Broken(at = "public int setSeats(", from = "MOST_STATION_SEATS);", to = "MOST_STATION_SEATS + 1);")
    static void setSeatsNeedsSeatsInRange(Check check) {
        int[] out = {-1, 21, -FAR - 1, FAR};
        for (int seats : out) {
            check.refused("seats " + seats, Check.ARGUMENT, () -> Ready.town(1), x -> x.setSeats(0, seats));
        }
    }
}
