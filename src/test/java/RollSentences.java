/** Promises 15 to 17: the roll and the people of stations. */
final class RollSentences {
    private static final int FAR = Integer.MAX_VALUE;

    private RollSentences() {
    }

    /** Twenty people at five stations, four at each: the person p at the station p modulo 5. */
    private static BallotFoundry fullTown() {
        BallotFoundry x = new BallotFoundry();
        for (int station = 0; station < 5; station++) {
            x.station(7 * station, 20);
        }
        for (int person = 0; person < 20; person++) {
            x.person(7 * (person % 5), 0);
        }
        x.call(8, 0, false);
        x.advance(2);
        return x;
    }

    @Sentence(promise = 15, value = {"Tells whether a person is on the roll of the latest election.",
        "Returns whether it is;"})
    @Broken(at = "public boolean isOnRoll(", from = "!= NONE;", to = "== NONE;")
    @Broken(at = "public boolean isOnRoll(", from = "!= NONE;", to = "> 0;")
    @Broken(from = "roll.clear();")
    static void isOnRollTellsWhetherItIs(Check check) {
        BallotFoundry x = Ready.town(1);
        x.person(0, 30);
        x.call(8, 0, false);
        x.advance(2);
        check.due("of age", x.isOnRoll(0), true);
        check.due("not of age", x.isOnRoll(1), false);
        x.die(0);
        x.advance(7);
        check.due("who has died since", x.isOnRoll(0), true);
        Ready.settle(x, 0);
        check.due("when it is DONE", x.isOnRoll(0), true);
        x.call(21, 0, false);
        check.due("by the next call", x.isOnRoll(0), false);
        x.advance(15);
        check.due("who has died, in the next roll", x.isOnRoll(0), false);
        check.due("of age by then", x.isOnRoll(1), true);
    }

    @Sentence(promise = 15, value = "`person`: a person")
    @Broken(at = "public boolean isOnRoll(", from = "needPerson(person);", to = "needPerson(person - 1);")
    @Broken(at = "public boolean isOnRoll(", from = "needPerson(person);", to = "needPerson(person + 1);")
    static void isOnRollTakesEachPerson(Check check) {
        BallotFoundry x = Ready.early(20);
        check.due("the first", x.isOnRoll(0), true);
        check.due("the last", x.isOnRoll(19), true);
    }

    @Sentence(promise = 15, value = "false if the roll is not made.")
    @Broken(at = "class Roll {", from = "Arrays.fill(stationsOfPeople, NONE);")
    @Broken(at = "void clear() { Arrays.fill(stationsOfPeople", from = ", NONE);", to = ", 0);")
    static void isOnRollWithoutARoll(Check check) {
        BallotFoundry x = Ready.town(1);
        check.due("without an election", x.isOnRoll(0), false);
        x.call(8, 0, false);
        check.due("by the call", x.isOnRoll(0), false);
        x.advance(1);
        check.due("on the roll day", x.isOnRoll(0), false);
        x.advance(1);
        check.due("behind the roll day", x.isOnRoll(0), true);
    }

    @Sentence(promise = 15, value = "Throws `IndexOutOfBoundsException` if there is no such person")
    @Broken(at = "public boolean isOnRoll(", from = "needPerson(person);")
    @Broken(at = "private void needPerson(", from = "person >= peopleHere", to = "person > peopleHere")
    static void isOnRollNeedsAPerson(Check check) {
        check.refused("there is none", Check.INDEX, BallotFoundry::new, x -> x.isOnRoll(0));
        int[] nobody = {-1, 2, 20, -FAR - 1, FAR};
        for (int person : nobody) {
            check.refused("two, but not " + person, Check.INDEX, () -> Ready.early(2), x -> x.isOnRoll(person));
        }
        check.refused("twenty", Check.INDEX, () -> Ready.early(20), x -> x.isOnRoll(20));
    }

    @Sentence(promise = 16, value = {"Returns the station of a person, by the roll of the latest election.",
        "Returns the station;"})
    @Broken(at = "public int stationOf(", from = "stationFor(person);", to = "stationFor(0);")
    @Broken(from = "stationsOfPeople[person] = station;", to = "stationsOfPeople[person] = 0;")
    @Broken(from = "roll.clear();")
    static void stationOfTellsTheStation(Check check) {
        BallotFoundry x = fullTown();
        for (int person = 0; person < 20; person++) {
            check.due("the station of " + person, x.stationOf(person), person % 5);
        }
        x.move(4, 0);
        check.due("of who moves", x.stationOf(4), 4);
        x.advance(7);
        for (int station = 0; station < 5; station++) {
            Ready.settle(x, station);
        }
        check.due("when it is DONE", x.stationOf(4), 4);
        x.call(8, 0, false);
        check.due("by the next call", x.stationOf(4), BallotFoundry.NONE);
        x.advance(2);
        check.due("in the next roll", x.stationOf(4), 0);
    }

    @Sentence(promise = 16, value = "`person`: a person")
    @Broken(at = "public int stationOf(", from = "needPerson(person);", to = "needPerson(person - 1);")
    @Broken(at = "public int stationOf(", from = "needPerson(person);", to = "needPerson(person + 1);")
    static void stationOfTakesEachPerson(Check check) {
        BallotFoundry x = fullTown();
        check.due("the first", x.stationOf(0), 0);
        check.due("the last", x.stationOf(19), 4);
    }

    @Sentence(promise = 16, value = "NONE if it is not on the roll.")
    @Broken(at = "class Roll {", from = "Arrays.fill(stationsOfPeople, NONE);")
    @Broken(at = "void clear() { Arrays.fill(stationsOfPeople", from = ", NONE);", to = ", 0);")
    @Broken(from = "!who.hasDied && who.age <= election.day", to = "!who.hasDied")
    @Broken(from = "!who.hasDied && who.age <= election.day", to = "who.age <= election.day")
    static void stationOfNobodyOnTheRoll(Check check) {
        BallotFoundry x = Ready.town(2);
        check.due("without an election", x.stationOf(0), BallotFoundry.NONE);
        x.person(0, 9);
        x.die(1);
        x.call(8, 0, false);
        x.advance(1);
        check.due("without a roll", x.stationOf(0), BallotFoundry.NONE);
        x.advance(1);
        x.person(0, 0);
        check.due("on the roll", x.stationOf(0), 0);
        check.due("has died ahead of it", x.stationOf(1), BallotFoundry.NONE);
        check.due("not of age", x.stationOf(2), BallotFoundry.NONE);
        check.due("came behind it", x.stationOf(3), BallotFoundry.NONE);
    }

    @Sentence(promise = 16, value = "Throws `IndexOutOfBoundsException` if there is no such person")
    @Broken(at = "public int stationOf(", from = "needPerson(person);")
    @Broken(at = "private void needPerson(", from = "person >= peopleHere", to = "person > peopleHere")
    static void stationOfNeedsAPerson(Check check) {
        check.refused("there is none", Check.INDEX, BallotFoundry::new, x -> x.stationOf(0));
        int[] nobody = {-1, 2, 20, -FAR - 1, FAR};
        for (int person : nobody) {
            check.refused("two, but not " + person, Check.INDEX, () -> Ready.early(2), x -> x.stationOf(person));
        }
        check.refused("twenty", Check.INDEX, () -> Ready.early(20), x -> x.stationOf(20));
    }

    @Sentence(promise = 17, value = "Returns how many people a station has, by the roll of the latest election,")
    @Broken(from = "peopleOfStations[station]++;")
    @Broken(from = "Arrays.fill(peopleOfStations, 0);")
    @Broken(at = "public int peopleOf(", from = "election.roll.peopleAt(station)", to = "election.roll.peopleAt(0)")
    static void peopleOfAStation(Check check) {
        BallotFoundry x = Ready.twoStations();
        x.person(0, 0);
        check.due("at the station 0", x.peopleOf(0), 2);
        x.move(0, 35);
        check.due("where one has moved", x.peopleOf(0), 2);
        x.advance(7);
        Ready.settle(x, 0);
        Ready.settle(x, 1);
        check.due("when it is DONE", x.peopleOf(1), 2);
        x.call(8, 0, false);
        check.due("by the next call", x.peopleOf(1), 0);
        x.advance(2);
        check.due("in the next roll, of 0", x.peopleOf(0), 2);
        check.due("in the next roll, of 1", x.peopleOf(1), 3);
    }

    @Sentence(promise = 17, value = "those who have died since too.")
    @Broken(at = "public boolean die(", from = "who.hasDied = true;",
        to = "who.hasDied = true; if (election.roll.stationFor(person) >= 0) "
            + "{ election.roll.peopleOfStations[election.roll.stationFor(person)]--; }")
    static void peopleOfHasTheDead(Check check) {
        BallotFoundry x = Ready.town(3);
        x.die(0);
        x.call(8, 0, false);
        x.advance(2);
        check.due("who died ahead of it is not among them", x.peopleOf(0), 2);
        x.die(1);
        check.due("who died since is", x.peopleOf(0), 2);
        x.die(2);
        check.due("all have died", x.peopleOf(0), 2);
    }

    @Sentence(promise = 17, value = "`station`: a station")
    @Broken(at = "public int peopleOf(", from = "needStation(station);", to = "needStation(station - 1);")
    @Broken(at = "public int peopleOf(", from = "needStation(station);", to = "needStation(station + 1);")
    static void peopleOfTakesEachStation(Check check) {
        BallotFoundry x = fullTown();
        check.due("the first", x.peopleOf(0), 4);
        check.due("the last", x.peopleOf(4), 4);
    }

    @Sentence(promise = 17, value = "Returns how many.")
    @Broken(at = "int peopleAt(", from = "return peopleOfStations[station];",
        to = "return Math.min(peopleOfStations[station], 19);")
    @Broken(at = "int peopleAt(", from = "return peopleOfStations[station];",
        to = "return Math.max(peopleOfStations[station], 1);")
    static void peopleOfTellsHowMany(Check check) {
        BallotFoundry x = Ready.town(20);
        x.station(0, 20);
        check.due("without an election", x.peopleOf(0), 0);
        x.call(8, 0, false);
        check.due("without a roll", x.peopleOf(0), 0);
        x.advance(2);
        check.due("all of twenty", x.peopleOf(0), 20);
        check.due("none", x.peopleOf(1), 0);
        x.station(0, 20);
        check.due("none at one that came behind the roll", x.peopleOf(2), 0);
    }

    @Sentence(promise = 17, value = "Throws `IndexOutOfBoundsException` if there is no such station")
    @Broken(at = "public int peopleOf(", from = "needStation(station);")
    @Broken(at = "private void needStation(", from = "station >= stations.size", to = "station > stations.size")
    static void peopleOfNeedsAStation(Check check) {
        check.refused("there is none", Check.INDEX, BallotFoundry::new, x -> x.peopleOf(0));
        int[] none = {-1, 1, 5, -FAR - 1, FAR};
        for (int station : none) {
            check.refused("one, but not " + station, Check.INDEX, () -> Ready.early(1), x -> x.peopleOf(station));
        }
        check.refused("five", Check.INDEX, RollSentences::fullTown, x -> x.peopleOf(5));
    }
}
