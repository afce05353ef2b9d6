import java.util.ArrayList;
import java.util.List;
import java.util.function.Consumer;
import java.util.function.Supplier;

/** Terms: what is counted once, calls that throw, the town, its people and its stations. */
final class TermsTownSentences {
    private TermsTownSentences() {
    }

    @Sentence("Who moves on the eve is counted once: each voter counts once, each vote has a station.")
    @Broken(at = "public int vote(", from = "voidEnvelopeOf(person);")
    @Broken(at = "void castFor(", from = "roll.hasVoted[person] = true;")
    @Broken(at = "void castFor(", from = "boxes[station].put(ballot);", to = "boxes[0].put(ballot);")
    static void whoMovesOnTheEveCountsOnce(Check check) {
        BallotFoundry x = Ready.twoStations();
        for (int person = 0; person < 4; person++) {
            x.early(person, 1);
        }
        x.advance(5);
        x.move(0, 35);
        x.move(1, 35);
        x.move(2, 0);
        x.advance(1);
        check.fails("at the station where it dwells on the day", Check.STATE, () -> x.vote(0, 1, 2));
        check.due("at its own", x.vote(0, 0, 2), 1);
        check.fails("at its own, once more", Check.STATE, () -> x.vote(0, 0, 2));
        x.open(1);
        x.vote(2, 1, 2);
        x.advance(1);
        check.due("the box of 0 and 1", x.ballots(0), 2);
        check.due("the box of 2 and 3", x.ballots(1), 2);
        Ready.settle(x, 0);
        Ready.settle(x, 1);
        check.due("the votes of those who did not vote anew", x.votes(1), 2);
        check.due("the votes of those who did", x.votes(2), 2);
    }

    @Sentence("A call that throws an exception changes nothing;")
    @Broken(at = "public boolean bar(", from = "needCrossing(one);",
        to = "if (one >= CROSSINGS) { town.setBarred(1, isBarred); } needCrossing(one);")
    @Broken(at = "public int station(", from = "needRange(seats", to = "stations.add(crossing, 0); needRange(seats")
    @Broken(at = "public int setSeats(", from = "needRange(seats", 
        to = "if (seats > MOST_STATION_SEATS) { stations.seats[station] = 9; } needRange(seats")
    @Broken(at = "public int person(", from = "needRange(age",
        to = "people[peopleHere].latest = new Stay(now, 0, null); peopleHere++; needRange(age")
    @Broken(at = "public int move(", from = "needAlive(who);",
        to = "who.latest = new Stay(now, crossing, who.latest); needAlive(who);")
    @Broken(at = "public int call(", from = "if (election.stage != NO_ELECTION",
        to = "election.start(now + ahead, seats, isOdd); if (election.stage != NO_ELECTION")
    @Broken(at = "public int seed(", from = "needRange(seed", 
        to = "if (seed > MOST_SEED) { election.seeds[party] = 3; } needRange(seed")
    @Broken(at = "public int advance(", from = "needRange(days", to = "now++; needRange(days")
    @Broken(at = "public int early(", from = "needRange(party", to = "voidEnvelopeOf(person); needRange(party")
    @Broken(at = "public int vote(", from = "needRange(party", to = "voidEnvelopeOf(person); needRange(party")
    @Broken(at = "public int vote(", from = "if (election.roll.hasVoted",
        to = "election.book.write(now, 'v', person); if (election.roll.hasVoted")
    @Broken(at = "public int open(", from = "int envelope =", to = "election.castFor(person, 0); int envelope =")
    @Broken(at = "public int setSlip(", from = "if (slip == 1)",
        to = "if (slip == 1) { slips[clerk] = 9; } if (slip == 1)")
    @Broken(at = "public boolean count(", from = "if (box.hasNumbers())",
        to = "election.book.write(now, 'c', station); if (box.hasNumbers())")
    @Broken(at = "public int recount(", from = "needStage(COUNTING);",
        to = "election.boxes[station].dropCounts(); needStage(COUNTING);")
    static void whatThrowsChangesNothing(Check check) {
        List<Consumer<BallotFoundry>> calls = new ArrayList<>();
        wrongNumbers(calls);
        wrongTimes(calls);
        for (int stage = 0; stage < Ready.STAGES; stage++) {
            int at = stage;
            Supplier<BallotFoundry> made = () -> lively(at);
            String untouched = Picture.of(made.get());
            int thrown = 0;
            for (int call = 0; call < calls.size(); call++) {
                BallotFoundry x = made.get();
                if (throwsAt(x, calls.get(call))) {
                    thrown++;
                    check.due("stage " + stage + ", call " + call, Picture.of(x), untouched);
                }
            }
            check.due("calls that throw at the stage " + stage, thrown > 34, true);
        }
    }

    private static boolean throwsAt(BallotFoundry x, Consumer<BallotFoundry> call) {
        try {
            call.accept(x);
            return false;
        } catch (IndexOutOfBoundsException | IllegalArgumentException | IllegalStateException thrown) {
            return true;
        }
    }

    /** Calls that throw at each stage. */
    private static void wrongNumbers(List<Consumer<BallotFoundry>> calls) {
        calls.add(x -> x.bar(36, 0, true));
        calls.add(x -> x.bar(0, 7, true));
        calls.add(x -> x.way(0, 36));
        calls.add(x -> x.station(36, 0));
        calls.add(x -> x.station(0, 21));
        calls.add(x -> x.setSeats(2, 5));
        calls.add(x -> x.setSeats(0, 21));
        calls.add(x -> x.person(36, 0));
        calls.add(x -> x.person(0, 2001));
        calls.add(x -> x.move(5, 0));
        calls.add(x -> x.move(0, 36));
        calls.add(x -> x.move(4, 0));
        calls.add(x -> x.die(5));
        calls.add(x -> x.die(4));
        calls.add(x -> x.dwells(0, 2000));
        calls.add(x -> x.call(7, 3, false));
        calls.add(x -> x.call(8, 31, false));
        calls.add(x -> x.seed(5, 1));
        calls.add(x -> x.seed(0, 10000));
        calls.add(x -> x.advance(0));
        calls.add(x -> x.advance(101));
        calls.add(x -> x.early(5, 0));
        calls.add(x -> x.early(0, 6));
        calls.add(x -> x.vote(5, 0, 0));
        calls.add(x -> x.vote(0, 2, 0));
        calls.add(x -> x.vote(0, 0, 6));
        calls.add(x -> x.open(5));
        calls.add(x -> x.setSlip(4, 2));
        calls.add(x -> x.setSlip(0, 1));
        calls.add(x -> x.setSlip(0, 21));
        calls.add(x -> x.count(2, 0));
        calls.add(x -> x.count(0, 4));
        calls.add(x -> x.recount(2));
        calls.add(x -> x.signAt(-1, 0));
    }

    /** Calls that throw at some stages. */
    private static void wrongTimes(List<Consumer<BallotFoundry>> calls) {
        calls.add(x -> x.call(8, 3, false));
        calls.add(x -> x.seed(0, 1));
        calls.add(x -> x.early(0, 1));
        calls.add(x -> x.early(3, 1));
        calls.add(x -> x.early(4, 1));
        calls.add(x -> x.vote(0, 0, 1));
        calls.add(x -> x.vote(0, 1, 1));
        calls.add(x -> x.vote(1, 0, 1));
        calls.add(x -> x.vote(3, 0, 1));
        calls.add(x -> x.vote(4, 0, 1));
        calls.add(x -> x.open(1));
        calls.add(x -> x.open(2));
        calls.add(x -> x.count(0, 0));
        calls.add(x -> x.count(1, 0));
        calls.add(x -> x.recount(1));
    }

    /** Three people of age, one that is not and one that has died, two stations, envelopes, votes and counts. */
    private static BallotFoundry lively(int stage) {
        BallotFoundry x = new BallotFoundry();
        x.station(0, 3);
        x.station(35, 20);
        Ready.settlers(x, 3, 0);
        x.person(0, 2000);
        x.person(35, 0);
        x.bar(0, 1, true);
        x.setSlip(0, 2);
        x.die(4);
        if (stage == BallotFoundry.NO_ELECTION) {
            return x;
        }
        x.call(8, 3, true);
        x.seed(0, 7);
        if (stage >= BallotFoundry.EARLY) {
            x.advance(2);
            x.early(0, 1);
            x.early(1, 2);
        }
        if (stage >= BallotFoundry.VOTING) {
            x.advance(6);
            x.vote(1, 0, 3);
        }
        if (stage >= BallotFoundry.COUNTING) {
            x.advance(1);
            x.count(0, 2);
            x.count(1, 2);
            x.count(1, 3);
        }
        if (stage == BallotFoundry.DONE) {
            x.count(0, 3);
        }
        return x;
    }

    @Sentence("The town has the crossings 0 to 35:")
    @Broken(from = "CROSSINGS = ROW * ROW", to = "CROSSINGS = ROW * ROW - 1")
    @Broken(at = "void needCrossing(", from = "crossing >= CROSSINGS", to = "crossing > CROSSINGS")
    @Broken(at = "void needCrossing(", from = "crossing < 0", to = "crossing <= 0")
    static void crossingsAreThirtySix(Check check) {
        BallotFoundry x = new BallotFoundry();
        for (int crossing = 0; crossing < 36; crossing++) {
            check.due("the crossing " + crossing, x.way(crossing, crossing), 0);
        }
        check.fails("ahead of the first", Check.INDEX, () -> x.way(-1, -1));
        check.fails("behind the last", Check.INDEX, () -> x.way(36, 36));
    }

    @Sentence("the crossing 6 * r + c is in the row r and the column c, each 0 to 5.")
    @Broken(from = "high - low == ROW", to = "high - low == ROW - 1")
    @Broken(from = "high % ROW != 0", to = "low % ROW != 0")
    static void crossingsLieInRowsAndColumns(Check check) {
        for (int r = 0; r < 6; r++) {
            for (int c = 0; c < 6; c++) {
                BallotFoundry x = new BallotFoundry();
                for (int other = 0; other < 36; other++) {
                    int streets = Math.abs(other / 6 - r) + Math.abs(other % 6 - c);
                    check.due("from " + r + " " + c + " to " + other, x.way(6 * r + c, other), streets);
                }
            }
        }
    }

    @Sentence("Two crossings side by side, or one above the other, have a street between them,")
    @Broken(from = "high - low == 1 && high % ROW != 0", to = "high - low == 1")
    @Broken(from = "if (high - low == ROW) { return 2 * low + 1; }")
    @Broken(from = "high - low == ROW", to = "high - low == ROW || high - low == ROW + 1")
    static void streetsLieSideBySide(Check check) {
        for (int one = 0; one < 36; one++) {
            BallotFoundry x = new BallotFoundry();
            for (int other = 0; other < 36; other++) {
                int to = other;
                int from = one;
                if (Math.abs(one / 6 - other / 6) + Math.abs(one % 6 - other % 6) == 1) {
                    check.due("a street from " + one + " to " + other, x.bar(one, other, false), false);
                } else {
                    check.fails("no street from " + one + " to " + other, Check.ARGUMENT, () -> x.bar(from, to, false));
                }
            }
        }
    }

    @Sentence("which can be barred.")
    @Broken(from = "barred[street] = isBarred;")
    @Broken(from = "return 2 * low;", to = "return 2 * low + 1;")
    static void eachStreetCanBeBarred(Check check) {
        for (int one = 0; one < 36; one++) {
            for (int step = 1; step <= 6; step += 5) {
                if (step == 1 ? one % 6 != 5 : one < 30) {
                    BallotFoundry x = new BallotFoundry();
                    x.bar(one, one + step, true);
                    check.due("round " + one + " and " + step, x.way(one, one + step), 3);
                    int along = step == 1 ? 6 : 1;
                    int beside = one % 6 < 5 && one < 30 ? one + along : one - along;
                    check.due("the street beside it", x.way(beside, one), 1);
                }
            }
        }
    }

    @Sentence("The way between two crossings is the fewest streets, none barred, that lead from one to the other one;")
    @Broken(from = "street == NONE || barred[street]", to = "street == NONE")
    @Broken(from = "ends = reach(from, from - ROW, ends);")
    @Broken(from = "ends = reach(from, from - 1, ends);")
    @Broken(from = "measured[from] + 1", to = "measured[from] + 2")
    @Broken(from = "|| measured[to] != NONE")
    static void wayIsTheFewestStreets(Check check) {
        BallotFoundry x = new BallotFoundry();
        check.due("none to itself", x.way(14, 14), 0);
        check.due("one", x.way(14, 15), 1);
        check.due("the farthest", x.way(35, 0), 10);
        x.bar(14, 15, true);
        check.due("round one street", x.way(14, 15), 3);
        x.bar(8, 9, true);
        x.bar(20, 21, true);
        check.due("round three streets", x.way(14, 15), 5);
        x.bar(2, 3, true);
        check.due("round four streets, by the row 4", x.way(15, 14), 5);
        x.bar(26, 27, true);
        check.due("round five streets, by the row 5", x.way(14, 15), 7);
        x.bar(26, 27, false);
        check.due("by a street that is opened again", x.way(14, 15), 5);
    }

    @Sentence("The way between two crossings is the fewest streets, none barred, that lead from one to the other one;")
    @Broken(from = "place < ends && place < CROSSINGS", to = "place < ends && place < CROSSINGS - 2")
    static void wayThroughEachCrossing(Check check) {
        BallotFoundry x = labyrinth();
        check.due("the longest", x.way(0, 30), 35);
        check.due("the longest, back", x.way(30, 0), 35);
        check.due("halfway", x.way(0, 12), 12);
    }

    /** From 0 along the row 0, down at its end, back along the row 1, and so on to 30. */
    private static BallotFoundry labyrinth() {
        BallotFoundry x = new BallotFoundry();
        for (int crossing = 0; crossing < 30; crossing++) {
            int end = crossing / 6 % 2 == 0 ? 5 : 0;
            if (crossing % 6 != end) {
                x.bar(crossing, crossing + 6, true);
            }
        }
        return x;
    }

    @Sentence("there is none, if none lead.")
    @Broken(from = "return measured[crossing];",
        to = "return measured[crossing] == NONE ? CROSSINGS : measured[crossing];")
    static void noWayIfNoneLead(Check check) {
        BallotFoundry x = new BallotFoundry();
        x.bar(0, 1, true);
        check.due("one street is left", x.way(0, 1), 3);
        x.bar(0, 6, true);
        check.due("none is left", x.way(0, 1), BallotFoundry.NONE);
        check.due("none is left, from the other one", x.way(35, 0), BallotFoundry.NONE);
        check.due("to itself all the same", x.way(0, 0), 0);
    }

    @Sentence("Days are numbered from 0.")
    @Broken(from = "private int now = 0;", to = "private int now = 1;")
    static void daysBeginAtZero(Check check) {
        BallotFoundry x = Ready.town(1);
        check.due("today", x.today(), 0);
        check.due("dwells on the day 0", x.dwells(0, 0), 0);
        check.fails("there is no day -1", Check.ARGUMENT, () -> x.dwells(0, -1));
    }

    @Sentence("There are the parties 0 to 4.")
    @Broken(from = "PARTIES = 5", to = "PARTIES = 4")
    @Broken(at = "void needParty(", from = "party >= PARTIES", to = "party > PARTIES")
    @Broken(at = "void needParty(", from = "party < 0", to = "party <= 0")
    static void partiesAreFive(Check check) {
        BallotFoundry x = Ready.done(0, 1, 2, 3, 4);
        for (int party = 0; party < 5; party++) {
            check.due("votes of " + party, x.votes(party), 1);
        }
        check.fails("ahead of the first", Check.INDEX, () -> x.votes(-1));
        check.fails("behind the last", Check.INDEX, () -> x.votes(5));
    }

    @Sentence({"People are numbered from 0;", "there can be 20."})
    @Broken(from = "MOST_PEOPLE = 20", to = "MOST_PEOPLE = 19")
    @Broken(from = "MOST_PEOPLE = 20", to = "MOST_PEOPLE = 21")
    @Broken(from = "return number; }", to = "return number + 1; }")
    static void peopleAreTwenty(Check check) {
        BallotFoundry x = new BallotFoundry();
        for (int person = 0; person < 20; person++) {
            check.due("person", x.person(0, 0), person);
        }
        check.fails("the 21st", Check.STATE, () -> x.person(0, 0));
    }

    @Sentence("A person is of age from some day on,")
    @Broken(from = "who.age <= election.day", to = "who.age < election.day")
    @Broken(from = "who.age <= election.day", to = "who.age <= election.day + 1")
    static void peopleAreOfAgeFromADayOn(Check check) {
        BallotFoundry x = Ready.town(0);
        x.person(0, 8);
        x.person(0, 9);
        x.person(0, 10);
        x.call(9, 0, false);
        x.advance(3);
        check.due("of age the day ahead", x.isOnRoll(0), true);
        check.due("of age from the very day on", x.isOnRoll(1), true);
        check.due("of age the day behind", x.isOnRoll(2), false);
    }

    @Sentence("dwells at a crossing from the day on which it comes,")
    @Broken(from = "new Stay(now, crossing, null)", to = "new Stay(now + 1, crossing, null)")
    @Broken(from = "new Stay(now, crossing, null)", to = "new Stay(now - 1, crossing, null)")
    static void peopleDwellFromTheirComing(Check check) {
        BallotFoundry x = Ready.on(5);
        x.person(9, 0);
        check.due("on the day on which it comes", x.dwells(0, 5), 9);
        check.due("the day ahead", x.dwells(0, 4), BallotFoundry.NONE);
        x.advance(1);
        check.due("the day behind", x.dwells(0, 6), 9);
    }

    @Sentence("and moves to others;")
    @Broken(from = "new Stay(now, crossing, who.latest)", to = "new Stay(now, before, who.latest)")
    static void peopleMove(Check check) {
        BallotFoundry x = Ready.town(1);
        x.move(0, 35);
        check.due("to the last crossing", x.dwells(0, 0), 35);
        x.move(0, 0);
        check.due("to the first one", x.dwells(0, 0), 0);
    }

    @Sentence("on each day it dwells where it came last, up to that day")
    @Broken(from = "stay.day <= day", to = "stay.day < day")
    @Broken(from = "stay.day <= day", to = "stay.day == day")
    @Broken(from = "who.latest = new Stay(now, crossing, who.latest);",
        to = "who.latest = new Stay(now, crossing, null);")
    static void peopleDwellWhereTheyCameLast(Check check) {
        BallotFoundry x = new BallotFoundry();
        x.person(1, 0);
        x.advance(2);
        x.move(0, 2);
        x.advance(2);
        x.move(0, 3);
        x.advance(2);
        int[] due = {1, 1, 2, 2, 3, 3, 3};
        for (int day = 0; day < due.length; day++) {
            check.due("on the day " + day, x.dwells(0, day), due[day]);
        }
    }

    @Sentence("(several moves on one day: the last one).")
    @Broken(from = "who.latest = new Stay(now, crossing, who.latest);",
        to = "if (who.latest.day < now) { who.latest = new Stay(now, crossing, who.latest); }")
    static void lastMoveOfADay(Check check) {
        BallotFoundry x = new BallotFoundry();
        x.person(1, 0);
        x.advance(3);
        x.move(0, 2);
        x.move(0, 3);
        x.move(0, 4);
        check.due("the last move", x.dwells(0, 3), 4);
        check.due("the day ahead", x.dwells(0, 2), 1);
        x.person(5, 0);
        x.move(1, 6);
        check.due("moved on the day on which it came", x.dwells(1, 3), 6);
    }

    @Sentence({"A person can die;", "nobody who has died moves, votes or dies again."})
    @Broken(at = "public int move(", from = "needAlive(who);")
    @Broken(at = "public boolean die(", from = "needAlive(who);")
    @Broken(at = "public boolean die(", from = "who.hasDied = true;")
    @Broken(at = "public int early(", from = "needAlive(who);")
    @Broken(at = "public int vote(", from = "needAlive(who);")
    @Broken(at = "public boolean die(", from = "return voidEnvelopeOf(person);", to = "return false;")
    static void whoHasDiedDoesNothing(Check check) {
        BallotFoundry x = Ready.early(2);
        x.early(0, 1);
        x.die(0);
        check.fails("moves", Check.STATE, () -> x.move(0, 1));
        check.fails("votes early", Check.STATE, () -> x.early(0, 1));
        check.fails("dies", Check.STATE, () -> x.die(0));
        x.advance(6);
        check.fails("votes", Check.STATE, () -> x.vote(0, 0, 1));
        check.fails("has its envelope opened", Check.STATE, () -> x.open(0));
        x.advance(1);
        check.due("no ballot of it", x.ballots(0), 0);
    }

    @Sentence({"Stations are numbered from 0;", "there can be 5."})
    @Broken(from = "MOST_STATIONS = 5", to = "MOST_STATIONS = 4")
    @Broken(from = "MOST_STATIONS = 5", to = "MOST_STATIONS = 6")
    @Broken(from = "return size - 1; } } private static final class Stay",
        to = "return size; } } private static final class Stay")
    static void stationsAreFive(Check check) {
        BallotFoundry x = new BallotFoundry();
        for (int station = 0; station < 5; station++) {
            check.due("station", x.station(0, 0), station);
        }
        check.fails("the sixth", Check.STATE, () -> x.station(0, 0));
    }

    @Sentence("A station is at a crossing, and has some seats.")
    @Broken(from = "crossings[size] = crossing;")
    @Broken(from = "seats[size] = seatsThere;")
    @Broken(from = "seats[size] = seatsThere;", to = "seats[size] = MOST_STATION_SEATS;")
    static void stationsHaveACrossingAndSeats(Check check) {
        BallotFoundry x = new BallotFoundry();
        x.station(0, 20);
        x.station(35, 1);
        Ready.settlers(x, 2, 35);
        x.call(8, 0, false);
        x.advance(2);
        check.due("at its crossing", x.stationOf(0), 1);
        check.due("without a seat more", x.stationOf(1), 0);
    }
}
