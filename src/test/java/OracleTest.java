import java.util.ArrayList;
import java.util.List;
import java.util.Random;
import java.util.function.LongSupplier;

/**
 * Runs of calls drawn from told seeds, each answered by the class and by the Oracle: the answers
 * and the exceptions are the same, no exception is the machine's, and one changes nothing.
 */
public final class OracleTest {
    private static final int RUNS = 400;
    private static final int CALLS = 512;

    private final Random random;
    private final BallotFoundry x = new BallotFoundry();
    private final Oracle oracle = new Oracle();
    private final List<String> told = new ArrayList<>();
    private final int wildness;
    private final int places;
    private String wrong = null;

    private OracleTest(long seed) {
        random = new Random(seed);
        wildness = random.nextInt(3) == 0 ? 6 : 40;
        places = random.nextInt(4) == 0 ? 3 : 36;
    }

    public static void main(String[] args) {
        int[] stages = new int[6];
        for (int seed = 0; seed < RUNS; seed++) {
            OracleTest run = new OracleTest(seed);
            run.play(stages);
            if (run.wrong != null) {
                for (String call : run.told) {
                    System.out.println(call);
                }
                System.out.println("OracleTest: run " + seed + ": " + run.wrong);
                System.exit(1);
            }
        }
        for (int stage = 0; stage < stages.length; stage++) {
            if (stages[stage] < RUNS) {
                System.out.println("OracleTest: the stage " + stage + " had only " + stages[stage] + " calls");
                System.exit(1);
            }
        }
        System.out.println("OracleTest: " + RUNS + " runs, 0 wrong");
    }

    private void play(int[] stages) {
        while (told.size() < CALLS && wrong == null) {
            stages[oracle.stage()]++;
            if (!drive()) {
                ask();
            }
        }
        // Behind the 512th call nothing is promised, but the book is kept all the same.
        for (int note = 0; note < oracle.notes() && wrong == null; note++) {
            int asked = note;
            for (int place = 0; place < 8; place++) {
                int at = place;
                same("signAt " + note + " " + at, () -> x.signAt(asked, at), () -> oracle.signAt(asked, at));
            }
        }
    }

    private void same(String call, LongSupplier built, LongSupplier due) {
        String got = answerOf(built);
        String want = answerOf(due);
        told.add(call + " = " + got);
        if (!got.equals(want) && wrong == null) {
            wrong = call + " answered " + got + ", due is " + want;
        }
    }

    private static String answerOf(LongSupplier call) {
        try {
            return Long.toString(call.getAsLong());
        } catch (RuntimeException thrown) {
            return thrown.getClass().getName();
        }
    }

    /** A number of those told, or now and then one that may be far out. */
    private int pick(int least, int most) {
        if (random.nextInt(wildness) == 0) {
            int[] wild = {least - 1, most + 1, least, most, Integer.MIN_VALUE, Integer.MAX_VALUE, -7, 1 << 30};
            return wild[random.nextInt(wild.length)];
        }
        return most < least ? least : least + random.nextInt(most - least + 1);
    }

    private int pickCrossing() {
        return pick(0, places - 1);
    }

    private int pickPerson() {
        return pick(0, Math.max(0, oracle.peopleThere() - 1));
    }

    private int pickStation() {
        return pick(0, Math.max(0, oracle.stationsThere() - 1));
    }

    /** Calls that bring the run on; false if none was made. */
    private boolean drive() {
        int dice = random.nextInt(100);
        switch (oracle.stage()) {
            case 0: case 5:
                if (dice < 35) { person(); } else if (dice < 42) { station(); }
                else if (dice < 52) { bars(); } else if (dice < 58) { call(); }
                else if (dice < 61) { advance(); } else if (dice < 70) { allResults(); }
                else { return false; }
                return true;
            case 1:
                if (dice < 15) { person(); } else if (dice < 20) { bars(); }
                else if (dice < 30) { seed(); } else if (dice < 50) { advance(); }
                else if (dice < 55) { move(); } else if (dice < 58) { station(); }
                else { return false; }
                return true;
            case 2:
                if (dice < 40) { early(); } else if (dice < 55) { advance(); }
                else if (dice < 56) { die(); } else { return false; }
                return true;
            case 3:
                if (dice < 50) { vote(); } else if (dice < 68) { open(); }
                else if (dice < 72) { advance(); } else if (dice < 73) { die(); }
                else { return false; }
                return true;
            default:
                if (dice < 70) { count(); } else if (dice < 73) { recount(); }
                else if (dice < 79) { slip(); } else { return false; }
                return true;
        }
    }

    private void person() {
        int crossing = pickCrossing();
        int age = random.nextInt(4) == 0 ? pick(0, 2000) : pick(0, 40);
        same("person " + crossing + " " + age, () -> x.person(crossing, age), () -> oracle.person(crossing, age));
    }

    private void station() {
        int crossing = pickCrossing();
        int seats = random.nextBoolean() ? pick(0, 20) : pick(0, 3);
        same("station " + crossing + " " + seats, () -> x.station(crossing, seats), () -> oracle.station(crossing, seats));
    }

    private void bars() {
        for (int street = random.nextInt(6); street >= 0; street--) {
            int one = pickCrossing();
            int[] steps = {1, -1, 6, -6, 7};
            int other = random.nextInt(20) == 0 ? pickCrossing() : one + steps[random.nextInt(5)];
            boolean isBarred = random.nextInt(4) != 0;
            same("bar " + one + " " + other + " " + isBarred,
                () -> x.bar(one, other, isBarred) ? 1 : 0, () -> oracle.bar(one, other, isBarred) ? 1 : 0);
        }
    }

    private void call() {
        int ahead = random.nextBoolean() ? pick(8, 12) : pick(8, 100);
        int seats = pick(0, 30);
        boolean isOdd = random.nextBoolean();
        same("call " + ahead + " " + seats + " " + isOdd,
            () -> x.call(ahead, seats, isOdd), () -> oracle.call(ahead, seats, isOdd));
    }

    private void seed() {
        int party = pick(0, 4);
        int seed = pick(0, 9999);
        same("seed " + party + " " + seed, () -> x.seed(party, seed), () -> oracle.seed(party, seed));
    }

    private void advance() {
        int days = random.nextInt(3) > 0 ? pick(1, 3) : pick(1, random.nextInt(6) == 0 ? 100 : 8);
        same("advance " + days, () -> x.advance(days), () -> oracle.advance(days));
    }

    private void move() {
        int person = pickPerson();
        int crossing = pickCrossing();
        same("move " + person + " " + crossing, () -> x.move(person, crossing), () -> oracle.move(person, crossing));
    }

    private void die() {
        int person = pickPerson();
        same("die " + person, () -> x.die(person) ? 1 : 0, () -> oracle.die(person) ? 1 : 0);
    }

    private void early() {
        int person = pickPerson();
        int party = pick(0, 5);
        same("early " + person + " " + party, () -> x.early(person, party), () -> oracle.early(person, party));
    }

    private void vote() {
        int person = pickPerson();
        int party = pick(0, 5);
        boolean isListed = person >= 0 && person < 20 && answerOf(() -> oracle.stationOf(person)).length() == 1;
        int station = isListed && random.nextInt(8) > 0 ? oracle.stationOf(person) : pickStation();
        same("vote " + person + " " + station + " " + party,
            () -> x.vote(person, station, party), () -> oracle.vote(person, station, party));
    }

    private void open() {
        int person = pickPerson();
        same("open " + person, () -> x.open(person), () -> oracle.open(person));
    }

    private void slip() {
        int clerk = pick(0, 3);
        int slip = random.nextInt(3) > 0 ? 0 : random.nextBoolean() ? pick(0, 4) : pick(0, 20);
        same("setSlip " + clerk + " " + slip, () -> x.setSlip(clerk, slip), () -> oracle.setSlip(clerk, slip));
    }

    private void count() {
        int station = pickStation();
        int clerk = pick(0, 3);
        same("count " + station + " " + clerk,
            () -> x.count(station, clerk) ? 1 : 0, () -> oracle.count(station, clerk) ? 1 : 0);
    }

    private void recount() {
        int station = pickStation();
        same("recount " + station, () -> x.recount(station), () -> oracle.recount(station));
    }

    private void ask() {
        int one = pickCrossing();
        int other = pickCrossing();
        int person = pickPerson();
        int station = pickStation();
        int party = pick(0, 5);
        int envelope = pick(0, Math.max(0, oracle.envelopes() - 1));
        int note = pick(0, Math.max(0, oracle.notes() - 1));
        int place = pick(0, 7);
        switch (random.nextInt(34)) {
            case 0: same("way " + one + " " + other, () -> x.way(one, other), () -> oracle.way(one, other)); break;
            case 1: {
                int day = pick(0, oracle.today());
                same("dwells " + person + " " + day, () -> x.dwells(person, day), () -> oracle.dwells(person, day));
                break;
            }
            case 2: same("today", x::today, oracle::today); break;
            case 3: same("stage", x::stage, oracle::stage); break;
            case 4:
                same("isOnRoll " + person, () -> x.isOnRoll(person) ? 1 : 0, () -> oracle.isOnRoll(person) ? 1 : 0);
                break;
            case 5: same("stationOf " + person, () -> x.stationOf(person), () -> oracle.stationOf(person)); break;
            case 6: same("peopleOf " + station, () -> x.peopleOf(station), () -> oracle.peopleOf(station)); break;
            case 7: same("envelopes", x::envelopes, oracle::envelopes); break;
            case 8: same("stateOf " + envelope, () -> x.stateOf(envelope), () -> oracle.stateOf(envelope)); break;
            case 9: same("personOf " + envelope, () -> x.personOf(envelope), () -> oracle.personOf(envelope)); break;
            case 10: same("ballots " + station, () -> x.ballots(station), () -> oracle.ballots(station)); break;
            case 11:
                same("isSettled " + station,
                    () -> x.isSettled(station) ? 1 : 0, () -> oracle.isSettled(station) ? 1 : 0);
                break;
            case 12:
                same("numberOf " + station + " " + party,
                    () -> x.numberOf(station, party), () -> oracle.numberOf(station, party));
                break;
            case 13: same("misread " + station, () -> x.misread(station), () -> oracle.misread(station)); break;
            case 14: same("votes " + party, () -> x.votes(party), () -> oracle.votes(party)); break;
            case 15: same("seats " + party, () -> x.seats(party), () -> oracle.seats(party)); break;
            case 16: same("seatAt " + place, () -> x.seatAt(place), () -> oracle.seatAt(place)); break;
            case 17: same("lots", x::lots, oracle::lots); break;
            case 18:
                same("seatsByBallots " + party, () -> x.seatsByBallots(party), () -> oracle.seatsByBallots(party));
                break;
            case 19: same("notes", x::notes, oracle::notes); break;
            case 20:
                same("signAt " + note + " " + place, () -> x.signAt(note, place), () -> oracle.signAt(note, place));
                break;
            case 21: {
                int seats = pick(0, 20);
                same("setSeats " + station + " " + seats,
                    () -> x.setSeats(station, seats), () -> oracle.setSeats(station, seats));
                break;
            }
            default: askAnyStage(); break;
        }
    }

    /** Calls that change the state in one stage, made in all of them. */
    private void askAnyStage() {
        switch (random.nextInt(16)) {
            case 0: early(); break;
            case 1: vote(); break;
            case 2: open(); break;
            case 3: count(); break;
            case 4: recount(); break;
            case 5: seed(); break;
            case 6: call(); break;
            case 7: case 8: move(); break;
            case 9: slip(); break;
            case 10: station(); break;
            case 11: person(); break;
            case 12: if (random.nextInt(4) == 0) { die(); } break;
            case 13: bars(); break;
            default: if (random.nextInt(10) == 0) { allResults(); } break;
        }
    }

    private void allResults() {
        for (int each = 0; each < 5; each++) {
            int party = each;
            same("votes " + party, () -> x.votes(party), () -> oracle.votes(party));
            same("seats " + party, () -> x.seats(party), () -> oracle.seats(party));
            same("seatsByBallots " + party, () -> x.seatsByBallots(party), () -> oracle.seatsByBallots(party));
        }
        int place = pick(0, 29);
        same("seatAt " + place, () -> x.seatAt(place), () -> oracle.seatAt(place));
        same("lots", x::lots, oracle::lots);
    }
}
