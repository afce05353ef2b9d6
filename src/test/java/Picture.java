import java.util.function.IntFunction;
import java.util.function.Supplier;

/** All that an object answers, as a text, with the state too that only calls tell that change it. */
final class Picture {
    private static final int MOST = 20;

    private final BallotFoundry x;
    private final StringBuilder told = new StringBuilder();
    private final int people;
    private final int stations;

    private Picture(BallotFoundry x) {
        this.x = x;
        people = countOf(x::stationOf);
        stations = countOf(x::ballots);
    }

    /** Ends the use of the object: its slips, seats, streets and people are changed by the asking. */
    static String of(BallotFoundry x) {
        Picture picture = new Picture(x);
        picture.tellAll();
        picture.tellByChanges();
        return picture.told.toString();
    }

    private static int countOf(IntFunction<?> asked) {
        int count = 0;
        while (count < MOST && !"IndexOutOfBoundsException".equals(answerAt(asked, count))) {
            count++;
        }
        return count;
    }

    private static String answerAt(IntFunction<?> asked, int number) {
        return answer(() -> asked.apply(number));
    }

    private static String answer(Supplier<?> asked) {
        try {
            return String.valueOf(asked.get());
        } catch (RuntimeException thrown) {
            return thrown.getClass().getSimpleName();
        }
    }

    private void tell(String what, Supplier<?> asked) {
        told.append(what).append(' ').append(answer(asked)).append('\n');
    }

    private void tellEach(String what, int count, IntFunction<?> asked) {
        told.append(what);
        for (int number = 0; number < count; number++) {
            told.append(' ').append(answerAt(asked, number));
        }
        told.append('\n');
    }

    private void tellAll() {
        tell("today", x::today);
        tell("stage", x::stage);
        tell("lots", x::lots);
        tell("way", () -> x.way(0, 1) + " " + x.way(0, 35));
        tellEach("isOnRoll", people, x::isOnRoll);
        tellEach("stationOf", people, x::stationOf);
        tellEach("dwells first", people, person -> x.dwells(person, 0));
        tellEach("dwells", people, person -> x.dwells(person, x.today()));
        tellEach("peopleOf", stations, x::peopleOf);
        tellEach("ballots", stations, x::ballots);
        tellEach("isSettled", stations, x::isSettled);
        tellEach("misread", stations, x::misread);
        tellEach("numberOf", 6 * stations, number -> x.numberOf(number / 6, number % 6));
        tellEach("votes", 5, x::votes);
        tellEach("seats", 5, x::seats);
        tellEach("seatsByBallots", 5, x::seatsByBallots);
        tellEach("stateOf", x.envelopes(), x::stateOf);
        tellEach("personOf", x.envelopes(), x::personOf);
        int latest = Math.max(0, x.notes() - 3);
        tellEach("notes behind " + latest, x.notes() - latest, note -> Ready.textOf(x, latest + note));
    }

    private void tellByChanges() {
        tellEach("setSlip", 4, clerk -> x.setSlip(clerk, 0));
        tellEach("setSeats", stations, station -> x.setSeats(station, 0));
        tellEach("bar to the right", 6, crossing -> x.bar(crossing, crossing + 1, false));
        tellEach("bar below", 6, crossing -> x.bar(crossing, crossing + 6, false));
        tellEach("seed", 5, party -> x.seed(party, 0));
        tellEach("recount", stations, x::recount);
        tellEach("vote", people, person -> x.vote(person, x.stationOf(person), 0));
        tellEach("die", people, x::die);
        tell("station", () -> x.station(0, 0));
        tell("person", () -> x.person(0, 0));
    }
}
