import java.math.BigInteger;
import java.util.ArrayList;
import java.util.Arrays;
import java.util.Collections;
import java.util.HashSet;
import java.util.List;
import java.util.Set;
import java.util.TreeMap;

/**
 * The document once more, written apart from the class and with the whole Java library: what it
 * keeps is what has happened, and most answers are found from that anew.
 */
final class Oracle {
    private static final class Voter {
        int age;
        boolean dead;
        final TreeMap<Integer, Integer> stays = new TreeMap<>();
    }

    private static final class Envelope {
        int person;
        int party;
        int state;
    }

    private static final class Vote {
        int person;
        int party;
    }

    private static final class Poll {
        int day;
        int seats;
        boolean odd;
        final int[] seeds = new int[5];
        List<Integer> placed;
        int stationsThen;
        final List<Envelope> envelopes = new ArrayList<>();
        final List<Vote> cast = new ArrayList<>();
        final List<List<int[]>> counts = new ArrayList<>();
        final List<String> book = new ArrayList<>();
    }

    private final Set<Set<Integer>> barred = new HashSet<>();
    private final List<int[]> stations = new ArrayList<>();
    private final List<Voter> voters = new ArrayList<>();
    private final int[] slips = new int[4];
    private int today = 0;
    private Poll poll = null;

    // ---- what is refused

    private static void index(boolean isThere) {
        if (!isThere) {
            throw new IndexOutOfBoundsException();
        }
    }

    private static void argument(boolean isGood) {
        if (!isGood) {
            throw new IllegalArgumentException();
        }
    }

    private static void state(boolean isGood) {
        if (!isGood) {
            throw new IllegalStateException();
        }
    }

    private static boolean in(int value, int least, int most) {
        return least <= value && value <= most;
    }

    private boolean isPerson(int person) {
        return in(person, 0, voters.size() - 1);
    }

    private boolean isStation(int station) {
        return in(station, 0, stations.size() - 1);
    }

    int peopleThere() {
        return voters.size();
    }

    int stationsThere() {
        return stations.size();
    }

    // ---- the town

    private static boolean isStreet(int one, int other) {
        return Math.abs(one / 6 - other / 6) + Math.abs(one % 6 - other % 6) == 1;
    }

    boolean bar(int one, int other, boolean isBarred) {
        index(in(one, 0, 35) && in(other, 0, 35));
        argument(isStreet(one, other));
        Set<Integer> street = Set.of(one, other);
        return isBarred ? !barred.add(street) : barred.remove(street);
    }

    int way(int one, int other) {
        index(in(one, 0, 35) && in(other, 0, 35));
        int[] far = new int[36];
        Arrays.fill(far, 1000);
        far[one] = 0;
        for (int round = 0; round < 36; round++) {
            for (int from = 0; from < 36; from++) {
                for (int to = 0; to < 36; to++) {
                    if (isStreet(from, to) && !barred.contains(Set.of(from, to))) {
                        far[to] = Math.min(far[to], far[from] + 1);
                    }
                }
            }
        }
        return far[other] >= 1000 ? -1 : far[other];
    }

    int station(int crossing, int seats) {
        index(in(crossing, 0, 35));
        argument(in(seats, 0, 20));
        state(stations.size() < 5);
        stations.add(new int[] {crossing, seats});
        return stations.size() - 1;
    }

    int setSeats(int station, int seats) {
        index(isStation(station));
        argument(in(seats, 0, 20));
        int before = stations.get(station)[1];
        stations.get(station)[1] = seats;
        return before;
    }

    // ---- people

    int person(int crossing, int age) {
        index(in(crossing, 0, 35));
        argument(in(age, 0, 2000));
        state(voters.size() < 20);
        Voter voter = new Voter();
        voter.age = age;
        voter.stays.put(today, crossing);
        voters.add(voter);
        return voters.size() - 1;
    }

    int move(int person, int crossing) {
        index(isPerson(person) && in(crossing, 0, 35));
        state(!voters.get(person).dead);
        int before = voters.get(person).stays.lastEntry().getValue();
        voters.get(person).stays.put(today, crossing);
        return before;
    }

    boolean die(int person) {
        index(isPerson(person));
        state(!voters.get(person).dead);
        voters.get(person).dead = true;
        return voidSealed(person);
    }

    int dwells(int person, int day) {
        index(isPerson(person));
        argument(in(day, 0, today));
        var stay = voters.get(person).stays.floorEntry(day);
        return stay == null ? -1 : stay.getValue();
    }

    // ---- elections

    int call(int ahead, int seats, boolean isOdd) {
        argument(in(ahead, 8, 100) && in(seats, 0, 30));
        state((poll == null || stage() == 5) && !stations.isEmpty() && today + ahead <= 2000);
        poll = new Poll();
        poll.day = today + ahead;
        poll.seats = seats;
        poll.odd = isOdd;
        return poll.day;
    }

    int seed(int party, int seed) {
        index(in(party, 0, 4));
        argument(in(seed, 0, 9999));
        state(in(stage(), 1, 2));
        int before = poll.seeds[party];
        poll.seeds[party] = seed;
        return before;
    }

    int advance(int days) {
        argument(in(days, 1, 100));
        state(today + days <= 2100);
        for (int day = 0; day < days; day++) {
            if (poll != null && today == poll.day - 7) {
                makeRoll();
            }
            if (poll != null && today == poll.day) {
                endDay();
            }
            today++;
        }
        return today;
    }

    private void makeRoll() {
        poll.placed = new ArrayList<>();
        poll.stationsThen = stations.size();
        for (int station = 0; station < stations.size(); station++) {
            poll.counts.add(new ArrayList<>());
        }
        for (Voter voter : voters) {
            poll.placed.add(voter.dead || voter.age > poll.day ? -1 : place(voter.stays.floorEntry(today).getValue()));
        }
    }

    private int place(int crossing) {
        int[] best = null;
        for (int station = 0; station < stations.size(); station++) {
            int way = way(crossing, stations.get(station)[0]);
            int there = Collections.frequency(poll.placed, station);
            if (way < 0) {
                continue;
            }
            boolean free = there < stations.get(station)[1];
            int[] rank = {free ? 0 : 1, free ? way : there, station};
            if (best == null || Arrays.compare(rank, best) < 0) {
                best = rank;
            }
        }
        return best == null ? 0 : best[2];
    }

    private void endDay() {
        for (Envelope envelope : poll.envelopes) {
            if (envelope.state == 0) {
                openIt(envelope, "s");
            }
        }
    }

    private void openIt(Envelope envelope, String sign) {
        envelope.state = 2;
        cast(envelope.person, envelope.party);
        poll.book.add(poll.day + sign + envelope.person);
    }

    private void cast(int person, int party) {
        Vote vote = new Vote();
        vote.person = person;
        vote.party = party;
        poll.cast.add(vote);
    }

    int today() {
        return today;
    }

    int stage() {
        if (poll == null) {
            return 0;
        }
        if (today <= poll.day - 7) {
            return 1;
        }
        if (today <= poll.day) {
            return today < poll.day ? 2 : 3;
        }
        for (int station = 0; station < poll.stationsThen; station++) {
            if (numbers(station) == null) {
                return 4;
            }
        }
        return 5;
    }

    boolean isOnRoll(int person) {
        return stationOf(person) >= 0;
    }

    int stationOf(int person) {
        index(isPerson(person));
        boolean isListed = poll != null && poll.placed != null && person < poll.placed.size();
        return isListed ? poll.placed.get(person) : -1;
    }

    int peopleOf(int station) {
        index(isStation(station));
        return poll == null || poll.placed == null ? 0 : Collections.frequency(poll.placed, station);
    }

    // ---- votes

    private boolean voidSealed(int person) {
        Envelope envelope = sealedOf(person);
        if (envelope == null) {
            return false;
        }
        envelope.state = 1;
        poll.book.add(today + "x" + person);
        return true;
    }

    private Envelope sealedOf(int person) {
        if (poll != null) {
            for (Envelope envelope : poll.envelopes) {
                if (envelope.person == person && envelope.state == 0) {
                    return envelope;
                }
            }
        }
        return null;
    }

    int early(int person, int party) {
        index(isPerson(person));
        argument(in(party, 0, 5));
        state(stage() == 2 && isOnRoll(person) && !voters.get(person).dead && poll.envelopes.size() < 60);
        voidSealed(person);
        Envelope envelope = new Envelope();
        envelope.person = person;
        envelope.party = party;
        poll.envelopes.add(envelope);
        poll.book.add(today + "e" + person);
        return poll.envelopes.size() - 1;
    }

    int vote(int person, int station, int party) {
        index(isPerson(person) && isStation(station));
        argument(in(party, 0, 5));
        state(stage() == 3 && stationOf(person) == station && !voters.get(person).dead);
        for (Vote vote : poll.cast) {
            state(vote.person != person);
        }
        voidSealed(person);
        poll.book.add(today + "v" + person);
        cast(person, party);
        return ballots(station);
    }

    int open(int person) {
        index(isPerson(person));
        state(stage() == 3 && sealedOf(person) != null);
        Envelope envelope = sealedOf(person);
        openIt(envelope, "o");
        return poll.envelopes.indexOf(envelope);
    }

    int envelopes() {
        return poll == null ? 0 : poll.envelopes.size();
    }

    int stateOf(int envelope) {
        index(in(envelope, 0, envelopes() - 1));
        return poll.envelopes.get(envelope).state;
    }

    int personOf(int envelope) {
        index(in(envelope, 0, envelopes() - 1));
        return poll.envelopes.get(envelope).person;
    }

    private List<Integer> box(int station) {
        List<Integer> box = new ArrayList<>();
        if (poll != null) {
            for (Vote vote : poll.cast) {
                if (poll.placed.get(vote.person) == station) {
                    box.add(vote.party);
                }
            }
        }
        return box;
    }

    int ballots(int station) {
        index(isStation(station));
        return box(station).size();
    }

    // ---- counting

    int setSlip(int clerk, int slip) {
        index(in(clerk, 0, 3));
        argument(slip == 0 || in(slip, 2, 20));
        int before = slips[clerk];
        slips[clerk] = slip;
        return before;
    }

    /** A count is its clerk, and then its six numbers. */
    private int[] numbers(int station) {
        if (poll == null || station >= poll.counts.size()) {
            return null;
        }
        for (int[] one : poll.counts.get(station)) {
            for (int[] other : poll.counts.get(station)) {
                if (one[0] != other[0] && Arrays.equals(one, 1, 7, other, 1, 7)) {
                    return Arrays.copyOfRange(one, 1, 7);
                }
            }
        }
        return null;
    }

    boolean count(int station, int clerk) {
        index(isStation(station) && in(clerk, 0, 3));
        state(stage() == 4 && station < poll.stationsThen && numbers(station) == null);
        state(poll.counts.get(station).size() < 8);
        int[] count = new int[7];
        count[0] = clerk;
        int nth = 1;
        for (int ballot : box(station)) {
            boolean isSlipped = slips[clerk] != 0 && nth % slips[clerk] == 0;
            int read = !isSlipped ? ballot : ballot == 5 ? 0 : ballot + 1;
            count[1 + read]++;
            nth++;
        }
        poll.counts.get(station).add(count);
        poll.book.add(today + "c" + station);
        return numbers(station) != null;
    }

    int recount(int station) {
        index(isStation(station));
        state(stage() == 4);
        if (station >= poll.stationsThen) {
            return 0;
        }
        int before = poll.counts.get(station).size();
        poll.counts.get(station).clear();
        return before;
    }

    boolean isSettled(int station) {
        index(isStation(station));
        return numbers(station) != null;
    }

    int numberOf(int station, int party) {
        index(isStation(station));
        argument(in(party, 0, 5));
        return numbers(station) == null ? -1 : numbers(station)[party];
    }

    int misread(int station) {
        index(isStation(station));
        int[] numbers = numbers(station);
        if (numbers == null) {
            return -1;
        }
        int apart = 0;
        for (int kind = 0; kind < 6; kind++) {
            apart += Math.abs(Collections.frequency(box(station), kind) - numbers[kind]);
        }
        return apart / 2;
    }

    // ---- seats

    private int[] allNumbers() {
        int[] votes = new int[5];
        for (int station = 0; station < poll.stationsThen; station++) {
            for (int party = 0; party < 5; party++) {
                votes[party] += numbers(station)[party];
            }
        }
        return votes;
    }

    private int[] allBallots() {
        int[] votes = new int[5];
        for (Vote vote : poll.cast) {
            if (vote.party < 5) {
                votes[vote.party]++;
            }
        }
        return votes;
    }

    /** The parties in the order of their seats, and behind them how many lots were drawn. */
    private List<Integer> give(int[] votes) {
        List<Integer> order = new ArrayList<>();
        BigInteger number = BigInteger.ZERO;
        for (int seed : poll.seeds) {
            number = number.add(BigInteger.valueOf(seed));
        }
        int lots = 0;
        while (order.size() < poll.seats && Arrays.stream(votes).sum() > 0) {
            List<Integer> first = new ArrayList<>();
            for (int party = 0; party < 5; party++) {
                boolean isFirst = votes[party] > 0;
                for (int other = 0; other < 5; other++) {
                    isFirst = isFirst && votes[party] * by(other, order) >= votes[other] * by(party, order);
                }
                if (isFirst) {
                    first.add(party);
                }
            }
            int drawn = 0;
            if (first.size() > 1) {
                lots++;
                number = number.multiply(BigInteger.valueOf(1103)).add(BigInteger.valueOf(12345));
                number = number.mod(BigInteger.valueOf(65536));
                drawn = number.mod(BigInteger.valueOf(first.size())).intValue();
            }
            order.add(first.get(drawn));
        }
        order.add(lots);
        return order;
    }

    private long by(int party, List<Integer> order) {
        int has = Collections.frequency(order, party);
        return poll.odd ? 2 * has + 1 : has + 1;
    }

    int votes(int party) {
        index(in(party, 0, 4));
        return stage() == 5 ? allNumbers()[party] : -1;
    }

    int seats(int party) {
        index(in(party, 0, 4));
        return stage() == 5 ? seatsIn(give(allNumbers()), party) : -1;
    }

    private static int seatsIn(List<Integer> given, int party) {
        return Collections.frequency(given.subList(0, given.size() - 1), party);
    }

    int seatAt(int place) {
        index(place >= 0);
        if (stage() != 5) {
            return -1;
        }
        List<Integer> given = give(allNumbers());
        return place < given.size() - 1 ? given.get(place) : -1;
    }

    int lots() {
        if (stage() != 5) {
            return -1;
        }
        List<Integer> given = give(allNumbers());
        return given.get(given.size() - 1);
    }

    int seatsByBallots(int party) {
        index(in(party, 0, 4));
        return stage() >= 4 ? seatsIn(give(allBallots()), party) : -1;
    }

    // ---- the book

    int notes() {
        return poll == null ? 0 : poll.book.size();
    }

    int signAt(int note, int place) {
        index(in(note, 0, notes() - 1) && place >= 0);
        String text = poll.book.get(note);
        return place < text.length() ? text.charAt(place) : -1;
    }
}
