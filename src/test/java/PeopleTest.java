/** Promises 6 to 9: people who come, move, die and dwell. */
public final class PeopleTest {
    private static final Check check = new Check("PeopleTest");

    public static void main(String[] args) {
        peopleAreNumbered();
        moveAnswersTheCrossingBefore();
        moveNeedsAPersonAlive();
        dieOnce();
        dieVoidsTheEnvelope();
        dieVoidsNoOtherEnvelope();
        dieOnTheDayOfTheElection();
        dwellsByDays();
        dwellsBehindDeath();
        check.end();
    }

    private static void peopleAreNumbered() {
        BallotFoundry x = new BallotFoundry();
        check.fails("crossing below", Check.INDEX, () -> x.person(-1, -1));
        check.fails("crossing above", Check.INDEX, () -> x.person(36, 0));
        check.fails("age below", Check.ARGUMENT, () -> x.person(0, -1));
        check.fails("age above", Check.ARGUMENT, () -> x.person(0, 2001));
        check.due("oldest", x.person(0, 0), 0);
        check.due("youngest", x.person(35, 2000), 1);
        for (int number = 2; number < 20; number++) {
            check.due("person", x.person(number, number), number);
        }
        check.fails("one too many", Check.STATE, () -> x.person(0, 0));
        check.fails("one too many, wrong age", Check.ARGUMENT, () -> x.person(0, 2001));
        check.fails("one too many, wrong crossing", Check.INDEX, () -> x.person(36, 2001));
        check.due("the last one dwells", x.dwells(19, 0), 19);
        check.fails("no further one", Check.INDEX, () -> x.dwells(20, 0));
        x.die(0);
        check.fails("one too many, behind a death", Check.STATE, () -> x.person(0, 0));
    }

    private static void moveAnswersTheCrossingBefore() {
        BallotFoundry x = new BallotFoundry();
        x.person(3, 0);
        x.person(4, 0);
        check.due("first move", x.move(0, 35), 3);
        check.due("second move on the day", x.move(0, 0), 35);
        check.due("to where it dwells", x.move(0, 0), 0);
        x.advance(5);
        check.due("later", x.move(0, 9), 0);
        check.due("the other person", x.move(1, 9), 4);
    }

    private static void moveNeedsAPersonAlive() {
        BallotFoundry x = new BallotFoundry();
        check.fails("no person", Check.INDEX, () -> x.move(0, 0));
        x.person(3, 0);
        check.fails("person below", Check.INDEX, () -> x.move(-1, 0));
        check.fails("person above", Check.INDEX, () -> x.move(1, 0));
        check.fails("crossing below", Check.INDEX, () -> x.move(0, -1));
        check.fails("crossing above", Check.INDEX, () -> x.move(0, 36));
        check.due("unmoved", x.dwells(0, 0), 3);
        x.die(0);
        check.fails("dead", Check.STATE, () -> x.move(0, 4));
        check.fails("dead, wrong crossing", Check.INDEX, () -> x.move(0, 36));
        check.due("where it died", x.dwells(0, 0), 3);
    }

    private static void dieOnce() {
        BallotFoundry x = new BallotFoundry();
        check.fails("no person", Check.INDEX, () -> x.die(0));
        x.person(3, 0);
        check.fails("person below", Check.INDEX, () -> x.die(-1));
        check.fails("person above", Check.INDEX, () -> x.die(1));
        check.due("without an envelope", x.die(0), false);
        check.fails("again", Check.STATE, () -> x.die(0));
    }

    private static BallotFoundry withEnvelopes() {
        BallotFoundry x = new BallotFoundry();
        x.station(0, 20);
        for (int person = 0; person < 3; person++) {
            x.person(0, 0);
        }
        x.call(8, 1, false);
        x.advance(2);
        x.early(0, 1);
        x.early(1, 2);
        x.early(0, 3);
        return x;
    }

    private static void dieVoidsTheEnvelope() {
        BallotFoundry x = withEnvelopes();
        check.due("with an envelope", x.die(0), true);
        check.due("the first envelope", x.stateOf(0), BallotFoundry.VOID);
        check.due("another's envelope", x.stateOf(1), BallotFoundry.SEALED);
        check.due("the envelope that was sealed", x.stateOf(2), BallotFoundry.VOID);
        check.due("notes: e x e e x", x.notes(), 5);
        check.due("the sign of the note", x.signAt(4, 1), 'x');
        check.due("the person of the note", x.signAt(4, 2), '0');
        check.fails("again", Check.STATE, () -> x.die(0));
        check.due("no note for that", x.notes(), 5);
        x.advance(7);
        check.due("one ballot only", x.ballots(0), 1);
    }

    private static void dieVoidsNoOtherEnvelope() {
        BallotFoundry x = withEnvelopes();
        check.due("no envelope", x.die(2), false);
        check.due("no note", x.notes(), 4);
        x.advance(7);
        check.due("opened by then", x.die(0), false);
        check.due("still opened", x.stateOf(2), BallotFoundry.OPENED);
        check.due("its ballot stays", x.ballots(0), 2);
    }

    private static void dieOnTheDayOfTheElection() {
        BallotFoundry x = withEnvelopes();
        x.advance(6);
        x.vote(1, 0, 4);
        check.due("voted, its envelope is void already", x.die(1), false);
        check.due("its ballot stays", x.ballots(0), 1);
        check.due("sealed", x.die(0), true);
        x.advance(1);
        check.due("nothing more comes", x.ballots(0), 1);
        check.due("the last note", x.signAt(x.notes() - 1, 1), 'x');
    }

    private static void dwellsByDays() {
        BallotFoundry x = new BallotFoundry();
        x.advance(3);
        x.person(7, 0);
        check.due("today", x.dwells(0, 3), 7);
        check.due("ahead of its coming", x.dwells(0, 2), BallotFoundry.NONE);
        check.due("on the first day", x.dwells(0, 0), BallotFoundry.NONE);
        x.advance(2);
        x.move(0, 8);
        x.move(0, 9);
        check.due("the last move of the day", x.dwells(0, 5), 9);
        check.due("the day ahead of it", x.dwells(0, 4), 7);
        x.advance(2);
        check.due("still there", x.dwells(0, 7), 9);
        x.move(0, 7);
        check.due("back", x.dwells(0, 7), 7);
        check.due("between", x.dwells(0, 6), 9);
        check.fails("day below", Check.ARGUMENT, () -> x.dwells(0, -1));
        check.fails("tomorrow", Check.ARGUMENT, () -> x.dwells(0, 8));
        check.fails("person below", Check.INDEX, () -> x.dwells(-1, -1));
        check.fails("person above", Check.INDEX, () -> x.dwells(1, 0));
        x.person(1, 0);
        x.move(1, 2);
        check.due("moved on the day on which it came", x.dwells(1, 7), 2);
        check.due("the first one is where it was", x.dwells(0, 7), 7);
    }

    private static void dwellsBehindDeath() {
        BallotFoundry x = new BallotFoundry();
        x.person(7, 0);
        x.advance(1);
        x.move(0, 8);
        x.die(0);
        x.advance(100);
        check.due("behind its death", x.dwells(0, 101), 8);
        check.due("ahead of its death", x.dwells(0, 0), 7);
    }
}
