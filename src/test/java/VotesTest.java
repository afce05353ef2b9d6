/** Promises 18 to 24: early votes, votes, opened envelopes and boxes. */
public final class VotesTest {
    private static final Check check = new Check("VotesTest");

    public static void main(String[] args) {
        earlyNumbersEnvelopes();
        earlyVoidsTheOneBefore();
        earlyRefuses();
        earlyHasSixty();
        voteAnswersTheBallots();
        voteVoidsTheEnvelope();
        voteRefuses();
        openAnswersTheEnvelope();
        openRefuses();
        dayEndOpensTheSealed();
        envelopesAreAsked();
        ballotsLieAtTheStationOfTheRoll();
        ballotsAreAsked();
        check.end();
    }

    /** Four people of the roll at two stations: 0 and 1 at the station 0, 2 and 3 at the station 1. */
    private static BallotFoundry early() {
        BallotFoundry x = new BallotFoundry();
        x.station(0, 2);
        x.station(35, 20);
        x.person(0, 0);
        x.person(1, 0);
        x.person(35, 0);
        x.person(34, 0);
        x.person(0, 2000);
        x.call(8, 3, false);
        x.advance(2);
        return x;
    }

    private static void earlyNumbersEnvelopes() {
        BallotFoundry x = early();
        check.due("none", x.envelopes(), 0);
        check.due("first", x.early(3, 0), 0);
        check.due("second", x.early(0, 4), 1);
        check.due("blank", x.early(1, BallotFoundry.BLANK), 2);
        check.due("three", x.envelopes(), 3);
        check.due("sealed", x.stateOf(2), BallotFoundry.SEALED);
        check.due("person", x.personOf(0), 3);
        check.due("no ballot yet", x.ballots(1), 0);
        x.advance(5);
        check.due("on the eve", x.early(2, 0), 3);
    }

    private static void earlyVoidsTheOneBefore() {
        BallotFoundry x = early();
        x.early(0, 1);
        x.early(1, 1);
        x.early(0, 2);
        check.due("the one before", x.stateOf(0), BallotFoundry.VOID);
        check.due("another's", x.stateOf(1), BallotFoundry.SEALED);
        check.due("the new one", x.stateOf(2), BallotFoundry.SEALED);
        x.early(0, 2);
        check.due("the same party again", x.stateOf(2), BallotFoundry.VOID);
        check.due("notes e e x e x e", x.notes(), 6);
        x.advance(7);
        check.due("one ballot of each", x.ballots(0), 2);
        check.due("opened", x.stateOf(3), BallotFoundry.OPENED);
        check.due("void stays", x.stateOf(0), BallotFoundry.VOID);
    }

    private static void earlyRefuses() {
        BallotFoundry x = early();
        check.fails("person below", Check.INDEX, () -> x.early(-1, -1));
        check.fails("person above", Check.INDEX, () -> x.early(5, 0));
        check.fails("party below", Check.ARGUMENT, () -> x.early(0, -1));
        check.fails("party above", Check.ARGUMENT, () -> x.early(0, 6));
        check.fails("not on the roll", Check.STATE, () -> x.early(4, 0));
        check.fails("not on the roll, party above", Check.ARGUMENT, () -> x.early(4, 6));
        x.die(0);
        check.fails("dead", Check.STATE, () -> x.early(0, 0));
        x.early(1, 0);
        check.fails("party above, with an envelope", Check.ARGUMENT, () -> x.early(1, 6));
        check.due("its envelope is as it was", x.stateOf(0), BallotFoundry.SEALED);
        x.advance(6);
        check.fails("voting", Check.STATE, () -> x.early(1, 0));
        x.advance(1);
        check.fails("counting", Check.STATE, () -> x.early(1, 0));
        check.due("notes e s", x.notes(), 2);
        BallotFoundry y = new BallotFoundry();
        y.station(0, 0);
        y.person(0, 0);
        check.fails("no election", Check.STATE, () -> y.early(0, 0));
        y.call(8, 0, false);
        y.advance(1);
        check.fails("called", Check.STATE, () -> y.early(0, 0));
    }

    private static void earlyHasSixty() {
        BallotFoundry x = early();
        for (int envelope = 0; envelope < 60; envelope++) {
            check.due("envelope", x.early(envelope % 4, 0), envelope);
        }
        check.fails("the 61st", Check.STATE, () -> x.early(0, 0));
        check.due("voids nothing", x.stateOf(56), BallotFoundry.SEALED);
        check.due("writes nothing", x.notes(), 60 + 56);
        x.advance(7);
        check.due("all of 0", x.ballots(0), 2);
        check.due("all of 1", x.ballots(1), 2);
        check.due("no more notes than those", x.notes(), 60 + 56 + 4);
    }

    private static void voteAnswersTheBallots() {
        BallotFoundry x = early();
        x.advance(6);
        check.due("first", x.vote(1, 0, 0), 1);
        check.due("at the other station", x.vote(3, 1, 4), 1);
        check.due("second, blank", x.vote(0, 0, BallotFoundry.BLANK), 2);
        check.due("box", x.ballots(0), 2);
        check.due("other box", x.ballots(1), 1);
        check.fails("once", Check.STATE, () -> x.vote(1, 0, 0));
        check.due("box still", x.ballots(0), 2);
    }

    private static void voteVoidsTheEnvelope() {
        BallotFoundry x = early();
        x.early(0, 1);
        x.early(1, 1);
        x.advance(6);
        x.vote(0, 0, 2);
        check.due("its envelope", x.stateOf(0), BallotFoundry.VOID);
        check.due("another's", x.stateOf(1), BallotFoundry.SEALED);
        check.due("notes e e x v", x.notes(), 4);
        check.due("x first", x.signAt(2, 1), 'x');
        check.due("v then", x.signAt(3, 1), 'v');
        x.advance(1);
        check.due("no second ballot", x.ballots(0), 2);
        check.due("void stays", x.stateOf(0), BallotFoundry.VOID);
    }

    private static void voteRefuses() {
        BallotFoundry x = early();
        x.early(0, 1);
        check.fails("early", Check.STATE, () -> x.vote(0, 0, 0));
        x.advance(6);
        check.fails("person below", Check.INDEX, () -> x.vote(-1, 0, 0));
        check.fails("person above", Check.INDEX, () -> x.vote(5, 0, 6));
        check.fails("station below", Check.INDEX, () -> x.vote(0, -1, 0));
        check.fails("station above", Check.INDEX, () -> x.vote(0, 2, 6));
        check.fails("party below", Check.ARGUMENT, () -> x.vote(0, 0, -1));
        check.fails("party above", Check.ARGUMENT, () -> x.vote(0, 1, 6));
        check.fails("another station", Check.STATE, () -> x.vote(0, 1, 0));
        check.fails("not on the roll", Check.STATE, () -> x.vote(4, 0, 0));
        check.due("the envelope is as it was", x.stateOf(0), BallotFoundry.SEALED);
        x.open(0);
        check.fails("has voted by its envelope", Check.STATE, () -> x.vote(0, 0, 0));
        x.die(1);
        check.fails("dead", Check.STATE, () -> x.vote(1, 0, 0));
        check.due("notes e o", x.notes(), 2);
        x.advance(1);
        check.fails("counting", Check.STATE, () -> x.vote(2, 1, 0));
        BallotFoundry y = new BallotFoundry();
        y.station(0, 0);
        y.person(0, 0);
        check.fails("no election", Check.STATE, () -> y.vote(0, 0, 0));
        y.call(8, 0, false);
        check.fails("called", Check.STATE, () -> y.vote(0, 0, 0));
    }

    private static void openAnswersTheEnvelope() {
        BallotFoundry x = early();
        x.early(2, 1);
        x.early(0, 1);
        x.early(2, 3);
        x.advance(6);
        check.due("the one that is sealed", x.open(2), 2);
        check.due("opened", x.stateOf(2), BallotFoundry.OPENED);
        check.due("void stays", x.stateOf(0), BallotFoundry.VOID);
        check.due("another's", x.stateOf(1), BallotFoundry.SEALED);
        check.due("the box of its station", x.ballots(1), 1);
        check.due("the other box", x.ballots(0), 0);
        check.due("notes e e x e o", x.notes(), 5);
        check.due("o", x.signAt(4, 1), 'o');
        check.fails("has voted", Check.STATE, () -> x.vote(2, 1, 0));
        check.due("nothing to void at death", x.die(2), false);
        x.advance(1);
        check.due("opened once", x.ballots(1), 1);
    }

    private static void openRefuses() {
        BallotFoundry x = early();
        x.early(0, 1);
        x.early(1, 1);
        x.early(2, 1);
        check.fails("early", Check.STATE, () -> x.open(0));
        x.advance(6);
        check.fails("person below", Check.INDEX, () -> x.open(-1));
        check.fails("person above", Check.INDEX, () -> x.open(5));
        check.fails("no envelope", Check.STATE, () -> x.open(3));
        x.vote(0, 0, 0);
        check.fails("void by a vote", Check.STATE, () -> x.open(0));
        x.die(1);
        check.fails("void by death", Check.STATE, () -> x.open(1));
        x.open(2);
        check.fails("again", Check.STATE, () -> x.open(2));
        check.due("ballots", x.ballots(0) * 10 + x.ballots(1), 11);
        x.advance(1);
        check.fails("counting", Check.STATE, () -> x.open(2));
        BallotFoundry y = new BallotFoundry();
        y.person(0, 0);
        check.fails("no election", Check.STATE, () -> y.open(0));
    }

    private static void dayEndOpensTheSealed() {
        BallotFoundry x = early();
        x.early(3, 1);
        x.early(1, 2);
        x.early(2, 3);
        x.early(0, 4);
        x.advance(6);
        check.due("sealed on the day", x.stateOf(0), BallotFoundry.SEALED);
        x.vote(1, 0, 0);
        x.advance(1);
        int[] due = {BallotFoundry.OPENED, BallotFoundry.VOID, BallotFoundry.OPENED, BallotFoundry.OPENED};
        for (int envelope = 0; envelope < due.length; envelope++) {
            check.due("state of " + envelope, x.stateOf(envelope), due[envelope]);
        }
        check.due("box 0", x.ballots(0), 2);
        check.due("box 1", x.ballots(1), 2);
        check.due("notes e e e e x v s s s", x.notes(), 9);
        check.due("3 first", x.signAt(6, 2), '3');
        check.due("2 then", x.signAt(7, 2), '2');
        check.due("0 last", x.signAt(8, 2), '0');
        x.advance(1);
        check.due("no more", x.notes(), 9);
    }

    private static void envelopesAreAsked() {
        BallotFoundry x = early();
        check.fails("none", Check.INDEX, () -> x.stateOf(0));
        check.fails("none's person", Check.INDEX, () -> x.personOf(0));
        x.early(2, 0);
        x.early(3, 0);
        check.due("person of 0", x.personOf(0), 2);
        check.due("person of 1", x.personOf(1), 3);
        check.fails("below", Check.INDEX, () -> x.stateOf(-1));
        check.fails("above", Check.INDEX, () -> x.stateOf(2));
        check.fails("person of one below", Check.INDEX, () -> x.personOf(-1));
        check.fails("person of one above", Check.INDEX, () -> x.personOf(2));
        x.advance(7);
        check.due("envelopes stay", x.envelopes(), 2);
        check.due("people stay", x.personOf(1), 3);
    }

    private static void ballotsLieAtTheStationOfTheRoll() {
        BallotFoundry x = early();
        x.move(0, 35);
        x.early(0, 1);
        x.advance(6);
        check.fails("where it dwells now", Check.STATE, () -> x.vote(0, 1, 1));
        x.advance(1);
        check.due("by the roll", x.ballots(0), 1);
        check.due("not where it dwells", x.ballots(1), 0);
    }

    private static void ballotsAreAsked() {
        BallotFoundry x = early();
        check.fails("below", Check.INDEX, () -> x.ballots(-1));
        check.fails("above", Check.INDEX, () -> x.ballots(2));
        check.due("empty", x.ballots(1), 0);
        BallotFoundry y = new BallotFoundry();
        y.station(0, 0);
        for (int person = 0; person < 20; person++) {
            y.person(person, 0);
        }
        y.call(8, 30, true);
        y.advance(8);
        for (int person = 0; person < 20; person++) {
            check.due("ballots", y.vote(person, 0, person % 6), person + 1);
        }
        check.due("full", y.ballots(0), 20);
    }
}
