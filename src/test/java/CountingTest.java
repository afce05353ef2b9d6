/** Promises 25 to 30: slips, counts and the numbers of stations. */
public final class CountingTest {
    private static final Check check = new Check("CountingTest");

    public static void main(String[] args) {
        slipsAreSet();
        countSettlesByTwoClerks();
        countRefuses();
        countReadsEachNth();
        countReadsInTheOrderOfComing();
        countKeepsAllCounts();
        countHasTheSlipOfItsTime();
        countMustBeAlikeInBlanks();
        countHasEight();
        recountThrowsAway();
        recountRefuses();
        numbersAreAsked();
        misreadAddsWhatIsLost();
        check.end();
    }

    /** One station that is counted, with these ballots in their order. */
    private static BallotFoundry counting(int... ballots) {
        BallotFoundry x = new BallotFoundry();
        x.station(0, 20);
        for (int person = 0; person < ballots.length; person++) {
            x.person(0, 0);
        }
        x.call(8, 5, false);
        x.advance(8);
        for (int person = 0; person < ballots.length; person++) {
            x.vote(person, 0, ballots[person]);
        }
        x.advance(1);
        return x;
    }

    private static void numbersDue(String what, BallotFoundry x, int... due) {
        for (int kind = 0; kind < due.length; kind++) {
            check.due(what + ", number of " + kind, x.numberOf(0, kind), due[kind]);
        }
    }

    private static void slipsAreSet() {
        BallotFoundry x = new BallotFoundry();
        check.due("at first", x.setSlip(0, 20), 0);
        check.due("as set", x.setSlip(0, 2), 20);
        check.due("and again", x.setSlip(0, 0), 2);
        check.due("none", x.setSlip(0, 0), 0);
        check.due("the last clerk", x.setSlip(3, 7), 0);
        check.due("the first is as it was", x.setSlip(0, 0), 0);
        check.fails("clerk below", Check.INDEX, () -> x.setSlip(-1, 1));
        check.fails("clerk above", Check.INDEX, () -> x.setSlip(4, 0));
        check.fails("each ballot", Check.ARGUMENT, () -> x.setSlip(3, 1));
        check.fails("below", Check.ARGUMENT, () -> x.setSlip(3, -1));
        check.fails("above", Check.ARGUMENT, () -> x.setSlip(3, 21));
        check.due("unchanged", x.setSlip(3, 0), 7);
        BallotFoundry y = counting(0, 1);
        y.setSlip(0, 2);
        y.count(0, 1);
        y.count(0, 2);
        y.call(8, 0, false);
        check.due("stays from election to election", y.setSlip(0, 0), 2);
    }

    private static void countSettlesByTwoClerks() {
        BallotFoundry x = counting(0, 1, 1, 5);
        check.due("first", x.count(0, 0), false);
        check.due("not settled", x.isSettled(0), false);
        check.due("same clerk", x.count(0, 0), false);
        check.due("stage", x.stage(), BallotFoundry.COUNTING);
        check.due("another clerk", x.count(0, 3), true);
        check.due("settled", x.isSettled(0), true);
        check.due("stage then", x.stage(), BallotFoundry.DONE);
        numbersDue("settled", x, 1, 2, 0, 0, 0, 1);
        BallotFoundry y = counting();
        check.due("an empty box", y.count(0, 1), false);
        check.due("an empty box again", y.count(0, 2), true);
        numbersDue("empty", y, 0, 0, 0, 0, 0, 0);
    }

    private static void countRefuses() {
        BallotFoundry x = new BallotFoundry();
        check.fails("no station", Check.INDEX, () -> x.count(0, 0));
        x.station(0, 0);
        x.station(1, 0);
        check.fails("no election", Check.STATE, () -> x.count(0, 0));
        x.call(8, 0, false);
        check.fails("called", Check.STATE, () -> x.count(0, 0));
        x.advance(2);
        x.station(2, 0);
        check.fails("early", Check.STATE, () -> x.count(0, 0));
        x.advance(6);
        check.fails("voting", Check.STATE, () -> x.count(0, 0));
        x.advance(1);
        check.fails("station below", Check.INDEX, () -> x.count(-1, 0));
        check.fails("station above", Check.INDEX, () -> x.count(3, 0));
        check.fails("clerk below", Check.INDEX, () -> x.count(0, -1));
        check.fails("clerk above", Check.INDEX, () -> x.count(0, 4));
        check.fails("none of the election", Check.STATE, () -> x.count(2, 0));
        check.due("nothing noted", x.notes(), 0);
        x.count(0, 0);
        x.count(0, 1);
        check.fails("settled", Check.STATE, () -> x.count(0, 2));
        check.due("notes c c", x.notes(), 2);
        x.count(1, 0);
        x.count(1, 1);
        check.fails("done", Check.STATE, () -> x.count(0, 2));
    }

    private static void countReadsEachNth() {
        BallotFoundry x = counting(0, 1, 2, 3, 4, 5, 0, 1);
        x.setSlip(0, 3);
        x.setSlip(1, 3);
        x.count(0, 0);
        check.due("alike in their slips", x.count(0, 1), true);
        numbersDue("the third as 3 and the sixth as 0", x, 3, 2, 0, 2, 1, 0);
        BallotFoundry y = counting(0, 4, 0, 5, 0, 3);
        y.setSlip(0, 2);
        y.setSlip(1, 2);
        y.count(0, 0);
        y.count(0, 1);
        numbersDue("4 as blank, blank as 0, 3 as 4", y, 4, 0, 0, 0, 1, 1);
        BallotFoundry z = counting(0, 0, 0);
        z.setSlip(0, 4);
        z.count(0, 0);
        check.due("a slip beyond the box", z.count(0, 1), true);
        BallotFoundry v = counting(0, 0, 0);
        v.setSlip(0, 3);
        v.count(0, 0);
        check.due("a slip at the last of the box", v.count(0, 1), false);
    }

    private static void countReadsInTheOrderOfComing() {
        BallotFoundry x = new BallotFoundry();
        x.station(0, 20);
        for (int person = 0; person < 4; person++) {
            x.person(0, 0);
        }
        x.call(8, 1, false);
        x.advance(2);
        x.early(3, 1);
        x.early(1, 2);
        x.early(0, 4);
        x.advance(6);
        x.vote(2, 0, 0);
        x.open(0);
        x.advance(1);
        x.setSlip(0, 3);
        x.setSlip(1, 3);
        x.count(0, 0);
        x.count(0, 1);
        numbersDue("0 4 1 2, the third read as 2", x, 1, 0, 2, 0, 1, 0);
        check.due("misread", x.misread(0), 1);
    }

    private static void countKeepsAllCounts() {
        BallotFoundry x = counting(0, 0);
        x.setSlip(1, 2);
        check.due("as it is", x.count(0, 0), false);
        check.due("by a slip", x.count(0, 1), false);
        check.due("by a slip, the same clerk", x.count(0, 1), false);
        check.due("as the first of all", x.count(0, 2), true);
        numbersDue("the first's", x, 2, 0, 0, 0, 0, 0);
        BallotFoundry y = counting(0, 0);
        y.setSlip(0, 2);
        y.count(0, 0);
        y.count(0, 1);
        y.setSlip(2, 2);
        check.due("as the one ahead of the last", y.count(0, 2), true);
        numbersDue("misread by both", y, 1, 1, 0, 0, 0, 0);
    }

    private static void countHasTheSlipOfItsTime() {
        BallotFoundry x = counting(0, 0);
        x.setSlip(0, 2);
        x.count(0, 0);
        x.setSlip(0, 0);
        check.due("the count stays as it was", x.count(0, 1), false);
        check.due("the same clerk without a slip", x.count(0, 0), true);
    }

    private static void countMustBeAlikeInBlanks() {
        BallotFoundry x = counting(5, 5, 0, 0);
        x.setSlip(0, 2);
        x.count(0, 0);
        check.due("unlike", x.count(0, 1), false);
        BallotFoundry y = counting(4, 4);
        y.setSlip(0, 2);
        y.count(0, 0);
        check.due("unlike in 4 and blank", y.count(0, 1), false);
    }

    private static void countHasEight() {
        BallotFoundry x = counting(0, 0);
        for (int count = 0; count < 8; count++) {
            check.due("by the same clerk", x.count(0, 2), false);
        }
        check.fails("the ninth", Check.STATE, () -> x.count(0, 1));
        check.due("not settled", x.isSettled(0), false);
        check.due("notes v v and eight times c", x.notes(), 10);
        check.due("thrown away", x.recount(0), 8);
        check.due("anew", x.count(0, 1), false);
        check.due("anew, again", x.count(0, 2), true);
        BallotFoundry y = counting(0);
        for (int count = 0; count < 7; count++) {
            y.count(0, 0);
        }
        check.due("the eighth settles", y.count(0, 1), true);
    }

    private static void recountThrowsAway() {
        BallotFoundry x = new BallotFoundry();
        x.station(0, 0);
        x.station(1, 0);
        x.person(0, 0);
        x.call(8, 0, false);
        x.advance(8);
        x.station(2, 0);
        x.vote(0, 0, 3);
        x.advance(1);
        check.due("none", x.recount(0), 0);
        check.due("none, of one that came later", x.recount(2), 0);
        x.count(0, 0);
        check.due("one", x.recount(0), 1);
        check.due("its count is away", x.count(0, 1), false);
        check.due("settled", x.count(0, 2), true);
        check.due("number", x.numberOf(0, 3), 1);
        check.due("two", x.recount(0), 2);
        check.due("not settled any more", x.isSettled(0), false);
        check.due("no number", x.numberOf(0, 3), BallotFoundry.NONE);
        check.due("nothing misread", x.misread(0), BallotFoundry.NONE);
        check.due("the ballots stay", x.ballots(0), 1);
        check.due("the notes stay", x.notes(), 4);
        x.count(1, 0);
        x.count(1, 1);
        check.due("the other one is settled", x.stage(), BallotFoundry.COUNTING);
        check.due("and stays so", x.isSettled(1), true);
        x.count(0, 0);
        x.count(0, 1);
        check.due("done", x.stage(), BallotFoundry.DONE);
    }

    private static void recountRefuses() {
        BallotFoundry x = new BallotFoundry();
        check.fails("no station", Check.INDEX, () -> x.recount(0));
        x.station(0, 0);
        check.fails("no election", Check.STATE, () -> x.recount(0));
        x.call(8, 0, false);
        check.fails("called", Check.STATE, () -> x.recount(0));
        x.advance(8);
        check.fails("voting", Check.STATE, () -> x.recount(0));
        x.advance(1);
        check.fails("below", Check.INDEX, () -> x.recount(-1));
        check.fails("above", Check.INDEX, () -> x.recount(1));
        x.count(0, 0);
        x.count(0, 1);
        check.fails("done", Check.STATE, () -> x.recount(0));
        check.due("settled still", x.isSettled(0), true);
    }

    private static void numbersAreAsked() {
        BallotFoundry x = counting(0, 1, 5);
        check.fails("station below", Check.INDEX, () -> x.numberOf(-1, 0));
        check.fails("station above", Check.INDEX, () -> x.numberOf(1, 6));
        check.fails("party below", Check.ARGUMENT, () -> x.numberOf(0, -1));
        check.fails("party above", Check.ARGUMENT, () -> x.numberOf(0, 6));
        check.fails("settled, station below", Check.INDEX, () -> x.isSettled(-1));
        check.fails("settled, station above", Check.INDEX, () -> x.isSettled(1));
        check.due("not settled", x.numberOf(0, 0), BallotFoundry.NONE);
        x.count(0, 0);
        check.due("one count", x.numberOf(0, 0), BallotFoundry.NONE);
        x.count(0, 1);
        numbersDue("done", x, 1, 1, 0, 0, 0, 1);
        check.fails("party above, settled", Check.ARGUMENT, () -> x.numberOf(0, 6));
    }

    private static void misreadAddsWhatIsLost() {
        BallotFoundry x = counting(0, 1, 0, 5, 0, 4);
        check.due("not settled", x.misread(0), BallotFoundry.NONE);
        check.fails("below", Check.INDEX, () -> x.misread(-1));
        check.fails("above", Check.INDEX, () -> x.misread(1));
        x.setSlip(0, 2);
        x.setSlip(1, 2);
        x.count(0, 0);
        check.due("one count", x.misread(0), BallotFoundry.NONE);
        x.count(0, 1);
        numbersDue("1 as 2, blank as 0, 4 as blank", x, 4, 0, 1, 0, 0, 1);
        check.due("1 and 4 are lost, a blank is made up", x.misread(0), 2);
        BallotFoundry y = counting(0, 0, 1, 1);
        y.setSlip(2, 2);
        y.setSlip(3, 2);
        y.count(0, 2);
        y.count(0, 3);
        check.due("one of 0 as 1, one of 1 as 2", y.misread(0), 1);
        BallotFoundry z = counting(0, 1);
        z.count(0, 2);
        z.count(0, 3);
        check.due("none", z.misread(0), 0);
    }
}
