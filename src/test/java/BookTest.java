/** Promises 36 and 37: the notes of an election and their signs. */
public final class BookTest {
    private static final Check check = new Check("BookTest");

    public static void main(String[] args) {
        notesInTheirOrder();
        longNumbers();
        signsAreAsked();
        everyKindHasItsDay();
        manyCounts();
        check.end();
    }

    private static String textOf(BallotFoundry x, int note) {
        StringBuilder text = new StringBuilder();
        for (int place = 0; x.signAt(note, place) != BallotFoundry.NONE; place++) {
            text.append((char) x.signAt(note, place));
        }
        return text.toString();
    }

    private static void bookDue(String what, BallotFoundry x, String... due) {
        check.due(what + ", notes", x.notes(), due.length);
        for (int note = 0; note < due.length && note < x.notes(); note++) {
            check.due(what + ", note " + note, textOf(x, note), due[note]);
        }
    }

    private static void notesInTheirOrder() {
        BallotFoundry x = new BallotFoundry();
        x.station(0, 20);
        x.station(35, 20);
        for (int person = 0; person < 4; person++) {
            x.person(0, 0);
        }
        x.call(8, 1, false);
        bookDue("called", x);
        x.advance(2);
        x.early(3, 0);
        x.advance(1);
        x.early(3, 1);
        x.early(1, 1);
        x.early(0, 1);
        x.early(2, 1);
        x.advance(1);
        x.die(1);
        x.advance(4);
        x.vote(0, 0, 0);
        x.open(2);
        x.advance(1);
        x.count(1, 2);
        x.advance(3);
        x.count(0, 2);
        x.recount(0);
        bookDue("counting", x, "2e3", "3x3", "3e3", "3e1", "3e0", "3e2", "4x1", "8x0", "8v0", "8o2", "8s3",
            "9c1", "12c0");
        x.count(0, 0);
        x.count(0, 1);
        x.count(1, 0);
        check.due("done", x.notes(), 16);
        x.call(8, 1, false);
        bookDue("anew", x);
    }

    private static void longNumbers() {
        BallotFoundry x = new BallotFoundry();
        x.station(0, 20);
        for (int person = 0; person < 20; person++) {
            x.person(0, 0);
        }
        for (int step = 0; step < 19; step++) {
            x.advance(100);
        }
        x.call(100, 1, false);
        x.advance(94);
        x.early(19, 0);
        x.early(10, 0);
        x.advance(100);
        x.count(0, 0);
        bookDue("late", x, "1994e19", "1994e10", "2000s19", "2000s10", "2094c0");
    }

    private static void signsAreAsked() {
        BallotFoundry x = new BallotFoundry();
        check.fails("no note", Check.INDEX, () -> x.signAt(0, 0));
        x.station(0, 20);
        x.person(0, 0);
        x.call(20, 1, false);
        x.advance(14);
        x.early(0, 0);
        check.due("place 0", x.signAt(0, 0), '1');
        check.due("place 1", x.signAt(0, 1), '4');
        check.due("place 2", x.signAt(0, 2), 'e');
        check.due("place 3", x.signAt(0, 3), '0');
        check.due("behind the last one", x.signAt(0, 4), BallotFoundry.NONE);
        check.due("far behind", x.signAt(0, Integer.MAX_VALUE), BallotFoundry.NONE);
        check.fails("place below", Check.INDEX, () -> x.signAt(0, -1));
        check.fails("note below", Check.INDEX, () -> x.signAt(-1, 0));
        check.fails("note above", Check.INDEX, () -> x.signAt(1, 0));
        check.fails("note and place", Check.INDEX, () -> x.signAt(1, -1));
    }

    private static void everyKindHasItsDay() {
        BallotFoundry x = new BallotFoundry();
        x.station(0, 20);
        x.person(0, 0);
        x.person(0, 0);
        x.person(0, 0);
        x.call(30, 1, false);
        x.advance(25);
        x.early(0, 0);
        x.early(1, 0);
        x.early(2, 0);
        x.advance(5);
        x.die(2);
        x.open(1);
        x.advance(50);
        x.count(0, 3);
        bookDue("days", x, "25e0", "25e1", "25e2", "30x2", "30o1", "30s0", "80c0");
    }

    private static void manyCounts() {
        BallotFoundry x = new BallotFoundry();
        x.station(0, 20);
        x.person(0, 0);
        x.call(8, 1, false);
        x.advance(2);
        for (int envelope = 0; envelope < 60; envelope++) {
            x.early(0, 0);
        }
        x.advance(7);
        int notes = 120;
        for (int round = 0; round < 40; round++) {
            for (int count = 0; count < 8; count++) {
                x.count(0, 0);
                notes++;
            }
            x.recount(0);
        }
        check.due("as many as calls can write", x.notes(), notes);
        check.due("the last one", textOf(x, notes - 1), "9c0");
    }
}
