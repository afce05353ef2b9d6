/** Promises 36 and 37: the notes of an election and their signs. */
final class BookSentences {
    private static final int FAR = Integer.MAX_VALUE;

    private BookSentences() {
    }

    @Sentence(promise = 36, value = "Returns how many notes the book of the latest election has.")
    @Broken(at = "public int notes()", from = "return election.book.size;",
        to = "return Math.min(119, election.book.size);")
    @Broken(from = "book.size = 0;")
    @Broken(at = "boolean voidEnvelopeOf(", from = "election.book.write(now, 'x', person);")
    static void notesAreCounted(Check check) {
        check.due("without an election", new BallotFoundry().notes(), 0);
        BallotFoundry x = Ready.early(1);
        check.due("at first", x.notes(), 0);
        for (int envelope = 0; envelope < 60; envelope++) {
            x.early(0, 1);
            check.due("of the envelopes", x.notes(), 2 * envelope + 1);
        }
        check.fails("no note of what throws", Check.STATE, () -> x.early(0, 1));
        check.due("of all envelopes", x.notes(), 119);
        x.advance(7);
        check.due("of the last one, opened", x.notes(), 120);
        Ready.settle(x, 0);
        check.due("of two counts", x.notes(), 122);
        x.call(8, 0, false);
        check.due("of the next election", x.notes(), 0);
    }

    @Sentence(promise = 36, value = "Returns how many notes the book of the latest election has.")
    @Broken(from = "MOST_NOTES = 512 + MOST_ENVELOPES", to = "MOST_NOTES = 512")
    static void notesAreAsManyAsCallsCanWrite(Check check) {
        BallotFoundry x = Ready.early(1);
        for (int envelope = 0; envelope < 60; envelope++) {
            x.early(0, 1);
        }
        x.advance(7);
        int calls = 4 + 60 + 1;
        int notes = 60 + 59 + 1;
        while (calls < 508) {
            for (int count = 0; count < 8 && calls < 508; count++) {
                x.count(0, 0);
                notes++;
                calls++;
            }
            if (calls < 508) {
                x.recount(0);
                calls++;
            }
        }
        check.due("behind 508 calls", x.notes(), notes);
        check.due("the last note", x.signAt(notes - 1, 1), 'c');
        check.due("there are more than 500", notes > 500, true);
    }

    @Sentence(promise = 37, value = {"Returns a sign of the text of a note of the latest election.", "`place`: from 0",
        "Returns the sign, as the number of its character;"})
    @Broken(at = "int characterAt(", from = "text.charAt(place)", to = "text.charAt(0)")
    @Broken(at = "int characterAt(", from = "(int) text.charAt(place)", to = "(int) text.charAt(place) - '0'")
    @Broken(at = "public int signAt(", from = "if (place < 0)", to = "if (place <= 0)")
    @Broken(from = "text.setLength(0);")
    static void signAtTellsTheSign(Check check) {
        BallotFoundry x = Ready.on(150);
        Ready.settlers(x, 20, 0);
        x.call(10, 0, false);
        x.advance(9);
        x.early(18, 0);
        int[] due = {49, 53, 57, 101, 49, 56};
        for (int place = 0; place < due.length; place++) {
            check.due("159e18 at " + place, x.signAt(0, place), due[place]);
        }
        check.due("asked again", x.signAt(0, 3), 101);
        x.advance(1);
        x.vote(7, 0, 0);
        check.due("160v7 at 1", x.signAt(1, 1), 54);
        check.due("160v7 at 3", x.signAt(1, 3), 118);
        check.due("160v7 at 4", x.signAt(1, 4), 55);
    }

    @Sentence(promise = 37, value = "`note`: a note")
    @Broken(at = "public int signAt(", from = "note < 0", to = "note <= 0")
    @Broken(at = "public int signAt(", from = "note >= election.book.size", to = "note + 1 >= election.book.size")
    static void signAtTakesEachNote(Check check) {
        BallotFoundry x = Ready.early(3);
        x.early(2, 0);
        x.early(1, 0);
        x.early(0, 0);
        check.due("the first", x.signAt(0, 2), '2');
        check.due("the last", x.signAt(2, 2), '0');
    }

    @Sentence(promise = 37, value = "NONE behind the last one.")
    @Broken(at = "int characterAt(", from = "place >= text.length()", to = "place > text.length()")
    @Broken(at = "int characterAt(", from = "{ return NONE; } return (int)", to = "{ return 0; } return (int)")
    static void signAtBehindTheLast(Check check) {
        BallotFoundry x = Ready.early(1);
        x.early(0, 0);
        check.due("the last", x.signAt(0, 2), '0');
        check.due("behind it", x.signAt(0, 3), BallotFoundry.NONE);
        check.due("far behind it", x.signAt(0, FAR), BallotFoundry.NONE);
        BallotFoundry y = Ready.on(1900);
        Ready.settlers(y, 11, 0);
        y.call(100, 0, false);
        y.advance(94);
        y.early(10, 0);
        check.due("the last of the longest", y.signAt(0, 6), '0');
        check.due("behind the longest", y.signAt(0, 7), BallotFoundry.NONE);
    }

    private static BallotFoundry withTwoNotes() {
        BallotFoundry x = Ready.early(2);
        x.early(0, 0);
        x.early(1, 0);
        return x;
    }

    @Sentence(promise = 37, value = "Throws `IndexOutOfBoundsException` if there is no such note,")
    @Broken(at = "public int signAt(", from = "note >= election.book.size", to = "note > election.book.size")
    @Broken(at = "public int signAt(", from = "note < 0 ||")
    @Broken(at = "public int signAt(",
        from = "if (note < 0 || note >= election.book.size) { throw new IndexOutOfBoundsException(\"no such note\"); }")
    static void signAtNeedsANote(Check check) {
        check.refused("there is no election", Check.INDEX, BallotFoundry::new, x -> x.signAt(0, 0));
        check.refused("there is none", Check.INDEX, () -> Ready.early(1), x -> x.signAt(0, 0));
        int[] none = {-1, 2, 512, 572, -FAR - 1, FAR};
        for (int note : none) {
            check.refused("two, but not " + note, Check.INDEX, BookSentences::withTwoNotes, x -> x.signAt(note, 0));
        }
    }

    @Sentence(promise = 37, value = "or place is below 0")
    @Broken(at = "public int signAt(",
        from = "if (place < 0) { throw new IndexOutOfBoundsException(\"no such place\"); }")
    @Broken(at = "public int signAt(", from = "if (place < 0)", to = "if (place < -1)")
    static void signAtNeedsAPlace(Check check) {
        check.refused("below", Check.INDEX, BookSentences::withTwoNotes, x -> x.signAt(1, -1));
        check.refused("far below", Check.INDEX, BookSentences::withTwoNotes, x -> x.signAt(0, -FAR - 1));
        check.refused("no such note either", Check.INDEX, BookSentences::withTwoNotes, x -> x.signAt(2, -1));
    }
}
