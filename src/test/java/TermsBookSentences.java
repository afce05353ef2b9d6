/** Terms: the book, and the constants. */
final class TermsBookSentences {
    private TermsBookSentences() {
    }

    private static void bookDue(Check check, BallotFoundry x, String... due) {
        check.due("notes", x.notes(), due.length);
        for (int note = 0; note < due.length; note++) {
            check.due("note " + note, Ready.textOf(x, note), due[note]);
        }
    }

    @Sentence("The book of an election has a note for each early vote, voided envelope, vote, opened envelope "
        + "and count, in the order in which they happen.")
    @Broken(at = "public int early(", from = "election.book.write(now, 'e', person);")
    @Broken(at = "boolean voidEnvelopeOf(", from = "election.book.write(now, 'x', person);")
    @Broken(at = "public int vote(", from = "election.book.write(now, 'v', person);")
    @Broken(at = "void openEnvelope(", from = "book.write(day, sign, person);")
    @Broken(at = "public boolean count(", from = "election.book.write(now, 'c', station);")
    @Broken(from = "book.size = 0;")
    static void bookHasANoteForEach(Check check) {
        BallotFoundry x = Ready.early(4);
        bookDue(check, x);
        x.early(2, 0);
        x.early(1, 0);
        x.early(3, 0);
        x.early(0, 0);
        x.die(1);
        x.advance(6);
        x.open(2);
        x.vote(3, 0, 0);
        x.advance(1);
        x.count(0, 2);
        x.count(0, 2);
        x.recount(0);
        bookDue(check, x, "2e2", "2e1", "2e3", "2e0", "2x1", "8o2", "8x3", "8v3", "8s0", "9c0", "9c0");
        Ready.settle(x, 0);
        check.due("of two more counts", x.notes(), 13);
        x.call(8, 0, false);
        bookDue(check, x);
    }

    @Sentence("The text of a note is the day, a sign and a number, one behind the other without blanks:")
    @Broken(from = "text.append(days[note]); text.append(signs[note]);",
        to = "text.append(days[note]); text.append(' '); text.append(signs[note]);")
    @Broken(from = "text.append(days[note]); text.append(signs[note]);",
        to = "text.append(signs[note]); text.append(days[note]);")
    @Broken(from = "text.append(numbers[note]);")
    @Broken(from = "text.setLength(0);")
    @Broken(from = "days[size] = day;", to = "days[size] = day % 1000;")
    static void noteIsDaySignAndNumber(Check check) {
        BallotFoundry x = Ready.on(1900);
        Ready.settlers(x, 20, 0);
        x.call(100, 0, false);
        x.advance(94);
        x.early(19, 0);
        x.early(9, 0);
        x.advance(100);
        x.count(0, 0);
        bookDue(check, x, "1994e19", "1994e9", "2000s19", "2000s9", "2094c0");
    }

    @Sentence("\"e\" for an early vote,")
    @Broken(from = "write(now, 'e', person)", to = "write(now, 'E', person)")
    @Broken(from = "write(now, 'e', person)", to = "write(election.day, 'e', person)")
    static void earlyVoteIsE(Check check) {
        BallotFoundry x = Ready.early(2);
        x.advance(1);
        x.early(1, 3);
        bookDue(check, x, "3e1");
    }

    @Sentence("\"x\" for a voided envelope,")
    @Broken(from = "write(now, 'x', person)", to = "write(now, 'v', person)")
    @Broken(from = "write(now, 'x', person)", to = "write(election.day, 'x', person)")
    @Broken(from = "write(now, 'x', person)", to = "write(now, 'x', envelope)")
    static void voidedEnvelopeIsX(Check check) {
        BallotFoundry x = Ready.early(4);
        x.early(3, 0);
        x.advance(3);
        x.die(3);
        bookDue(check, x, "2e3", "5x3");
    }

    @Sentence("\"v\" for a vote,")
    @Broken(from = "write(now, 'v', person)", to = "write(now, 'o', person)")
    @Broken(from = "write(now, 'v', person)", to = "write(now, 'v', station)")
    static void voteIsV(Check check) {
        BallotFoundry x = Ready.voting(3);
        x.vote(2, 0, 5);
        bookDue(check, x, "8v2");
    }

    @Sentence("\"o\" for an envelope opened on the day of the election at the wish of its person,")
    @Broken(at = "public int open(", from = "'o'", to = "'s'")
    @Broken(at = "void openEnvelope(", from = "book.write(day, sign, person);", to = "book.write(day, sign, envelope);")
    static void openedEnvelopeIsO(Check check) {
        BallotFoundry x = Ready.early(3);
        x.early(2, 5);
        x.advance(6);
        x.open(2);
        bookDue(check, x, "2e2", "8o2");
    }

    @Sentence("\"s\" for one opened when that day ends (the day told is still that of the election),")
    @Broken(at = "void openAllSealed()", from = "'s'", to = "'o'")
    @Broken(at = "void openEnvelope(", from = "book.write(day, sign, person);",
        to = "book.write(sign == 's' ? day + 1 : day, sign, person);")
    static void envelopeOpenedAtTheEndIsS(Check check) {
        BallotFoundry x = Ready.early(3);
        x.early(2, 5);
        x.advance(7);
        bookDue(check, x, "2e2", "8s2");
        BallotFoundry y = Ready.early(3);
        y.early(1, 5);
        y.advance(90);
        bookDue(check, y, "2e1", "8s1");
    }

    @Sentence("each with the number of the person;")
    @Broken(from = "write(now, 'e', person)", to = "write(now, 'e', person % 10)")
    @Broken(from = "write(now, 'x', person)", to = "write(now, 'x', person % 10)")
    @Broken(from = "write(now, 'v', person)", to = "write(now, 'v', person % 10)")
    @Broken(at = "void openEnvelope(", from = "book.write(day, sign, person);",
        to = "book.write(day, sign, person % 10);")
    static void notesTellThePerson(Check check) {
        BallotFoundry x = Ready.early(20);
        x.early(0, 1);
        x.early(9, 1);
        x.early(10, 1);
        x.early(19, 1);
        x.advance(6);
        x.vote(19, 0, 1);
        x.open(10);
        x.advance(1);
        bookDue(check, x, "2e0", "2e9", "2e10", "2e19", "8x19", "8v19", "8o10", "8s0", "8s9");
    }

    @Sentence("\"c\" for a count, with the number of the station.")
    @Broken(from = "write(now, 'c', station)", to = "write(now, 'c', clerk)")
    @Broken(from = "write(now, 'c', station)", to = "write(now, 's', station)")
    @Broken(from = "write(now, 'c', station)", to = "write(election.day, 'c', station)")
    static void countIsC(Check check) {
        BallotFoundry x = Ready.twoStations();
        x.advance(9);
        x.count(1, 3);
        x.count(0, 2);
        bookDue(check, x, "11c1", "11c0");
    }

    @Sentence("By an early vote or a vote the voided envelope is noted first.")
    @Broken(at = "public int early(", from = "voidEnvelopeOf(person); election.book.write(now, 'e', person);",
        to = "election.book.write(now, 'e', person); voidEnvelopeOf(person);")
    @Broken(at = "public int vote(", from = "voidEnvelopeOf(person); election.book.write(now, 'v', person);",
        to = "election.book.write(now, 'v', person); voidEnvelopeOf(person);")
    static void voidedEnvelopeIsNotedFirst(Check check) {
        BallotFoundry x = Ready.early(1);
        x.early(0, 1);
        x.early(0, 1);
        x.advance(6);
        x.vote(0, 0, 1);
        bookDue(check, x, "2e0", "2x0", "2e0", "8x0", "8v0");
    }

    @Sentence({"The constants: `NONE = -1`: None.", "`BLANK = 5`: A ballot for no party.",
        "`NO_ELECTION = 0, CALLED = 1, EARLY = 2, VOTING = 3, COUNTING = 4, DONE = 5`: Stages of an election.",
        "`SEALED = 0, VOID = 1, OPENED = 2`: States of envelopes."})
    @Broken(from = "NONE = -1", to = "NONE = -2")
    @Broken(from = "BLANK = 5", to = "BLANK = 6")
    @Broken(from = "NO_ELECTION = 0, CALLED = 1", to = "NO_ELECTION = 1, CALLED = 0")
    @Broken(from = "EARLY = 2, VOTING = 3", to = "EARLY = 3, VOTING = 2")
    @Broken(from = "COUNTING = 4, DONE = 5", to = "COUNTING = 5, DONE = 4")
    @Broken(from = "SEALED = 0, VOID = 1, OPENED = 2", to = "SEALED = 0, VOID = 2, OPENED = 1")
    @Broken(from = "SEALED = 0, VOID = 1, OPENED = 2", to = "SEALED = 1, VOID = 0, OPENED = 2")
    static void constantsHaveTheirNumbers(Check check) throws ReflectiveOperationException {
        // The compiler writes a constant's number into what uses it, so only the class itself tells it anew.
        String[] names = {"NONE", "BLANK", "NO_ELECTION", "CALLED", "EARLY", "VOTING", "COUNTING", "DONE", "SEALED",
            "VOID", "OPENED"};
        int[] due = {-1, 5, 0, 1, 2, 3, 4, 5, 0, 1, 2};
        for (int at = 0; at < names.length; at++) {
            check.due(names[at], BallotFoundry.class.getField(names[at]).getInt(null), due[at]);
        }
    }
}
