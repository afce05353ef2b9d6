/** Promises 6 to 9: people who come, move, die and dwell. */
final class PeopleSentences {
    private static final int FAR = Integer.MAX_VALUE;

    private PeopleSentences() {
    }

    /** The person 0 has died, and 1 lives. */
    private static BallotFoundry oneOfTwoHasDied() {
        BallotFoundry x = Ready.town(2);
        x.die(0);
        return x;
    }

    @Sentence(promise = 6, value = {"A person comes to the town, today.", "Returns its number."})
    @Broken(from = "new Stay(now, crossing, null)", to = "new Stay(0, crossing, null)")
    @Broken(from = "new Stay(now, crossing, null)", to = "new Stay(now + 1, crossing, null)")
    @Broken(from = "return number; }", to = "return 0; }")
    @Broken(from = "people[number].latest = new Stay(now, crossing, null);",
        to = "people[0].latest = new Stay(now, crossing, null);")
    static void personComesToday(Check check) {
        BallotFoundry x = Ready.on(7);
        check.fails("there is none", Check.INDEX, () -> x.dwells(0, 7));
        for (int person = 0; person < 20; person++) {
            check.due("its number", x.person(person, 0), person);
        }
        for (int person = 0; person < 20; person++) {
            check.due("today", x.dwells(person, 7), person);
            check.due("yesterday", x.dwells(person, 6), BallotFoundry.NONE);
        }
    }

    @Sentence(promise = 6, value = "`crossing`: 0 to 35")
    @Broken(at = "public int person(", from = "needCrossing(crossing);", to = "needCrossing(crossing - 1);")
    @Broken(at = "public int person(", from = "needCrossing(crossing);", to = "needCrossing(crossing + 1);")
    static void personTakesEachCrossing(Check check) {
        BallotFoundry x = new BallotFoundry();
        x.person(0, 0);
        x.person(35, 0);
        check.due("the first", x.dwells(0, 0), 0);
        check.due("the last", x.dwells(1, 0), 35);
    }

    @Sentence(promise = 6, value = "`age`: 0 to 2000: the day from which the person is of age")
    @Broken(at = "public int person(", from = "needRange(age, 0,", to = "needRange(age, 1,")
    @Broken(from = "LAST_AGE = 2000", to = "LAST_AGE = 1999")
    @Broken(from = "people[number].age = age;")
    @Broken(from = "people[number].age = age;", to = "people[number].age = age + 1;")
    static void personTakesEachAge(Check check) {
        BallotFoundry x = Ready.on(1990);
        x.person(0, 0);
        x.person(0, 2000);
        x.person(0, 1998);
        x.person(0, 1999);
        x.call(8, 0, false);
        x.advance(2);
        check.due("0", x.isOnRoll(0), true);
        check.due("2000, at the day 1998", x.isOnRoll(1), false);
        check.due("1998, at the day 1998", x.isOnRoll(2), true);
        check.due("1999, at the day 1998", x.isOnRoll(3), false);
        BallotFoundry y = Ready.on(1990);
        y.person(0, 2000);
        y.call(10, 0, false);
        y.advance(4);
        check.due("2000, at the day 2000", y.isOnRoll(0), true);
    }

    @Sentence(promise = 6, value = "Throws `IndexOutOfBoundsException` if there is no such crossing")
    @Broken(at = "public int person(", from = "needCrossing(crossing);")
    @Broken(at = "public int person(", from = "needCrossing(crossing);", to = "needCrossing(Math.max(0, crossing));")
    static void personNeedsACrossing(Check check) {
        int[] none = {-1, 36, -FAR - 1, FAR};
        for (int crossing : none) {
            check.refused("at " + crossing, Check.INDEX, () -> Ready.town(1), x -> x.person(crossing, 0));
        }
    }

    @Sentence(promise = 6, value = "Throws `IllegalArgumentException` if age is out of range")
    @Broken(at = "public int person(", from = "needRange(age, 0,", to = "needRange(age, -1,")
    @Broken(from = "LAST_AGE = 2000", to = "LAST_AGE = 2001")
    static void personNeedsAnAgeInRange(Check check) {
        int[] out = {-1, 2001, -FAR - 1, FAR};
        for (int age : out) {
            check.refused("of age from " + age, Check.ARGUMENT, () -> Ready.town(1), x -> x.person(0, age));
        }
    }

    @Sentence(promise = 6, value = "Throws `IllegalStateException` if there are 20")
    @Broken(from = "if (peopleHere >= MOST_PEOPLE) { throw new IllegalStateException(\"no more people\"); }")
    @Broken(from = "if (peopleHere >= MOST_PEOPLE) {", to = "if (peopleHere >= MOST_PEOPLE - 1) {")
    static void peopleAreTwentyAtMost(Check check) {
        check.refused("the 21st", Check.STATE, () -> Ready.town(20), x -> x.person(0, 0));
        BallotFoundry y = Ready.town(19);
        check.due("the 20th", y.person(0, 0), 19);
        y.die(3);
        check.fails("the 21st, where one has died", Check.STATE, () -> y.person(0, 0));
    }

    @Sentence(promise = 7, value = "A person moves, today.")
    @Broken(from = "new Stay(now, crossing, who.latest)", to = "new Stay(now + 1, crossing, who.latest)")
    @Broken(from = "new Stay(now, crossing, who.latest)", to = "new Stay(now - 1, crossing, who.latest)")
    static void personMovesToday(Check check) {
        BallotFoundry x = Ready.town(2);
        x.advance(3);
        x.move(1, 8);
        check.due("today", x.dwells(1, 3), 8);
        check.due("yesterday", x.dwells(1, 2), 0);
        check.due("another person", x.dwells(0, 3), 0);
        x.advance(1);
        check.due("tomorrow", x.dwells(1, 4), 8);
    }

    @Sentence(promise = 7, value = "`person`: a person")
    @Broken(at = "private Person personAt(", from = "needPerson(person);", to = "needPerson(person - 1);")
    @Broken(at = "private Person personAt(", from = "needPerson(person);", to = "needPerson(person + 1);")
    static void moveTakesEachPerson(Check check) {
        BallotFoundry x = Ready.town(20);
        check.due("the first", x.move(0, 1), 0);
        check.due("the last", x.move(19, 2), 0);
        check.due("the first has moved", x.dwells(0, 0), 1);
        check.due("the last has moved", x.dwells(19, 0), 2);
        check.due("none between them has", x.dwells(1, 0), 0);
    }

    @Sentence(promise = 7, value = "`crossing`: 0 to 35")
    @Broken(at = "public int move(", from = "needCrossing(crossing);", to = "needCrossing(crossing - 1);")
    @Broken(at = "public int move(", from = "needCrossing(crossing);", to = "needCrossing(crossing + 1);")
    static void moveTakesEachCrossing(Check check) {
        BallotFoundry x = Ready.town(1);
        x.move(0, 35);
        check.due("the last", x.dwells(0, 0), 35);
        check.due("the first", x.move(0, 0), 35);
        check.due("the one where it dwells", x.move(0, 0), 0);
    }

    @Sentence(promise = 7, value = "Returns the crossing at which it dwelt.")
    @Broken(at = "public int move(", from = "return before;", to = "return crossing;")
    @Broken(at = "public int move(", from = "who.crossingOn(now)", to = "who.crossingOn(now - 1)")
    @Broken(at = "public int move(", from = "who.crossingOn(now)", to = "who.crossingOn(0)")
    static void moveTellsWhereItDwelt(Check check) {
        BallotFoundry x = Ready.town(1);
        x.advance(1);
        check.due("where it came", x.move(0, 11), 0);
        check.due("where it moved on the same day", x.move(0, 12), 11);
        x.advance(50);
        check.due("where it moved long ago", x.move(0, 13), 12);
        x.person(14, 0);
        check.due("where it came on the same day", x.move(1, 15), 14);
    }

    @Sentence(promise = 7, value = "Throws `IndexOutOfBoundsException` if there is no such person or crossing")
    @Broken(at = "private void needPerson(", from = "person >= peopleHere", to = "person > peopleHere")
    @Broken(at = "private void needPerson(", from = "person < 0 ||")
    @Broken(at = "public int move(", from = "needCrossing(crossing);")
    static void moveNeedsAPersonAndACrossing(Check check) {
        check.refused("there is none", Check.INDEX, BallotFoundry::new, x -> x.move(0, 0));
        int[] nobody = {-1, 2, 20, -FAR - 1, FAR};
        for (int person : nobody) {
            check.refused("two, but not " + person, Check.INDEX, () -> Ready.town(2), x -> x.move(person, 1));
        }
        check.refused("twenty", Check.INDEX, () -> Ready.town(20), x -> x.move(20, 1));
        int[] none = {-1, 36, -FAR - 1, FAR};
        for (int crossing : none) {
            check.refused("to " + crossing, Check.INDEX, () -> Ready.town(2), x -> x.move(1, crossing));
        }
    }

    @Sentence(promise = 7, value = "Throws `IllegalStateException` if the person has died")
    @Broken(at = "public int move(", from = "needAlive(who);")
    @Broken(at = "public int move(", from = "needAlive(who);", to = "needAlive(people[0]);")
    static void moveNeedsALivingPerson(Check check) {
        check.refused("has died", Check.STATE, PeopleSentences::oneOfTwoHasDied, x -> x.move(0, 1));
        check.refused("has died where it would stay", Check.STATE, PeopleSentences::oneOfTwoHasDied, x -> x.move(0, 0));
        check.due("another lives", oneOfTwoHasDied().move(1, 1), 0);
    }

    @Sentence(promise = 8, value = "A person dies.")
    @Broken(at = "public boolean die(", from = "who.hasDied = true;")
    @Broken(at = "public boolean die(", from = "who.hasDied = true;", to = "people[0].hasDied = true;")
    static void personDies(Check check) {
        BallotFoundry x = Ready.town(2);
        x.die(1);
        check.fails("moves no more", Check.STATE, () -> x.move(1, 1));
        x.call(8, 0, false);
        x.advance(2);
        check.due("comes on no roll", x.isOnRoll(1), false);
        check.due("another does", x.isOnRoll(0), true);
    }

    @Sentence(promise = 8, value = "`person`: a person")
    @Broken(at = "private Person personAt(", from = "needPerson(person);", to = "needPerson(person - 1);")
    @Broken(at = "private Person personAt(", from = "needPerson(person);", to = "needPerson(person + 1);")
    static void dieTakesEachPerson(Check check) {
        BallotFoundry x = Ready.town(20);
        check.due("the first", x.die(0), false);
        check.due("the last", x.die(19), false);
    }

    @Sentence(promise = 8, value = "Returns whether an envelope is VOID by that.")
    @Broken(at = "public boolean die(", from = "return voidEnvelopeOf(person);", to = "return !voidEnvelopeOf(person);")
    @Broken(at = "public boolean die(", from = "return voidEnvelopeOf(person);",
        to = "voidEnvelopeOf(person); return election.envelopes.size > 0;")
    @Broken(from = "people[envelope] == person && states[envelope] == SEALED", to = "people[envelope] == person")
    static void dieTellsWhetherAnEnvelopeIsVoid(Check check) {
        BallotFoundry x = Ready.early(5);
        check.due("without any envelope", x.die(4), false);
        x.early(0, 1);
        x.early(0, 1);
        x.early(1, 1);
        x.early(2, 1);
        check.due("with a VOID and a SEALED one", x.die(0), true);
        check.due("the VOID one", x.stateOf(0), BallotFoundry.VOID);
        check.due("the SEALED one", x.stateOf(1), BallotFoundry.VOID);
        check.due("with another's alone", x.die(3), false);
        x.advance(6);
        x.vote(1, 0, 1);
        check.due("with one that a vote has voided", x.die(1), false);
        x.open(2);
        check.due("with an OPENED one", x.die(2), false);
        check.due("which stays so", x.stateOf(3), BallotFoundry.OPENED);
        BallotFoundry y = Ready.early(1);
        y.early(0, 1);
        y.advance(7);
        check.due("with one that the end of the day has opened", y.die(0), false);
    }

    @Sentence(promise = 8, value = "Throws `IndexOutOfBoundsException` if there is no such person")
    @Broken(at = "private void needPerson(", from = "person >= peopleHere", to = "person > peopleHere")
    @Broken(at = "private void needPerson(", from = "person < 0 ||")
    static void dieNeedsAPerson(Check check) {
        check.refused("there is none", Check.INDEX, BallotFoundry::new, x -> x.die(0));
        int[] nobody = {-1, 2, 20, -FAR - 1, FAR};
        for (int person : nobody) {
            check.refused("two, but not " + person, Check.INDEX, () -> Ready.town(2), x -> x.die(person));
        }
        check.refused("twenty", Check.INDEX, () -> Ready.town(20), x -> x.die(20));
    }

    @Sentence(promise = 8, value = "Throws `IllegalStateException` if the person has died")
    @Broken(at = "public boolean die(", from = "needAlive(who);")
    @Broken(at = "public boolean die(", from = "needAlive(who);", to = "needAlive(people[0]);")
    static void dieNeedsALivingPerson(Check check) {
        check.refused("again", Check.STATE, PeopleSentences::oneOfTwoHasDied, x -> x.die(0));
        BallotFoundry x = oneOfTwoHasDied();
        check.due("another lives", x.die(1), false);
        x.advance(1);
        check.fails("again, on another day", Check.STATE, () -> x.die(1));
    }

    @Sentence(promise = 9, value = {"Returns where a person dwells on a day.", "`day`: 0 to today"})
    @Broken(at = "public int dwells(", from = "return who.crossingOn(day);", to = "return who.crossingOn(now);")
    @Broken(at = "public int dwells(", from = "needRange(day, 0, now);", to = "needRange(day, 1, now);")
    @Broken(at = "public int dwells(", from = "needRange(day, 0, now);", to = "needRange(day, 0, now - 1);")
    static void dwellsTakesEachDay(Check check) {
        BallotFoundry x = new BallotFoundry();
        x.person(1, 0);
        check.due("the one day", x.dwells(0, 0), 1);
        x.advance(4);
        x.move(0, 2);
        check.due("the day 0", x.dwells(0, 0), 1);
        check.due("yesterday", x.dwells(0, 3), 1);
        check.due("today", x.dwells(0, 4), 2);
    }

    @Sentence(promise = 9, value = "`person`: a person")
    @Broken(at = "private Person personAt(", from = "needPerson(person);", to = "needPerson(person - 1);")
    @Broken(at = "private Person personAt(", from = "return people[person];", to = "return people[0];")
    @Broken(at = "private Person personAt(", from = "needPerson(person);", to = "needPerson(person + 1);")
    static void dwellsTakesEachPerson(Check check) {
        BallotFoundry x = new BallotFoundry();
        for (int person = 0; person < 20; person++) {
            x.person(15 + person, 0);
        }
        check.due("the first", x.dwells(0, 0), 15);
        check.due("the last", x.dwells(19, 0), 34);
    }

    @Sentence(promise = 9, value = {"Returns the crossing, also behind its death;", "NONE ahead of its coming."})
    @Broken(at = "public int dwells(", from = "return who.crossingOn(day);",
        to = "return who.hasDied ? NONE : who.crossingOn(day);")
    @Broken(from = "stay = stay.earlier) { if (stay.day <= day) { return stay.crossing; } } return NONE;",
        to = "stay = stay.earlier) { if (stay.day <= day || stay.earlier == null) { return stay.crossing; } } "
            + "return NONE;")
    static void dwellsBehindDeathAndAheadOfComing(Check check) {
        BallotFoundry x = Ready.on(5);
        x.person(3, 0);
        check.due("ahead of its coming", x.dwells(0, 4), BallotFoundry.NONE);
        check.due("on the day 0", x.dwells(0, 0), BallotFoundry.NONE);
        x.advance(1);
        x.move(0, 4);
        x.die(0);
        check.due("on the day of its death", x.dwells(0, 6), 4);
        x.advance(100);
        check.due("behind its death", x.dwells(0, 106), 4);
        check.due("ahead of its death", x.dwells(0, 5), 3);
        check.due("ahead of its coming still", x.dwells(0, 4), BallotFoundry.NONE);
    }

    @Sentence(promise = 9, value = "Throws `IndexOutOfBoundsException` if there is no such person")
    @Broken(at = "private void needPerson(", from = "person >= peopleHere", to = "person > peopleHere")
    @Broken(at = "private void needPerson(", from = "person < 0 ||")
    static void dwellsNeedsAPerson(Check check) {
        check.refused("there is none", Check.INDEX, BallotFoundry::new, x -> x.dwells(0, 0));
        int[] nobody = {-1, 2, 20, -FAR - 1, FAR};
        for (int person : nobody) {
            check.refused("two, but not " + person, Check.INDEX, () -> Ready.town(2), x -> x.dwells(person, 0));
        }
        check.refused("twenty", Check.INDEX, () -> Ready.town(20), x -> x.dwells(20, 0));
    }

    @Sentence(promise = 9, value = "Throws `IllegalArgumentException` if day is out of range")
    @Broken(at = "public int dwells(", from = "needRange(day, 0, now);", to = "needRange(day, -1, now);")
    @Broken(at = "public int dwells(", from = "needRange(day, 0, now);", to = "needRange(day, 0, now + 1);")
    static void dwellsNeedsADayInRange(Check check) {
        int[] out = {-1, 1, -FAR - 1, FAR};
        for (int day : out) {
            check.refused("on the day 0, the day " + day, Check.ARGUMENT, () -> Ready.town(1), x -> x.dwells(0, day));
        }
        BallotFoundry y = Ready.town(1);
        y.advance(9);
        check.fails("tomorrow", Check.ARGUMENT, () -> y.dwells(0, 10));
        check.fails("ahead of the day 0", Check.ARGUMENT, () -> y.dwells(0, -1));
        check.due("today", y.dwells(0, 9), 0);
    }
}
