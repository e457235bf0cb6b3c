import java.math.BigInteger;

/** The edges that "What it is" and "Terms" name: each sentence has a test of its own. */
public final class EdgeTermsTest {
    private static final Class<IllegalStateException> STATE = IllegalStateException.class;

    public static void main(String[] args) {
        sIsOneAtFirst();
        sStaysBelowItsModulus();
        drawsAndHandsAreKnown();
        eightNumbersAreDrawn();
        eachCardMayBeTheCulprits();
        noCardIsLeftOut();
        eachEveningIsDealtAnew();
        allGuestsAreHereAgain();
        nobodyHasLiedAgain();
        theTrueAnswerFromNoneToAll();
        theLieIsOneMore();
        theLieBecomesZeroAboveTheHand();
        theLieBecomesZeroAboveTheSet();
        theLieBecomesZeroAboveBoth();
        theTwentiethQuestionIsTheLast();
        twentyQuestionsAreOfAllGuestsTogether();
        eachEveningHasTwentyQuestions();
        aGuestLiesButOnce();
        eachGuestLiesOnce();
        aLieInATextIsALie();
        aLieIsNotKnown();
        aProofIsCertain();
        oneWhoLeftCannotBeAskedAnyMore();
        oneWhoLeavesShowsNothing();
        noOneWrongTwoWrong();
        whateverNumberItIs();
        eachGuestHasItsOwnWrongAnswer();
        theEveningsEndRulesNothingOut();
        theScoreOfTheFirstAndTheLastQuestion();
        aWrongAccusationCostsTenAlways();
        theScoreFallsBelowZero();
        theLastOf512Calls();
        Check.end();
    }

    // ---- chance

    /** "There is a number s, initially 1." */
    private static void sIsOneAtFirst() {
        SecretDinner house = new SecretDinner();
        Check.due("s", house.value(7), 1);
        house.begin(3, SecretDinner.NONE);
        SecretDinner one = Houses.evening(3, 1);
        Check.due("the same evening", Houses.seen(house), Houses.seen(one));
        Check.due("the same s", house.value(7), 486256185);
        Check.due("the same culprit", house.accuse(0), one.accuse(0));
    }

    /** "s becomes (1103515245 * s + 12345) modulo 2147483648": no sum of it goes astray. */
    private static void sStaysBelowItsModulus() {
        BigInteger s = BigInteger.valueOf(999999);
        SecretDinner house = new SecretDinner();
        house.begin(4, 999999);
        for (int evening = 0; evening < 100; evening++) {
            for (int i = 0; i < 8; i++) {
                s = s.multiply(BigInteger.valueOf(1103515245)).add(BigInteger.valueOf(12345));
                s = s.mod(BigInteger.TWO.pow(31));
            }
            Check.due("s of evening " + evening, house.value(7), s.longValueExact());
            house.accuse(0);
            house.begin(3 + evening % 2, SecretDinner.NONE);
        }
    }

    /** Rows that another program, in another language, has worked out. */
    private static void drawsAndHandsAreKnown() {
        int[][] rows = {
            {3, 0, 1293799192, 0, 168, 20, 66}, {3, 1, 486256185, 6, 164, 3, 24},
            {3, 2, 1826196826, 4, 200, 3, 36}, {3, 500000, 1813279800, 7, 42, 5, 80},
            {3, 999998, 1800362774, 2, 26, 192, 33}, {3, 999999, 992819767, 0, 196, 18, 40},
            {4, 0, 1293799192, 0, 160, 24, 68, 2}, {4, 1, 486256185, 6, 36, 130, 17, 8},
            {4, 2, 1826196826, 4, 72, 130, 33, 4}, {4, 500000, 1813279800, 7, 10, 36, 65, 16},
            {4, 999998, 1800362774, 2, 18, 136, 65, 32}, {4, 999999, 992819767, 0, 132, 80, 34, 8},
        };
        for (int[] row : rows) {
            SecretDinner house = Houses.evening(row[0], row[1]);
            Check.due("s", house.value(7), row[2]);
            Check.due("the culprit's card", house.accuse(row[3]), row[3]);
            for (int guest = 0; guest < row[0]; guest++) {
                Check.due("hand " + guest + " of s " + row[1], house.guest(guest, 7), row[4 + guest]);
            }
        }
    }

    /** "For each card a number [..] is drawn": for the last one, too, although but one place is left. */
    private static void eightNumbersAreDrawn() {
        for (int guests = 3; guests <= 4; guests++) {
            long s = 77;
            for (int i = 0; i < 8; i++) {
                s = Houses.nextS(s);
            }
            Check.due("eight draws", Houses.evening(guests, 77).value(7), s);
        }
    }

    // ---- cards and guests

    /** "The culprit's card is drawn: that with the drawn number below 8", from the lowest to the highest. */
    private static void eachCardMayBeTheCulprits() {
        int[] seeds = {0, 4, 8, 3, 2, 11, 1, 5};
        for (int card = 0; card < 8; card++) {
            Check.due("three guests", Houses.evening(3, seeds[card]).accuse(7 - card), card);
            Check.due("four guests", Houses.evening(4, seeds[card]).accuse(7 - card), card);
        }
    }

    /** "The other 7 cards [..] go to guests": "3, 2 and 2 for 3 guests, or 2, 2, 2 and 1 for 4 guests". */
    private static void noCardIsLeftOut() {
        for (int guests = 3; guests <= 4; guests++) {
            for (int s = 0; s < 100; s++) {
                SecretDinner house = Houses.evening(guests, s);
                int cards = 1 << house.accuse(0);
                for (int guest = 0; guest < guests; guest++) {
                    int hand = house.guest(guest, 7);
                    Check.due("no card twice", cards & hand, 0);
                    Check.due("a full hand", Integer.bitCount(hand), Houses.size(guests, guest));
                    cards |= hand;
                }
                Check.due("each card once", cards, 255);
            }
        }
    }

    private static void eachEveningIsDealtAnew() {
        SecretDinner house = new SecretDinner();
        for (int s = 0; s < 30; s++) {
            int guests = 3 + s % 3 % 2;
            house.begin(guests, s);
            Check.due("the culprit's card", house.accuse(0), Houses.culprit(guests, s));
            for (int guest = 0; guest < guests; guest++) {
                Check.due("hand", house.guest(guest, 7), Houses.hand(guests, s, guest));
            }
        }
    }

    /** "All guests are here": those who left the evening before, too. */
    private static void allGuestsAreHereAgain() {
        SecretDinner house = Houses.evening(4, 5);
        for (int guest = 0; guest < 4; guest++) {
            house.leave(guest);
        }
        house.accuse(0);
        house.begin(4, 5);
        Check.due("here", house.value(8), 4);
        for (int guest = 0; guest < 4; guest++) {
            Check.due("guest " + guest, house.guest(guest, 1), 1);
            Check.due("answers again", house.ask(guest, 255, false), Houses.size(4, guest));
        }
    }

    /** "Nobody has lied": those who lied the evening before neither. */
    private static void nobodyHasLiedAgain() {
        SecretDinner house = Houses.evening(4, 5);
        for (int guest = 0; guest < 4; guest++) {
            house.ask(guest, 255, true);
        }
        house.accuse(0);
        house.begin(4, 5);
        for (int guest = 0; guest < 4; guest++) {
            Check.due("no liar for certain", house.guest(guest, 6), 0);
            Check.due("can lie again", house.ask(guest, 255, true), 0);
        }
    }

    // ---- questions

    /** "How many of them it holds [..] The true answer is this number": from 0 to the whole hand. */
    private static void theTrueAnswerFromNoneToAll() {
        for (int guests = 3; guests <= 4; guests++) {
            for (int guest = 0; guest < guests; guest++) {
                int hand = Houses.hand(guests, 31, guest);
                int size = Houses.size(guests, guest);
                SecretDinner house = Houses.evening(guests, 31);
                Check.due("none", house.ask(guest, 255 - hand, false), 0);
                Check.due("all cards", house.ask(guest, 255, false), size);
                Check.due("its hand", house.ask(guest, hand, false), size);
                Check.due("one card", house.ask(guest, Integer.lowestOneBit(hand), false), 1);
                Check.due("one card that it has not", house.ask(guest, Integer.lowestOneBit(~hand), false), 0);
            }
        }
    }

    /** "The answer is the true one plus 1": also if that is just the hand, or just the set. */
    private static void theLieIsOneMore() {
        for (int s = 60; s < 64; s++) {
            int hand = Houses.hand(3, s, 0);
            int others = 255 - hand;
            Check.due("none of one", Houses.evening(3, s).ask(0, Houses.lowest(others, 1), true), 1);
            Check.due("none of many", Houses.evening(3, s).ask(0, others, true), 1);
            Check.due("one of two: all that were asked for", Houses.evening(3, s)
                    .ask(0, Houses.lowest(hand, 1) | Houses.lowest(others, 1), true), 2);
            Check.due("two of three: all that were asked for, and all that it has", Houses.evening(3, s)
                    .ask(0, Houses.lowest(hand, 2) | Houses.lowest(others, 1), true), 3);
            Check.due("two of seven: all that it has", Houses.evening(3, s)
                    .ask(0, Houses.lowest(hand, 2) | others, true), 3);
            int last = Houses.hand(4, s, 3);
            Check.due("none of seven: the one that it has", Houses.evening(4, s).ask(3, 255 - last, true), 1);
        }
    }

    /** "Or 0 if that would be more than the smaller one of its hand and the set": its hand is it. */
    private static void theLieBecomesZeroAboveTheHand() {
        for (int guests = 3; guests <= 4; guests++) {
            for (int guest = 0; guest < guests; guest++) {
                Check.due("all cards", Houses.evening(guests, 61).ask(guest, 255, true), 0);
                int hand = Houses.hand(guests, 61, guest);
                int more = hand | Integer.lowestOneBit(255 - hand);
                Check.due("one more than its hand", Houses.evening(guests, 61).ask(guest, more, true), 0);
            }
        }
    }

    /** The set is the smaller one. */
    private static void theLieBecomesZeroAboveTheSet() {
        for (int s = 60; s < 64; s++) {
            int hand = Houses.hand(3, s, 0);
            Check.due("one of one", Houses.evening(3, s).ask(0, Houses.lowest(hand, 1), true), 0);
            Check.due("two of two", Houses.evening(3, s).ask(0, Houses.lowest(hand, 2), true), 0);
        }
    }

    /** Neither of them is smaller. */
    private static void theLieBecomesZeroAboveBoth() {
        for (int guests = 3; guests <= 4; guests++) {
            for (int guest = 0; guest < guests; guest++) {
                int hand = Houses.hand(guests, 62, guest);
                Check.due("its own hand", Houses.evening(guests, 62).ask(guest, hand, true), 0);
            }
        }
    }

    /** "There are at most 20 questions in an evening": one that throws does not count, one undone neither. */
    private static void theTwentiethQuestionIsTheLast() {
        SecretDinner house = Houses.evening(3, 63);
        for (int i = 1; i <= 19; i++) {
            house.ask(0, 255, false);
        }
        Check.refused(house, "no such guest", IndexOutOfBoundsException.class, () -> house.ask(3, 1, false));
        Check.due("question 20", house.ask(0, 255, false), 3);
        Check.due("20 questions", house.value(2), 20);
        Check.refused(house, "question 21", STATE, () -> house.ask(0, 255, false));
        Check.refused(house, "question 21, a lie", STATE, () -> house.ask(1, 255, true));
        house.undo();
        Check.due("question 20 again, a lie", house.ask(0, 255, true), 0);
        Check.refused(house, "question 21", STATE, () -> house.ask(2, 255, false));
    }

    private static void twentyQuestionsAreOfAllGuestsTogether() {
        SecretDinner house = Houses.evening(4, 63);
        Houses.write(house, "a0:0;a1:0;a2:0;a3:0;l0:0;l1:0;l2:0;l3:0;");
        Check.due("eight in a text", house.play(), 8);
        Check.due("eight more", house.play(), 4);
        Check.due("12 questions: each guest has lied", house.value(2), 12);
        for (int i = 12; i < 20; i++) {
            house.ask(3, 1, false);
        }
        Check.due("of guest 0", house.guest(0, 2), 3);
        Check.due("of guest 3", house.guest(3, 2), 11);
        for (int guest = 0; guest < 4; guest++) {
            int one = guest;
            Check.refused(house, "question 21", STATE, () -> house.ask(one, 1, false));
        }
        Check.due("nor in a text", house.play(), 0);
    }

    private static void eachEveningHasTwentyQuestions() {
        SecretDinner house = new SecretDinner();
        for (int evening = 0; evening < 3; evening++) {
            house.begin(3 + evening % 2, SecretDinner.NONE);
            for (int i = 0; i < 20; i++) {
                Check.due("question " + i, house.ask(1, 255, false), 2);
            }
            Check.refused(house, "question 21", STATE, () -> house.ask(1, 255, false));
            house.accuse(0);
        }
    }

    /** "A guest who has not lied this evening can lie": the second lie is refused, the truth is not. */
    private static void aGuestLiesButOnce() {
        SecretDinner house = Houses.evening(3, 64);
        Check.due("the truth", house.ask(0, 255, false), 3);
        Check.due("the first lie, behind the truth", house.ask(0, 255, true), 0);
        Check.refused(house, "the second lie", STATE, () -> house.ask(0, 255, true));
        Check.refused(house, "of other cards", STATE, () -> house.ask(0, 1, true));
        Check.due("the truth again", house.ask(0, 255, false), 3);
        Check.refused(house, "still the second lie", STATE, () -> house.ask(0, 255, true));
        house.undo();
        house.undo();
        Check.due("the lie is undone", house.ask(0, 255, true), 0);
        house.accuse(0);
        house.begin(3, 64);
        Check.due("the first lie of another evening", house.ask(0, 255, true), 0);
        Check.refused(house, "the second one", STATE, () -> house.ask(0, 255, true));
    }

    private static void eachGuestLiesOnce() {
        SecretDinner house = Houses.evening(4, 65);
        for (int guest = 0; guest < 4; guest++) {
            Check.due("a lie of each", house.ask(guest, 255, true), 0);
            int one = guest;
            Check.refused(house, "a second one of none", STATE, () -> house.ask(one, 255, true));
        }
        house.leave(2);
        Check.refused(house, "nor of one who has left", STATE, () -> house.ask(2, 255, true));
    }

    private static void aLieInATextIsALie() {
        SecretDinner house = Houses.evening(3, 66);
        Houses.write(house, "l1:01234567;");
        Check.due("a lie", house.play(), 1);
        Check.due("its answer", house.question(0, 2), 0);
        Check.due("it lies for certain", house.guest(1, 6), 1);
        Check.refused(house, "a second one", STATE, () -> house.ask(1, 255, true));
        Check.due("nor in a text", house.play(), 0);
        Check.due("another guest can", house.ask(2, 255, true), 0);
        house.undo();
        house.undo();
        house.undo();
        Check.due("its play is undone", house.ask(1, 255, true), 0);
    }

    /** "Whether an answer is a lie is not known": the same answers leave the same deals. */
    private static void aLieIsNotKnown() {
        int cards = 15;
        int none = seedWith(cards, 0);
        int one = seedWith(cards, 1);
        SecretDinner liar = Houses.evening(3, none);
        SecretDinner honest = Houses.evening(3, one);
        Check.due("a lie", liar.ask(1, cards, true), 1);
        Check.due("the truth", honest.ask(1, cards, false), 1);
        sameLooks("one answer", liar, honest);
        Check.due("the truth", liar.ask(1, cards, false), 0);
        liar.undo();
        int hidden = Houses.hand(3, none, 0) & Houses.hand(3, one, 0);
        Check.due("both hold some", hidden != 0, true);
        liar.ask(0, Houses.lowest(hidden, 1), false);
        honest.ask(0, Houses.lowest(hidden, 1), false);
        liar.prove(0, Integer.numberOfTrailingZeros(hidden));
        honest.prove(0, Integer.numberOfTrailingZeros(hidden));
        sameLooks("more answers", liar, honest);
    }

    /** An evening for three in which guest 1 holds so many of the cards, and guest 0 the card 7. */
    private static int seedWith(int cards, int number) {
        int s = 0;
        while (Integer.bitCount(Houses.hand(3, s, 1) & cards) != number || Houses.hand(3, s, 0) < 128) {
            s++;
        }
        return s;
    }

    private static void sameLooks(String when, SecretDinner one, SecretDinner other) {
        Check.due(when + ": deals", one.deals(), other.deals());
        Check.due(when + ": culprits", one.culprits(), other.culprits());
        for (int guest = 0; guest < 3; guest++) {
            for (int what = 4; what <= 6; what++) {
                Check.due(when + ": guest", one.guest(guest, what), other.guest(guest, what));
            }
            for (int card = 0; card < 8; card++) {
                Check.due(when + ": dealsHeld", one.dealsHeld(guest, card), other.dealsHeld(guest, card));
                Check.due(when + ": worst", one.worst(guest, 1 << card), other.worst(guest, 1 << card));
            }
        }
    }

    // ---- proofs and leaving

    /** "This is certain": a proof is never forgiven, not even the first one. */
    private static void aProofIsCertain() {
        SecretDinner house = Houses.eveningWithLastHand(6);
        Check.due("held", house.prove(3, 6), true);
        Check.due("an eighth of the deals", house.deals(), 630);
        house.undo();
        Check.due("not held", house.prove(3, 5), false);
        Check.due("the other seven", house.deals(), 4410);
        house.ask(3, 255, true);
        Check.due("a wrong answer is forgiven beside it", house.deals(), 4410);
        house.prove(3, 6);
        Check.due("a proof is not forgiven beside it", house.deals(), 630);
    }

    /** "A guest who leaves cannot be asked any more". */
    private static void oneWhoLeftCannotBeAskedAnyMore() {
        SecretDinner house = Houses.evening(3, 67);
        house.ask(0, 255, false);
        house.leave(0);
        Check.refused(house, "asked", STATE, () -> house.ask(0, 255, false));
        Check.refused(house, "a lie", STATE, () -> house.ask(0, 255, true));
        Check.refused(house, "a proof", STATE, () -> house.prove(0, 0));
        Check.refused(house, "gone twice", STATE, () -> house.leave(0));
        Houses.write(house, "a0:0;");
        Check.due("nor in a text", house.play(), 0);
        Check.due("the others can", house.ask(1, 255, false), 2);
        Check.due("what it said stays", house.guest(0, 2), 1);
    }

    /** "And shows nothing". */
    private static void oneWhoLeavesShowsNothing() {
        SecretDinner house = Houses.evening(4, 68);
        house.ask(1, 15, false);
        house.ask(1, 51, false);
        int deals = house.deals();
        int best = house.bestCards(1);
        int held = house.dealsHeld(1, 3);
        for (int guest = 0; guest < 4; guest++) {
            house.leave(guest);
        }
        Check.due("deals", house.deals(), deals);
        Check.due("bestCards", house.bestCards(1), best);
        Check.due("dealsHeld", house.dealsHeld(1, 3), held);
        Check.due("its hand is hidden", house.guest(1, 7), -1);
        Check.due("no card is certain", house.guest(1, 4), 0);
        Check.due("all are here or gone", house.value(8), 0);
        Check.due("the evening goes on", house.value(1), 1);
    }

    // ---- possible deals

    /** "At most one of its answers is wrong": none and one are possible, two are not. */
    private static void noOneWrongTwoWrong() {
        SecretDinner house = Houses.eveningWithLastHand(2);
        house.ask(3, 4, false);
        Check.due("at most one is wrong", house.deals(), 5040);
        house.ask(3, 4, false);
        Check.due("none or two are wrong", house.deals(), 630);
        house.ask(3, 4, true);
        Check.due("one or two are wrong", house.deals(), 630);
        Check.due("one for certain", house.guest(3, 6), 1);
        house.ask(3, 4, false);
        Check.due("one or three are wrong", house.deals(), 630);
        Check.due("its card", house.guest(3, 4), 4);
    }

    /** "Whatever number it is": an answer that no hand can give counts as one that is wrong by one. */
    private static void whateverNumberItIs() {
        SecretDinner house = Houses.evening(3, 69);
        Check.due("0 for 3", house.ask(0, 255, true), 0);
        Check.due("wrong in all, but once", house.deals(), 1680);
        Check.due("so it has lied", house.guest(0, 6), 1);
        for (int answer = 0; answer <= 8; answer++) {
            Check.due("right again, or wrong twice", house.dealsIf(0, 255, answer), answer == 3 ? 1680 : 0);
            Check.due("wrong for the first time", house.dealsIf(1, 255, answer), 1680);
        }
    }

    /** "For each guest": the wrong answers of two guests are not counted together. */
    private static void eachGuestHasItsOwnWrongAnswer() {
        SecretDinner house = Houses.evening(4, 70);
        for (int guest = 0; guest < 4; guest++) {
            house.ask(guest, 255, true);
            Check.due("each has lied once", house.deals(), 5040);
            Check.due("for certain", house.guest(guest, 6), 1);
        }
        for (int guest = 0; guest < 4; guest++) {
            house.ask(guest, 255, false);
            Check.due("and tells the truth", house.deals(), 5040);
            Check.due("a second wrong one would be too many", house.dealsIf(guest, 255, 0), 0);
        }
    }

    /** "Whether the evening is over does not matter for that", nor "what is really dealt". */
    private static void theEveningsEndRulesNothingOut() {
        SecretDinner house = Houses.evening(3, 71);
        house.ask(0, 7, false);
        house.ask(0, 56, false);
        int deals = house.deals();
        int culprits = house.culprits();
        int certain = house.guest(0, 4);
        house.accuse(Houses.culprit(3, 71));
        Check.due("deals", house.deals(), deals);
        Check.due("culprits", house.culprits(), culprits);
        Check.due("certain cards", house.guest(0, 4), certain);
        Check.due("more than one may be the culprit's", Integer.bitCount(culprits) > 1, true);
    }

    // ---- accusing

    private static SecretDinner afterQuestions(int number) {
        SecretDinner house = Houses.evening(4, 72);
        for (int i = 0; i < number; i++) {
            house.ask(i % 4, 255, false);
        }
        return house;
    }

    /** "The score grows by 21 minus the number of questions of this evening". */
    private static void theScoreOfTheFirstAndTheLastQuestion() {
        for (int number = 0; number <= 20; number++) {
            SecretDinner house = afterQuestions(number);
            house.prove(0, 0);
            house.accuse(Houses.culprit(4, 72));
            Check.due("score behind " + number + " questions", house.value(6), 21 - number);
            Check.due("found", house.value(5), 1);
        }
    }

    /** "Otherwise it falls by 10". */
    private static void aWrongAccusationCostsTenAlways() {
        int culprit = Houses.culprit(4, 72);
        for (int number = 0; number <= 20; number += 10) {
            for (int card = 0; card < 8; card++) {
                SecretDinner house = afterQuestions(number);
                house.accuse(card);
                Check.due("score for card " + card, house.value(6), card == culprit ? 21 - number : -10);
                Check.due("found", house.value(5), card == culprit ? 1 : 0);
                Check.due("over all the same", house.value(4), 1);
            }
        }
    }

    private static void theScoreFallsBelowZero() {
        SecretDinner house = new SecretDinner();
        for (int evening = 1; evening <= 5; evening++) {
            house.begin(3, 72);
            house.accuse(7 - Houses.culprit(3, 72));
            Check.due("score", house.value(6), -10 * evening);
        }
        house.begin(3, 72);
        house.accuse(Houses.culprit(3, 72));
        Check.due("and grows again", house.value(6), -29);
    }

    // ---- 512 calls

    /** "At most 512 calls": the last one of them answers still. */
    private static void theLastOf512Calls() {
        SecretDinner evenings = new SecretDinner();
        long s = 1;
        for (int i = 0; i < 255; i++) {
            int guests = 3 + i % 2;
            evenings.begin(guests, SecretDinner.NONE);
            evenings.accuse((int) Houses.dealt(guests, s)[1]);
            s = Houses.dealt(guests, s)[0];
        }
        Check.due("255 culprits", evenings.value(5), 255);
        Check.due("their score", evenings.value(6), 255 * 21);
        SecretDinner proofs = Houses.evening(4, 73);
        for (int i = 0; i < 510; i++) {
            proofs.prove(i % 4, 7 - i % 8);
        }
        Check.due("510 proofs", proofs.value(3), 510);
        SecretDinner undone = Houses.evening(4, 73);
        for (int i = 0; i < 255; i++) {
            undone.ask(0, 1 + i, i % 2 == 0);
            Check.due("undone", undone.undo(), 1);
        }
        Check.due("the last digest", undone.digest(), Houses.evening(4, 73).digest());
    }
}
