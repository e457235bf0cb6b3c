/** The edges that the promises 10 to 19 name: each sentence has a test of its own. */
public final class EdgePossibleTest {
    private static final Class<IllegalArgumentException> ARGUMENT = IllegalArgumentException.class;
    private static final Class<IndexOutOfBoundsException> INDEX = IndexOutOfBoundsException.class;
    private static final int[] ODD_CARDS = {Integer.MIN_VALUE, -256, -8, -2, -1, 8, 9, 16, 256, 263, Integer.MAX_VALUE};
    private static final int[] ODD_SETS = {Integer.MIN_VALUE, -256, -2, -1, 0, 256, 257, 511, 65536, Integer.MAX_VALUE};
    private static final int[] ODD_ANSWERS = {Integer.MIN_VALUE, -256, -2, -1, 9, 10, 16, 256, Integer.MAX_VALUE};

    public static void main(String[] args) {
        dealsBeforeTheFirstEvening();
        dealsFromAllToOne();
        dealsBeforeAgain();
        dealsWithFirstAndLastCard();
        dealsWithNoneAndAll();
        dealsHeldFirstAndLastCard();
        dealsHeldNoneAndAll();
        culpritsFromAllToOne();
        likeliestOfSeveralTheLowest();
        likeliestNotTheLowest();
        likeliestOfOneDeal();
        likeliestIsACard();
        likeliestBeforeTheFirstEvening();
        chanceFromZeroToOne();
        chanceIsOneDivision();
        guestsOfTheForecasts();
        setsOfTheForecasts();
        answersOfTheForecasts();
        dealsIfNoneIsLeft();
        dealsIfWhetherItCanBeAskedOrNot();
        dealsIfIsOneMoreAnswer();
        worstOverAllAnswers();
        worstOfSmallestAndGreatestSet();
        bestCardsOfSeveralTheLowest();
        bestCardsOfTwoCards();
        bestCardsOfOneCard();
        bestCardsLastOfAll();
        bestCardsNotOfThree();
        leftByProofWhenItIsKnown();
        leftByProofGreatestSum();
        leftByProofIsNoWholeNumber();
        looksChangeNothing();
        Check.end();
    }

    /** An evening for four in which guest 3, with its one card, has lied for certain: all deals are left. */
    private static SecretDinner eveningOfALiar(int card) {
        SecretDinner house = Houses.eveningWithLastHand(card);
        Check.due("its lie", house.ask(3, 255, true), 0);
        Check.due("all deals", house.deals(), 5040);
        return house;
    }

    // ---- promise 10: deals

    private static void dealsBeforeTheFirstEvening() {
        SecretDinner house = new SecretDinner();
        Check.due("none", house.deals(), 0);
        house.append('a');
        house.clearText();
        house.play();
        Check.due("none behind a play of no items", house.deals(), 0);
    }

    private static void dealsFromAllToOne() {
        int[] all = {1680, 5040};
        for (int guests = 3; guests <= 4; guests++) {
            SecretDinner house = Houses.evening(guests, 110);
            Check.due("all", house.deals(), all[guests - 3]);
            for (int guest = 0; guest < guests; guest++) {
                for (int card = 0; card < 8; card++) {
                    house.prove(guest, card);
                }
            }
            Check.due("one", house.deals(), 1);
            house.accuse(0);
            Check.due("one behind the evening", house.deals(), 1);
            house.begin(7 - guests, 110);
            Check.due("all of the next one", house.deals(), all[4 - guests]);
        }
    }

    private static void dealsBeforeAgain() {
        SecretDinner house = Houses.evening(4, 111);
        house.undo();
        Check.due("none", house.deals(), 0);
        Check.due("no culprits", house.culprits(), 0);
        Check.due("none is likeliest", house.likeliest(), -1);
        Check.due("no chance", house.chance(0), 0.0);
        Check.due("none with card 0", house.dealsWith(0), 0);
        Check.refused(house, "no guests", INDEX, () -> house.dealsHeld(0, 0));
    }

    // ---- promises 11 and 12: dealsWith, dealsHeld

    private static void dealsWithFirstAndLastCard() {
        SecretDinner house = new SecretDinner();
        Check.due("card 0 before", house.dealsWith(0), 0);
        Check.due("card 7 before", house.dealsWith(7), 0);
        for (int round = 0; round < 2; round++) {
            for (int odd : ODD_CARDS) {
                Check.refused(house, "dealsWith " + odd, INDEX, () -> house.dealsWith(odd));
                Check.refused(house, "chance " + odd, INDEX, () -> house.chance(odd));
            }
            if (round == 0) {
                house.begin(4, 112);
            }
        }
        Check.due("card 0", house.dealsWith(0), 630);
        Check.due("card 7", house.dealsWith(7), 630);
    }

    private static void dealsWithNoneAndAll() {
        SecretDinner house = Houses.evening(3, 113);
        int culprit = Houses.culprit(3, 113);
        for (int guest = 0; guest < 3; guest++) {
            house.prove(guest, culprit);
        }
        Check.due("all", house.dealsWith(culprit), house.deals());
        Check.due("all hands of the other seven", house.deals(), 210);
        Check.due("none", house.dealsWith(7 - culprit), 0);
    }

    private static void dealsHeldFirstAndLastCard() {
        SecretDinner house = Houses.evening(3, 114);
        for (int guest = 0; guest < 3; guest++) {
            int one = guest;
            for (int odd : ODD_CARDS) {
                Check.refused(house, "dealsHeld " + odd, INDEX, () -> house.dealsHeld(one, odd));
            }
            Check.due("card 0", house.dealsHeld(guest, 0), guest == 0 ? 630 : 420);
            Check.due("card 7", house.dealsHeld(guest, 7), guest == 0 ? 630 : 420);
        }
        Check.refused(house, "guest 3 of 3", INDEX, () -> house.dealsHeld(3, 0));
        Check.refused(house, "guest -1", INDEX, () -> house.dealsHeld(-1, 7));
        Check.due("guest 3 of 4", Houses.evening(4, 114).dealsHeld(3, 7), 630);
    }

    private static void dealsHeldNoneAndAll() {
        SecretDinner house = Houses.eveningWithLastHand(7);
        house.prove(3, 7);
        Check.due("all", house.dealsHeld(3, 7), 630);
        Check.due("none of another card", house.dealsHeld(3, 0), 0);
        Check.due("none of another guest", house.dealsHeld(2, 7), 0);
        Check.due("not the culprit's", house.dealsWith(7), 0);
    }

    // ---- promises 13 and 14: culprits, likeliest

    private static void culpritsFromAllToOne() {
        SecretDinner house = new SecretDinner();
        Check.due("0 before the first evening", house.culprits(), 0);
        house.begin(4, 115);
        Check.due("all", house.culprits(), 255);
        int culprit = Houses.culprit(4, 115);
        for (int guest = 0; guest < 3; guest++) {
            house.prove(guest, culprit);
            Check.due("all, if another may hold it", house.culprits(), 255);
        }
        house.prove(3, culprit);
        Check.due("one", house.culprits(), 1 << culprit);
        house.accuse(7 - culprit);
        Check.due("one behind the evening", house.culprits(), 1 << culprit);
    }

    private static void likeliestOfSeveralTheLowest() {
        SecretDinner house = Houses.evening(3, 0);
        // Guest 0 holds 168: the cards 3, 5 and 7; guest 1 holds 2 and 4; card 0 is the culprit's.
        Check.due("of all the lowest", house.likeliest(), 0);
        house = Houses.evening(3, 2);
        // Guest 1 holds the cards 0 and 1; guest 2 holds 2 and 5.
        house.prove(1, 0);
        Check.due("of seven the lowest", house.likeliest(), 1);
        house.prove(1, 1);
        Check.due("of six the lowest", house.likeliest(), 2);
        house.prove(2, 2);
        Check.due("of five the lowest", house.likeliest(), 3);
    }

    private static void likeliestNotTheLowest() {
        SecretDinner house = Houses.evening(4, 5);
        // Card 7 is the culprit's: who says that he has it not makes it likelier than the others.
        Check.due("all alike", house.likeliest(), 0);
        house.prove(0, 7);
        Check.due("the last card", house.likeliest(), 7);
        Check.due("its deals", house.dealsWith(7), 630);
        Check.due("those of the others", house.dealsWith(0), 450);
        house.prove(0, 6);
        Check.due("two alike: the lower one", house.likeliest(), 6);
        Check.due("as many deals", house.dealsWith(6), house.dealsWith(7));
    }

    private static void likeliestOfOneDeal() {
        for (int guests = 3; guests <= 4; guests++) {
            SecretDinner house = Houses.evening(guests, 110);
            for (int guest = 0; guest < guests; guest++) {
                for (int card = 0; card < 8; card++) {
                    house.prove(guest, card);
                }
            }
            Check.due("one deal", house.deals(), 1);
            Check.due("its culprit", house.likeliest(), Houses.culprit(guests, 110));
            Check.due("its culprit alone", house.culprits(), 1 << Houses.culprit(guests, 110));
        }
    }

    /** Wrong answers in all deals make no card of those who gave them. */
    private static void likeliestIsACard() {
        SecretDinner house = Houses.evening(3, 115);
        for (int guest = 0; guest < 3; guest++) {
            house.ask(guest, 255, true);
            Check.due("of eight alike the lowest", house.likeliest(), 0);
            Check.due("all eight", house.culprits(), 255);
            Check.due("all eight of the first", house.guest(0, 5), 255);
            Check.due("none for certain", house.guest(2, 4), 0);
        }
    }

    private static void likeliestBeforeTheFirstEvening() {
        SecretDinner house = new SecretDinner();
        Check.due("none", house.likeliest(), SecretDinner.NONE);
        house.begin(3, 0);
        house.accuse(0);
        Check.due("some behind it", house.likeliest(), 0);
    }

    // ---- promise 15: chance

    private static void chanceFromZeroToOne() {
        SecretDinner house = new SecretDinner();
        for (int card = 0; card < 8; card++) {
            Check.due("no deal is possible", house.chance(card), 0.0);
        }
        house.begin(3, 113);
        int culprit = Houses.culprit(3, 113);
        Check.due("an eighth, card 0", house.chance(0), 0.125);
        Check.due("an eighth, card 7", house.chance(7), 0.125);
        for (int guest = 0; guest < 3; guest++) {
            house.prove(guest, culprit);
        }
        Check.due("one", house.chance(culprit), 1.0);
        Check.due("none", house.chance(7 - culprit), 0.0);
    }

    /** "Converted to double, divided": the nearest double of the fraction, no sum of shares. */
    private static void chanceIsOneDivision() {
        SecretDinner house = Houses.evening(4, 5);
        house.prove(0, 7);
        Check.due("deals", house.deals(), 3780);
        Check.due("630 of 3780", house.chance(7), 1.0 / 6.0);
        Check.due("450 of 3780", house.chance(0), 450.0 / 3780.0);
    }

    // ---- promises 16 to 19: what is refused

    private static void guestsOfTheForecasts() {
        SecretDinner house = new SecretDinner();
        for (int guests = 0; guests <= 4; guests = guests == 0 ? 3 : guests + 1) {
            if (guests > 0) {
                house = Houses.evening(guests, 116);
            }
            SecretDinner one = house;
            for (int odd : new int[] {Integer.MIN_VALUE, -1, guests, guests + 1, 256, Integer.MAX_VALUE}) {
                Check.refused(one, "dealsIf guest " + odd, INDEX, () -> one.dealsIf(odd, 1, 0));
                Check.refused(one, "dealsIf, all wrong", INDEX, () -> one.dealsIf(odd, 0, 9));
                Check.refused(one, "worst guest " + odd, INDEX, () -> one.worst(odd, 255));
                Check.refused(one, "worst, all wrong", INDEX, () -> one.worst(odd, 256));
                Check.refused(one, "bestCards guest " + odd, INDEX, () -> one.bestCards(odd));
                Check.refused(one, "leftByProof guest " + odd, INDEX, () -> one.leftByProof(odd, 0));
                Check.refused(one, "leftByProof, all wrong", INDEX, () -> one.leftByProof(odd, 8));
            }
        }
    }

    private static void setsOfTheForecasts() {
        SecretDinner house = Houses.evening(4, 117);
        for (int odd : ODD_SETS) {
            Check.refused(house, "dealsIf cards " + odd, ARGUMENT, () -> house.dealsIf(3, odd, 0));
            Check.refused(house, "dealsIf, answer, too", ARGUMENT, () -> house.dealsIf(0, odd, 9));
            Check.refused(house, "worst cards " + odd, ARGUMENT, () -> house.worst(3, odd));
        }
        for (int odd : ODD_CARDS) {
            Check.refused(house, "leftByProof card " + odd, INDEX, () -> house.leftByProof(3, odd));
        }
    }

    /** "Answer: 0 to 8". */
    private static void answersOfTheForecasts() {
        SecretDinner house = Houses.evening(4, 118);
        for (int odd : ODD_ANSWERS) {
            Check.refused(house, "dealsIf answer " + odd, ARGUMENT, () -> house.dealsIf(3, 1, odd));
            Check.refused(house, "dealsIf answer " + odd, ARGUMENT, () -> house.dealsIf(0, 255, odd));
        }
        Check.due("the smallest", house.dealsIf(3, 1, 0), 5040);
        Check.due("the greatest", house.dealsIf(3, 1, 8), 5040);
    }

    // ---- promises 16 and 17: dealsIf, worst

    /** A second wrong answer rules a deal out: no hand gives the answers from 2 to 8. */
    private static void dealsIfNoneIsLeft() {
        SecretDinner house = eveningOfALiar(4);
        int[] due = {4410, 630, 0, 0, 0, 0, 0, 0, 0};
        for (int answer = 0; answer <= 8; answer++) {
            Check.due("one card, " + answer, house.dealsIf(3, 1, answer), due[answer]);
            Check.due("the last card, " + answer, house.dealsIf(3, 128, answer), due[answer]);
            Check.due("all cards, " + answer, house.dealsIf(3, 255, answer), answer == 1 ? 5040 : 0);
            Check.due("another guest, " + answer, house.dealsIf(2, 1, answer), 5040);
        }
    }

    /** "Whether it can be asked or not": 20 questions, gone, over. */
    private static void dealsIfWhetherItCanBeAskedOrNot() {
        SecretDinner house = eveningOfALiar(4);
        for (int i = 1; i < 20; i++) {
            house.ask(3, 255, false);
        }
        Check.due("20 questions", house.value(2), 20);
        for (int round = 0; round < 3; round++) {
            Check.due("dealsIf", house.dealsIf(3, 3, 1), 1260);
            Check.due("dealsIf", house.dealsIf(3, 3, 0), 3780);
            Check.due("worst", house.worst(3, 3), 3780);
            Check.due("bestCards", house.bestCards(3), 3);
            Check.due("leftByProof", house.leftByProof(3, 4), 3937.5);
            if (round == 0) {
                house.leave(3);
            } else if (round == 1) {
                house.accuse(0);
            }
        }
    }

    /** "As one more answer": it is what deals() tells when the guest has given it. */
    private static void dealsIfIsOneMoreAnswer() {
        for (int guest = 0; guest < 3; guest++) {
            SecretDinner house = Houses.evening(3, 119);
            house.ask(guest, 7, true);
            house.ask(guest, 56, false);
            for (int cards : new int[] {1, 2, 64, 128, 129, 254, 255}) {
                int right = Integer.bitCount(Houses.hand(3, 119, guest) & cards);
                int foretold = house.dealsIf(guest, cards, right);
                house.ask(guest, cards, false);
                Check.due("behind the answer", house.deals(), foretold);
                house.undo();
            }
        }
    }

    /** "The greatest dealsIf() for all answers 0 to 8": of 0, of 1, of 2, of 3. */
    private static void worstOverAllAnswers() {
        SecretDinner house = Houses.evening(3, 120);
        Check.due("a lie for certain", house.ask(0, 255, true), 0);
        // Hands of three of eight cards, by how many of the set they hold: each has 30 deals.
        Check.due("answer 0 is the worst", house.worst(0, 1), 30 * 35);
        Check.due("answer 1 is the worst", house.worst(0, 7), 30 * 30);
        Check.due("answer 2 is the worst", house.worst(0, 31), 30 * 30);
        Check.due("answer 3 is the worst", house.worst(0, 127), 30 * 35);
        Check.due("answer 1 of four cards, as answer 2", house.worst(0, 240), 30 * 24);
    }

    private static void worstOfSmallestAndGreatestSet() {
        SecretDinner house = eveningOfALiar(5);
        Check.due("card 0", house.worst(3, 1), 4410);
        Check.due("card 7", house.worst(3, 128), 4410);
        Check.due("all cards", house.worst(3, 255), 5040);
        Check.due("all but one", house.worst(3, 254), 4410);
        Check.due("half of them", house.worst(3, 15), 2520);
        Check.due("who has not been asked", house.worst(0, 15), 5040);
    }

    // ---- promise 18: bestCards

    /** "Of several the lowest number": if all are alike, card 0 alone. */
    private static void bestCardsOfSeveralTheLowest() {
        for (int guests = 3; guests <= 4; guests++) {
            SecretDinner house = Houses.evening(guests, 121);
            for (int guest = 0; guest < guests; guest++) {
                Check.due("all alike", house.bestCards(guest), 1);
            }
        }
        Check.due("two cards are better, the two lowest ones", eveningOfALiar(6).bestCards(3), 3);
    }

    /** "The set of one or two cards": two of those that it may hold. */
    private static void bestCardsOfTwoCards() {
        SecretDinner house = eveningOfALiar(7);
        int[] best = {6, 12, 24, 48};
        for (int card = 0; card < 4; card++) {
            house.prove(3, card);
            Check.due("the lowest two that are left", house.bestCards(3), best[card]);
        }
        Check.due("two of four", house.worst(3, 48), house.deals() / 2);
    }

    /** One card is a lower number than it with another one. */
    private static void bestCardsOfOneCard() {
        SecretDinner house = eveningOfALiar(7);
        for (int card = 0; card < 5; card++) {
            house.prove(3, card);
        }
        Check.due("one of three is as good as two", house.bestCards(3), 32);
        house.prove(3, 5);
        Check.due("one of two", house.bestCards(3), 64);
        house.prove(3, 6);
        Check.due("there is nothing to ask", house.bestCards(3), 1);
        SecretDinner second = eveningOfALiar(1);
        for (int card : new int[] {0, 3, 4, 5, 6, 7}) {
            second.prove(3, card);
        }
        Check.due("card 1, of the cards 1 and 2", second.bestCards(3), 2);
    }

    /** The last set counts, too: the cards 6 and 7, if guest 0 has neither of them. */
    private static void bestCardsLastOfAll() {
        int s = 0;
        while ((Houses.hand(4, s, 0) & 192) != 0) {
            s++;
        }
        SecretDinner house = Houses.evening(4, s);
        house.ask(3, 255, true);
        house.prove(0, 6);
        house.prove(0, 7);
        Check.due("deals", house.deals(), 2700);
        Check.due("guest 3 holds card 6", house.dealsHeld(3, 6), 450);
        Check.due("guest 3 holds card 5", house.dealsHeld(3, 5), 300);
        Check.due("6 and 7", house.bestCards(3), 192);
        Check.due("their worst case", house.worst(3, 192), 1800);
        Check.due("that of 5 and 6", house.worst(3, 96), 1950);
    }

    /** Three cards or four may be better still, but are not looked at. */
    private static void bestCardsNotOfThree() {
        SecretDinner house = eveningOfALiar(3);
        Check.due("four cards", house.worst(3, 15), 2520);
        Check.due("three cards", house.worst(3, 7), 3150);
        Check.due("two cards", house.worst(3, 3), 3780);
        Check.due("the best one of those", house.bestCards(3), 3);
    }

    // ---- promise 19: leftByProof

    private static void leftByProofWhenItIsKnown() {
        SecretDinner house = Houses.eveningWithLastHand(7);
        house.prove(3, 7);
        Check.due("it is held for certain", house.leftByProof(3, 7), 630.0);
        Check.due("it is not held for certain", house.leftByProof(0, 7), 630.0);
        house.prove(3, 7);
        Check.due("as many are left", house.deals(), 630);
        Check.due("card 0, not held", house.leftByProof(3, 0), 630.0);
    }

    /** The greatest sum of squares: it is above 25 million, and below what an int holds. */
    private static void leftByProofGreatestSum() {
        SecretDinner house = Houses.evening(4, 122);
        for (int card = 0; card < 8; card++) {
            Check.due("guest 3", house.leftByProof(3, card), (396900.0 + 19448100.0) / 5040.0);
            Check.due("guest 0", house.leftByProof(0, card), (1587600.0 + 14288400.0) / 5040.0);
        }
        Check.due("before the first evening there is no guest", new SecretDinner().deals(), 0);
    }

    private static void leftByProofIsNoWholeNumber() {
        SecretDinner house = Houses.evening(3, 123);
        Check.due("guest 0", house.leftByProof(0, 0), 892.5);
        Check.due("guest 2", house.leftByProof(2, 7), 1050.0);
        int culprit = Houses.culprit(3, 123);
        house.prove(0, culprit);
        double with = house.dealsHeld(1, culprit);
        double without = house.deals() - with;
        Check.due("1050 deals", house.deals(), 1050);
        Check.due("guest 1", house.leftByProof(1, culprit), (with * with + without * without) / 1050.0);
    }

    // ---- all looks

    /** No look changes a thing, and none is saved. */
    private static void looksChangeNothing() {
        SecretDinner house = Houses.evening(4, 124);
        house.ask(0, 7, true);
        house.ask(0, 7, false);
        long before = house.digest();
        String seen = Houses.seen(house);
        Check.due("the same digest", house.digest(), before);
        Check.due("the same looks", Houses.seen(house), seen);
        Check.due("two saved states", house.undo(), 2);
    }
}
