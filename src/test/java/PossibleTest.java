/** Promises 10 to 19: the counts of possible deals, chances, and what questions and proofs would leave. */
public final class PossibleTest {
    private static final Class<IllegalArgumentException> ARGUMENT = IllegalArgumentException.class;
    private static final Class<IndexOutOfBoundsException> INDEX = IndexOutOfBoundsException.class;
    private static final int[] ODD_CARDS = {-1, 8, Integer.MIN_VALUE, Integer.MAX_VALUE};

    public static void main(String[] args) {
        allDeals();
        dealsBehindProofs();
        oneWrongAnswerIsForgiven();
        wrongAnswersOfTwoGuests();
        whatIsHiddenDoesNotMatter();
        culpritsAndLikeliest();
        chance();
        cardLimits();
        dealsIf();
        dealsIfWhenNobodyCanBeAsked();
        dealsIfLimits();
        bestCards();
        leftByProof();
        Check.end();
    }

    // ---- promises 10 to 12

    private static void allDeals() {
        int[][] sizes = {{3, 2, 2}, {2, 2, 2, 1}};
        int[] all = {1680, 5040};
        for (int guests = 3; guests <= 4; guests++) {
            SecretDinner house = Houses.evening(guests, 4);
            int deals = all[guests - 3];
            Check.due("deals", house.deals(), deals);
            for (int card = 0; card < 8; card++) {
                Check.due("dealsWith", house.dealsWith(card), deals / 8);
                for (int guest = 0; guest < guests; guest++) {
                    Check.due("dealsHeld", house.dealsHeld(guest, card), deals / 8 * sizes[guests - 3][guest]);
                }
            }
        }
    }

    private static void dealsBehindProofs() {
        SecretDinner house = Houses.evening(3, 6);
        int hand = Houses.peek(house, 0);
        int held = Integer.numberOfTrailingZeros(hand);
        int other = Integer.numberOfTrailingZeros(~hand);
        house.prove(0, held);
        // Seven cards are left: two more for the guest, two and two for the others, one face down.
        Check.due("held", house.deals(), 630);
        Check.due("held: not the culprit's", house.dealsWith(held), 0);
        Check.due("held: another may be", house.dealsWith(other), 90);
        Check.due("held: by the guest", house.dealsHeld(0, held), 630);
        Check.due("held: not by the next", house.dealsHeld(1, held), 0);
        Check.due("held: another by the next", house.dealsHeld(1, other), 180);
        house.undo();
        house.prove(0, other);
        // Of the 1680 deals the guest holds the card in three of eight.
        Check.due("not held", house.deals(), 1050);
        Check.due("not held: by the guest", house.dealsHeld(0, other), 0);
        Check.due("not held: face down", house.dealsWith(other), 210);
        Check.due("not held: by the next", house.dealsHeld(1, other), 420);
        house.prove(0, other);
        Check.due("the same proof rules nothing out", house.deals(), 1050);
    }

    private static void oneWrongAnswerIsForgiven() {
        SecretDinner house = Houses.evening(4, 6);
        int hand = Houses.peek(house, 3);
        int other = Integer.lowestOneBit(~hand & 255);
        house.ask(3, hand, false);
        Check.due("one answer", house.deals(), 5040);
        house.ask(3, hand, false);
        // Either both answers are right, or both are wrong, and that is one too many.
        Check.due("the same answer twice", house.deals(), 630);
        house.undo();
        house.ask(3, hand, true);
        Check.due("two answers, one of them wrong", house.deals(), 5040);
        house.ask(3, hand, false);
        Check.due("two to one", house.deals(), 630);
        house.ask(3, other, false);
        // The one wrong answer is spent: each more has to be right.
        Check.due("a right one more", house.deals(), 630);
        Check.due("nobody else has it", house.dealsHeld(0, Integer.numberOfTrailingZeros(hand)), 0);
    }

    private static void wrongAnswersOfTwoGuests() {
        SecretDinner house = Houses.evening(4, 9);
        int first = Integer.lowestOneBit(Houses.peek(house, 0));
        int second = Integer.lowestOneBit(Houses.peek(house, 1));
        house.ask(0, first, false);
        house.ask(1, first, false);
        house.ask(1, second, true);
        Check.due("each guest has a wrong answer of its own", house.deals() > 5040 / 2, true);
        house.ask(0, first, false);
        int deals = house.deals();
        Check.due("the first card is held", house.dealsHeld(0, Integer.numberOfTrailingZeros(first)), deals);
        // The deals with the first guest holding it, without those in which both answers of the second
        // are wrong: it cannot hold the first card, so its first answer is right in all of them.
        Check.due("deals", deals, 5040 / 4);
    }

    private static void whatIsHiddenDoesNotMatter() {
        SecretDinner house = Houses.evening(3, 14);
        int hand = Houses.peek(house, 2);
        int other = Integer.lowestOneBit(~hand & 255);
        house.ask(2, other, true);
        house.ask(2, other, false);
        int deals = house.deals();
        house.leave(2);
        Check.due("who has left does not matter", house.deals(), deals);
        int culprit = Houses.peekCulprit(house);
        house.accuse((culprit + 1) % 8);
        Check.due("nor whether the evening is over", house.deals(), deals);
        Check.due("nor that the culprit is known", Integer.bitCount(house.culprits()) > 1, true);
        Check.due("dealsWith behind the evening", house.dealsWith(culprit) > 0, true);
        int sum = 0;
        for (int card = 0; card < 8; card++) {
            sum += house.dealsWith(card);
        }
        Check.due("each deal has one culprit's card", sum, deals);
        house.begin(4, 14);
        Check.due("a new evening, all deals", house.deals(), 5040);
    }

    // ---- promises 13 and 14

    private static void culpritsAndLikeliest() {
        SecretDinner house = Houses.evening(3, 15);
        Check.due("culprits", house.culprits(), 255);
        Check.due("likeliest", house.likeliest(), 0);
        int culprit = Houses.peekCulprit(house);
        int left = 255;
        for (int guest = 0; guest < 3; guest++) {
            int hand = Houses.peek(house, guest);
            for (int card = 0; card < 8; card++) {
                if ((hand >> card & 1) == 1) {
                    house.prove(guest, card);
                    left &= ~(1 << card);
                    Check.due("culprits that are left", house.culprits(), left);
                    Check.due("the lowest one of them", house.likeliest(), Integer.numberOfTrailingZeros(left));
                }
            }
        }
        Check.due("the culprit alone", house.culprits(), 1 << culprit);
        Check.due("the culprit", house.likeliest(), culprit);
        Check.due("its chance", house.chance(culprit), 1.0);
        likeliestIsNotTheLowest();
    }

    private static void likeliestIsNotTheLowest() {
        for (int s = 0; s < 40; s++) {
            SecretDinner house = Houses.evening(4, s);
            int culprit = Houses.peekCulprit(house);
            // Nobody holds the culprit's card, and each says so by a proof: it is certain then.
            for (int guest = 0; guest < 4; guest++) {
                house.prove(guest, culprit);
                int best = 0;
                for (int card = 1; card < 8; card++) {
                    best = house.dealsWith(card) > house.dealsWith(best) ? card : best;
                }
                Check.due("likeliest", house.likeliest(), best);
                Check.due("likeliest", house.likeliest(), culprit);
            }
            Check.due("certain", house.culprits(), 1 << culprit);
        }
    }

    // ---- promise 15

    private static void chance() {
        SecretDinner house = Houses.evening(3, 15);
        Check.due("an eighth", house.chance(0), 0.125);
        int hand = Houses.peek(house, 0);
        int held = Integer.numberOfTrailingZeros(hand);
        int other = Integer.numberOfTrailingZeros(~hand);
        house.prove(0, held);
        Check.due("a seventh", house.chance(other), 90.0 / 630.0);
        Check.due("none", house.chance(held), 0.0);
        house.undo();
        house.prove(0, other);
        Check.due("a fifth", house.chance(other), 210.0 / 1050.0);
        Check.due("less", house.chance(held), 120.0 / 1050.0);
        Check.due("new", new SecretDinner().chance(7), 0.0);
    }

    private static void cardLimits() {
        SecretDinner house = new SecretDinner();
        Check.refused(house, "dealsHeld before all", INDEX, () -> house.dealsHeld(0, 0));
        Check.refused(house, "leftByProof before all", INDEX, () -> house.leftByProof(0, 0));
        Check.refused(house, "bestCards before all", INDEX, () -> house.bestCards(0));
        for (int round = 0; round < 3; round++) {
            for (int odd : ODD_CARDS) {
                Check.refused(house, "dealsWith " + odd, INDEX, () -> house.dealsWith(odd));
                Check.refused(house, "chance " + odd, INDEX, () -> house.chance(odd));
                Check.refused(house, "dealsHeld card " + odd, INDEX, () -> house.dealsHeld(0, odd));
                Check.refused(house, "dealsHeld guest " + odd, INDEX, () -> house.dealsHeld(odd, 0));
                Check.refused(house, "leftByProof card " + odd, INDEX, () -> house.leftByProof(0, odd));
                Check.refused(house, "leftByProof guest " + odd, INDEX, () -> house.leftByProof(odd, 0));
                Check.refused(house, "bestCards " + odd, INDEX, () -> house.bestCards(odd));
            }
            Check.refused(house, "dealsHeld guest 3", INDEX, () -> house.dealsHeld(3, 0));
            Check.refused(house, "leftByProof guest 3", INDEX, () -> house.leftByProof(3, 0));
            Check.refused(house, "bestCards guest 3", INDEX, () -> house.bestCards(3));
            if (round == 0) {
                house.begin(3, 2);
            } else if (round == 1) {
                house.accuse(2);
            }
        }
    }

    // ---- promises 16 and 17

    private static void dealsIf() {
        SecretDinner house = Houses.evening(3, 19);
        for (int answer = 0; answer <= 8; answer++) {
            Check.due("the first answer may be wrong", house.dealsIf(0, 1, answer), 1680);
        }
        int hand = Houses.peek(house, 0);
        house.ask(0, hand, false);
        // The answer 3 is right in 30 of the deals, and wrong in the others.
        Check.due("again the same", house.dealsIf(0, hand, 3), 30);
        Check.due("again, but another", house.dealsIf(0, hand, 8), 30);
        Check.due("the others have given none", house.dealsIf(1, hand, 8), 1680);
        Check.due("worst", house.worst(0, hand), 30 + sumOfTwo());
        Check.due("worst for all cards", house.worst(0, 255), 1680);
        Check.due("all cards, 3", house.dealsIf(0, 255, 3), 1680);
        Check.due("all cards, 2", house.dealsIf(0, 255, 2), 30);
        sameAsAsking();
    }

    /** Of 56 hands of three 15 share two cards with a known one, 30 one, 10 none: 30 deals to each. */
    private static int sumOfTwo() {
        return 30 * 30;
    }

    private static void sameAsAsking() {
        for (int guest = 0; guest < 3; guest++) {
            for (int cards = 1; cards <= 255; cards += 7) {
                SecretDinner house = Houses.evening(3, 19);
                house.ask(0, Houses.hand(3, 19, 0), false);
                house.ask(1, 60, true);
                house.ask(1, 85, false);
                house.ask(2, 7, false);
                int most = 0;
                for (int answer = 0; answer <= 8; answer++) {
                    most = Math.max(most, house.dealsIf(guest, cards, answer));
                }
                Check.due("worst is the greatest dealsIf", house.worst(guest, cards), most);
                int answer = Integer.bitCount(Houses.hand(3, 19, guest) & cards);
                int expected = house.dealsIf(guest, cards, answer);
                house.ask(guest, cards, false);
                Check.due("dealsIf foretells deals", house.deals(), expected);
            }
        }
    }

    private static void dealsIfWhenNobodyCanBeAsked() {
        SecretDinner house = Houses.evening(4, 20);
        for (int i = 0; i < 20; i++) {
            house.ask(i % 2, 1 << i % 8, false);
        }
        int expected = house.dealsIf(2, 15, 0);
        Check.due("20 questions have been asked", expected, house.deals());
        house.leave(2);
        Check.due("the guest has left", house.dealsIf(2, 15, 0), expected);
        int worst = house.worst(0, 15);
        int best = house.bestCards(0);
        house.accuse(0);
        Check.due("the evening is over", house.dealsIf(2, 15, 0), expected);
        Check.due("worst behind it", house.worst(0, 15), worst);
        Check.due("bestCards behind it", house.bestCards(0), best);
    }

    private static void dealsIfLimits() {
        SecretDinner house = new SecretDinner();
        Check.refused(house, "dealsIf before all", INDEX, () -> house.dealsIf(0, 0, 9));
        Check.refused(house, "worst before all", INDEX, () -> house.worst(0, 0));
        house.begin(3, 2);
        for (int odd : new int[] {-1, 0, 256, Integer.MIN_VALUE, Integer.MAX_VALUE}) {
            Check.refused(house, "dealsIf cards " + odd, ARGUMENT, () -> house.dealsIf(0, odd, 0));
            Check.refused(house, "worst cards " + odd, ARGUMENT, () -> house.worst(0, odd));
        }
        for (int odd : new int[] {-1, 9, Integer.MIN_VALUE, Integer.MAX_VALUE}) {
            Check.refused(house, "dealsIf answer " + odd, ARGUMENT, () -> house.dealsIf(0, 1, odd));
            Check.refused(house, "dealsIf guest " + odd, INDEX, () -> house.dealsIf(odd, 0, -1));
            Check.refused(house, "worst guest " + odd, INDEX, () -> house.worst(odd, 0));
        }
        Check.refused(house, "dealsIf guest 3", INDEX, () -> house.dealsIf(3, 1, 0));
        Check.refused(house, "worst guest 3", INDEX, () -> house.worst(3, 256));
        house.dealsIf(0, 255, 8);
        house.dealsIf(2, 1, 0);
        Check.due("it asks nothing", house.value(2), 0);
        Check.due("it saves nothing", house.undo(), 0);
    }

    // ---- promise 18

    private static void bestCards() {
        SecretDinner house = Houses.evening(4, 22);
        for (int guest = 0; guest < 4; guest++) {
            Check.due("all questions alike", house.bestCards(guest), 1);
        }
        for (int s = 0; s < 30; s++) {
            SecretDinner other = Houses.evening(3 + s % 2, s);
            for (int i = 0; i < 1 + s % 7; i++) {
                other.ask(s % 3, 1 + (s * 37 + i * 91) % 255, i == 2);
            }
            for (int guest = 0; guest < 3; guest++) {
                Check.due("bestCards", other.bestCards(guest), leastOfAll(other, guest));
            }
        }
    }

    private static int leastOfAll(SecretDinner house, int guest) {
        int best = 0;
        for (int cards = 255; cards >= 1; cards--) {
            int size = Integer.bitCount(cards);
            if (size <= 2 && (best == 0 || house.worst(guest, cards) <= house.worst(guest, best))) {
                best = cards;
            }
        }
        return best;
    }

    // ---- promise 19

    private static void leftByProof() {
        SecretDinner house = Houses.evening(3, 23);
        Check.due("guest 0", house.leftByProof(0, 4), (630.0 * 630.0 + 1050.0 * 1050.0) / 1680.0);
        Check.due("guest 1", house.leftByProof(1, 4), (420.0 * 420.0 + 1260.0 * 1260.0) / 1680.0);
        int hand = Houses.peek(house, 0);
        int held = Integer.numberOfTrailingZeros(hand);
        house.prove(0, held);
        Check.due("it is known", house.leftByProof(0, held), 630.0);
        Check.due("it is known of others, too", house.leftByProof(1, held), 630.0);
        SecretDinner four = Houses.evening(4, 23);
        Check.due("guest 3 of 4", four.leftByProof(3, 0), (630.0 * 630.0 + 4410.0 * 4410.0) / 5040.0);
    }
}
