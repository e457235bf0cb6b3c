/** The edges that the promises 1 to 9 name: each sentence has a test of its own. */
public final class EdgeEveningTest {
    private static final Class<IllegalArgumentException> ARGUMENT = IllegalArgumentException.class;
    private static final Class<IllegalStateException> STATE = IllegalStateException.class;
    private static final Class<IndexOutOfBoundsException> INDEX = IndexOutOfBoundsException.class;

    public static void main(String[] args) {
        noEveningHasBegun();
        objectsAreApart();
        threeOrFourGuests();
        sFromZeroToItsGreatest();
        noneLetsSAsItIs();
        beginAnswersTheFirstHand();
        beginAgainWhenItIsOver();
        setsFromOneTo255();
        askAnswersWhatItSaves();
        cardsFromZeroToSeven();
        proofsHaveNoLimit();
        theLastGuestLeaves();
        accuseFromZeroToSeven();
        nothingGoesOnBehindIt();
        guestNumbers();
        guestHere();
        guestAskedAndProved();
        guestCardsForCertain();
        guestCardsByTheOthersAlone();
        guestCardsItMayHold();
        guestLiedForCertain();
        guestLiedByAProof();
        guestLiedInTheOneDeal();
        guestByEachProof();
        guestHandIsHidden();
        valueOfGuests();
        valueOfQuestionsAndProofs();
        valueOfEveningsAndScore();
        valueOfThoseHere();
        valueOfTheCulprit();
        questionFirstAndLast();
        questionOfTheLatestEvening();
        Check.end();
    }

    private static int[] wild(int... more) {
        int[] far = {Integer.MIN_VALUE, Integer.MIN_VALUE + 1, -65536, -256, Integer.MAX_VALUE, 65536, 256};
        int[] all = new int[far.length + more.length];
        System.arraycopy(far, 0, all, 0, far.length);
        System.arraycopy(more, 0, all, far.length, more.length);
        return all;
    }

    // ---- promise 1: a new object

    private static void noEveningHasBegun() {
        SecretDinner house = new SecretDinner();
        Check.due("no guests", house.value(0), 0);
        Check.due("none goes on", house.value(1), 0);
        Check.due("none is over", house.value(4), 0);
        Check.due("score", house.value(6), 0);
        Check.due("nobody is here", house.value(8), 0);
        Check.due("no culprit", house.value(9), -1);
        Check.due("no text", house.play(), 0);
        Check.due("the play is the one saved state", house.undo(), 0);
        for (int number : wild(-1, 0, 1, 3, 4)) {
            Check.refused(house, "no guest", INDEX, () -> house.guest(number, 0));
            Check.refused(house, "no guest asked", INDEX, () -> house.ask(number, 1, false));
            Check.refused(house, "no guest proves", INDEX, () -> house.prove(number, 0));
            Check.refused(house, "no guest leaves", INDEX, () -> house.leave(number));
            Check.refused(house, "no question", INDEX, () -> house.question(number, 0));
        }
        Check.refused(house, "no evening", STATE, () -> house.accuse(0));
        Check.due("it can begin", house.begin(3, 0), 3);
    }

    private static void objectsAreApart() {
        SecretDinner one = Houses.evening(3, 80);
        long before = one.digest();
        SecretDinner other = Houses.evening(4, 81);
        other.ask(0, 15, true);
        other.append('a');
        other.prove(3, 3);
        Check.due("the first one is as it was", one.digest(), before);
        Check.due("a third one is new", new SecretDinner().digest(), new SecretDinner().digest());
        Check.due("and has no deals", new SecretDinner().deals(), 0);
        Check.due("all deals of the first one", one.deals(), 1680);
        Check.due("all deals of a fourth one", Houses.evening(4, 80).deals(), 5040);
    }

    // ---- promise 2: begin

    /** "3 or 4", for new objects and behind an evening. */
    private static void threeOrFourGuests() {
        SecretDinner house = new SecretDinner();
        for (int number : wild(-4, -3, -1, 0, 1, 2, 5, 6, 7, 8)) {
            Check.refused(house, "guests " + number, ARGUMENT, () -> house.begin(number, 0));
        }
        house.begin(3, 0);
        Check.due("three", house.value(0), 3);
        house.accuse(0);
        for (int number : wild(2, 5)) {
            Check.refused(house, "guests " + number, ARGUMENT, () -> house.begin(number, 0));
        }
        house.begin(4, 0);
        Check.due("four", house.value(0), 4);
    }

    /** "0 to 999999, or NONE". */
    private static void sFromZeroToItsGreatest() {
        SecretDinner house = new SecretDinner();
        for (int s : wild(-2, -3, 1000000, 1000001)) {
            if (s < -1 || s > 999999) {
                Check.refused(house, "s " + s, ARGUMENT, () -> house.begin(3, s));
            }
        }
        Check.due("s has stayed", house.value(7), 1);
        house.begin(3, 0);
        Check.due("the smallest", house.value(7), 1293799192);
        house.accuse(0);
        house.begin(3, 999999);
        Check.due("the greatest", house.value(7), 992819767);
        house.accuse(0);
        house.begin(3, 999998);
        Check.due("the greatest but one", house.value(7), 1800362774);
        house.accuse(0);
        house.begin(3, 1);
        Check.due("the smallest but one", house.value(7), 486256185);
    }

    /** "NONE to let s as it is": as the evening before has left it, be it ever so great. */
    private static void noneLetsSAsItIs() {
        SecretDinner house = new SecretDinner();
        house.begin(3, SecretDinner.NONE);
        house.accuse(0);
        house.begin(3, SecretDinner.NONE);
        house.accuse(0);
        house.begin(3, SecretDinner.NONE);
        Check.due("three times from 1", house.value(7), 675780521);
        house.undo();
        house.begin(4, SecretDinner.NONE);
        Check.due("the same once more", house.value(7), 675780521);
        house.undo();
        house.begin(4, 0);
        Check.due("0 is not NONE", house.value(7), 1293799192);
    }

    /** "Returns the size of the first guest's hand." */
    private static void beginAnswersTheFirstHand() {
        SecretDinner house = new SecretDinner();
        for (int round = 0; round < 4; round++) {
            int guests = 3 + round % 2;
            int answer = house.begin(guests, 82 + round);
            Check.due("begin for " + guests, answer, guests == 3 ? 3 : 2);
            Check.due("as guest() says", house.guest(0, 0), answer);
            house.accuse(0);
        }
    }

    /** "If an evening goes on": not if it is over, and not if its begin is undone. */
    private static void beginAgainWhenItIsOver() {
        SecretDinner house = new SecretDinner();
        house.begin(3, 83);
        Check.refused(house, "it goes on", STATE, () -> house.begin(3, 83));
        house.undo();
        Check.due("begin is undone", house.begin(4, 83), 2);
        Check.refused(house, "it goes on", STATE, () -> house.begin(3, SecretDinner.NONE));
        for (int guest = 0; guest < 4; guest++) {
            house.leave(guest);
        }
        Check.refused(house, "it goes on without guests, too", STATE, () -> house.begin(3, 83));
        house.accuse(0);
        Check.due("it is over", house.begin(3, 83), 3);
        house.accuse(1);
        house.undo();
        Check.refused(house, "it goes on again", STATE, () -> house.begin(3, 83));
    }

    // ---- promise 3: ask

    /** "A set of cards, 1 to 255". */
    private static void setsFromOneTo255() {
        SecretDinner house = Houses.evening(4, 84);
        for (int cards : wild(-2, -1, 0, 257, 511, 512)) {
            Check.refused(house, "cards " + cards, ARGUMENT, () -> house.ask(0, cards, false));
            Check.refused(house, "cards " + cards, ARGUMENT, () -> house.ask(3, cards, true));
        }
        int hand = Houses.hand(4, 84, 0);
        Check.due("the smallest set", house.ask(0, 1, false), hand & 1);
        Check.due("the greatest set", house.ask(0, 255, false), 2);
        Check.due("the last card alone", house.ask(0, 128, false), hand >> 7);
        Check.due("all but the first one", house.ask(0, 254, false), Integer.bitCount(hand & 254));
        Check.due("four questions", house.value(2), 4);
    }

    /** "Returns the answer": the same one that question() tells later. */
    private static void askAnswersWhatItSaves() {
        SecretDinner house = Houses.evening(3, 85);
        for (int i = 0; i < 20; i++) {
            int answer = house.ask(i % 3, 255 - i, i > 16);
            Check.due("answer " + i, house.question(i, 2), answer);
            Check.due("cards " + i, house.question(i, 1), 255 - i);
            Check.due("guest " + i, house.question(i, 0), i % 3);
        }
    }

    // ---- promises 4 and 5: prove, leave

    private static void cardsFromZeroToSeven() {
        for (int guests = 3; guests <= 4; guests++) {
            SecretDinner house = Houses.evening(guests, 86);
            for (int card : wild(-2, -1, 8, 9, 16, 32)) {
                Check.refused(house, "prove card " + card, INDEX, () -> house.prove(0, card));
                Check.refused(house, "prove card " + card, INDEX, () -> house.prove(2, card));
            }
            for (int guest = 0; guest < guests; guest++) {
                int hand = Houses.hand(guests, 86, guest);
                Check.due("the first card", house.prove(guest, 0), (hand & 1) != 0);
                Check.due("the last card", house.prove(guest, 7), (hand & 128) != 0);
            }
            int none = guests;
            Check.refused(house, "one guest too many", INDEX, () -> house.prove(none, 0));
            Check.refused(house, "the guest before the first", INDEX, () -> house.prove(-1, 0));
        }
    }

    /** Twenty questions are the limit, but there is none for proofs. */
    private static void proofsHaveNoLimit() {
        SecretDinner house = Houses.evening(3, 87);
        for (int i = 1; i <= 100; i++) {
            house.prove(2, 7);
            Check.due("proofs", house.value(3), i);
            Check.due("proofs of guest 2", house.guest(2, 3), i);
        }
        Check.due("questions", house.value(2), 0);
        Check.due("proofs of guest 1", house.guest(1, 3), 0);
    }

    /** "Returns the number of guests that are still here": 0 behind the last one. */
    private static void theLastGuestLeaves() {
        for (int guests = 3; guests <= 4; guests++) {
            SecretDinner house = Houses.evening(guests, 88);
            int none = guests;
            Check.refused(house, "one guest too many", INDEX, () -> house.leave(none));
            for (int number : wild(-1, 5)) {
                Check.refused(house, "leave " + number, INDEX, () -> house.leave(number));
            }
            for (int guest = guests - 1; guest >= 0; guest--) {
                Check.due("still here", house.leave(guest), guest);
                Check.due("as value() says", house.value(8), guest);
                int gone = guest;
                Check.refused(house, "gone", STATE, () -> house.leave(gone));
            }
            Check.due("accused all the same", house.accuse(0), Houses.culprit(guests, 88));
        }
    }

    // ---- promise 6: accuse

    private static void accuseFromZeroToSeven() {
        for (int card = 0; card < 8; card++) {
            SecretDinner house = Houses.evening(3, 89);
            for (int odd : wild(-1, 8, 9, card + 8, card - 8)) {
                Check.refused(house, "accuse " + odd, INDEX, () -> house.accuse(odd));
            }
            Check.due("the culprit's card", house.accuse(card), Houses.culprit(3, 89));
        }
    }

    /** "If no evening goes on": every move is refused then, but for begin, play and undo. */
    private static void nothingGoesOnBehindIt() {
        SecretDinner house = Houses.evening(3, 90);
        house.accuse(0);
        Check.refused(house, "ask", STATE, () -> house.ask(0, 1, false));
        Check.refused(house, "ask", STATE, () -> house.ask(2, 255, true));
        Check.refused(house, "prove", STATE, () -> house.prove(0, 0));
        Check.refused(house, "leave", STATE, () -> house.leave(0));
        Check.refused(house, "accuse", STATE, () -> house.accuse(0));
        Houses.write(house, "g0;");
        Check.due("play plays nothing", house.play(), 0);
        Check.due("play, accuse, begin were saved", house.undo(), 2);
        Check.due("accuse is undone", house.undo(), 1);
        Check.due("it goes on", house.leave(0), 2);
    }

    // ---- promise 7: guest

    private static void guestNumbers() {
        SecretDinner house = new SecretDinner();
        for (int guests = 3; guests <= 4; guests++) {
            house.begin(guests, 91);
            int none = guests;
            for (int what = 0; what < 8; what++) {
                int one = what;
                Check.refused(house, "guest -1", INDEX, () -> house.guest(-1, one));
                Check.refused(house, "one guest too many", INDEX, () -> house.guest(none, one));
            }
            for (int odd : wild(-1, 8, 9)) {
                Check.refused(house, "what " + odd, ARGUMENT, () -> house.guest(0, odd));
                Check.refused(house, "what " + odd, ARGUMENT, () -> house.guest(none - 1, odd));
                Check.refused(house, "the guest comes first", INDEX, () -> house.guest(none, odd));
            }
            Check.due("the first hand", house.guest(0, 0), Houses.size(guests, 0));
            Check.due("the last hand", house.guest(guests - 1, 0), Houses.size(guests, guests - 1));
            house.accuse(0);
        }
        house.begin(3, 91);
        Check.refused(house, "guest 3 is not invited again", INDEX, () -> house.guest(3, 0));
    }

    /** "1 if it is here, otherwise 0": behind the evening as at its end. */
    private static void guestHere() {
        SecretDinner house = Houses.evening(3, 92);
        house.leave(1);
        for (int round = 0; round < 2; round++) {
            Check.due("here", house.guest(0, 1), 1);
            Check.due("gone", house.guest(1, 1), 0);
            Check.due("here", house.guest(2, 1), 1);
            if (round == 0) {
                house.accuse(0);
            }
        }
    }

    private static void guestAskedAndProved() {
        SecretDinner house = Houses.evening(4, 93);
        for (int i = 0; i < 20; i++) {
            house.ask(3, 1, false);
            house.prove(0, 1);
        }
        int[] asked = {0, 0, 0, 20};
        int[] proved = {20, 0, 0, 0};
        for (int round = 0; round < 2; round++) {
            for (int guest = 0; guest < 4; guest++) {
                Check.due("asked", house.guest(guest, 2), asked[guest]);
                Check.due("proved", house.guest(guest, 3), proved[guest]);
            }
            house.accuse(0);
            house.begin(4, 93);
            asked[3] = 0;
            proved[0] = 0;
        }
    }

    /** "The cards that it holds for certain": none, some, all. */
    private static void guestCardsForCertain() {
        SecretDinner house = Houses.evening(3, 94);
        int hand = Houses.hand(3, 94, 0);
        Check.due("none", house.guest(0, 4), 0);
        int known = 0;
        for (int card = 0; card < 8; card++) {
            if ((hand >> card & 1) == 1) {
                house.prove(0, card);
                known |= 1 << card;
                Check.due("those that are proved", house.guest(0, 4), known);
            }
        }
        Check.due("no card of the others", house.guest(1, 4), 0);
        Check.due("no card of the others", house.guest(2, 4), 0);
    }

    /** "By the possible deals": without a proof of its own, when the places of all others are known. */
    private static void guestCardsByTheOthersAlone() {
        SecretDinner house = Houses.evening(4, 95);
        int last = Houses.hand(4, 95, 3);
        for (int guest = 0; guest < 3; guest++) {
            int hand = Houses.hand(4, 95, guest);
            for (int card = 0; card < 8; card++) {
                if ((hand >> card & 1) == 1) {
                    house.prove(guest, card);
                }
            }
        }
        Check.due("two cards are left for two places", house.deals(), 2);
        Check.due("none is certain", house.guest(3, 4), 0);
        Check.due("it may hold both", house.guest(3, 5), 1 << Houses.culprit(4, 95) | last);
        for (int guest = 0; guest < 3; guest++) {
            house.prove(guest, Houses.culprit(4, 95));
        }
        Check.due("still two", house.deals(), 2);
        house.prove(3, Houses.culprit(4, 95));
        Check.due("one deal", house.deals(), 1);
        Check.due("its card, which it has not shown", house.guest(3, 4), last);
        Check.due("its card", house.guest(3, 5), last);
        Check.due("no proof of the card itself", house.guest(3, 3), 1);
    }

    /** "The cards that it may hold": all, fewer, its hand alone. */
    private static void guestCardsItMayHold() {
        SecretDinner house = Houses.eveningWithLastHand(7);
        Check.due("all", house.guest(3, 5), 255);
        int left = 255;
        for (int card = 0; card < 7; card++) {
            house.prove(3, card);
            left &= ~(1 << card);
            Check.due("those that are not ruled out", house.guest(3, 5), left);
            Check.due("certain when it is the last one", house.guest(3, 4), card < 6 ? 0 : 128);
        }
        Check.due("not for the first guest", house.guest(0, 5), 127);
        Check.due("630 deals with it", house.deals(), 630);
    }

    /** "Each possible deal makes one of its answers wrong": all of them, not all but one. */
    private static void guestLiedForCertain() {
        SecretDinner house = Houses.eveningWithLastHand(0);
        Check.due("not asked", house.guest(3, 6), 0);
        house.ask(3, 1, true);
        Check.due("it may be the truth", house.guest(3, 6), 0);
        for (int card = 1; card < 7; card++) {
            house.prove(3, card);
            Check.due("it may hold the last card", house.guest(3, 6), 0);
        }
        house.prove(3, 7);
        Check.due("it holds the first card", house.guest(3, 6), 1);
        Check.due("the others have said nothing", house.guest(0, 6), 0);
        house.undo();
        Check.due("undone", house.guest(3, 6), 0);
    }

    /** A lie is certain only by the deals: one that has been told may look like the truth for ever. */
    private static void guestLiedByAProof() {
        SecretDinner house = Houses.evening(3, 96);
        int hand = Houses.hand(3, 96, 0);
        house.ask(0, Houses.lowest(hand, 1), true);
        Check.due("it has lied, but who knows", house.guest(0, 6), 0);
        house.prove(0, Integer.numberOfTrailingZeros(hand));
        Check.due("its own proof tells", house.guest(0, 6), 1);
        house.accuse(0);
        Check.due("behind the evening, too", house.guest(0, 6), 1);
        house.begin(3, 96);
        Check.due("not in the next evening", house.guest(0, 6), 0);
        house.ask(0, Houses.lowest(hand, 1), false);
        house.prove(0, Integer.numberOfTrailingZeros(hand));
        Check.due("a truth that is proved is no lie", house.guest(0, 6), 0);
    }

    private static void guestLiedInTheOneDeal() {
        SecretDinner house = Houses.evening(4, 96);
        house.ask(0, 1, true);
        house.ask(3, 1, false);
        for (int guest = 0; guest < 4; guest++) {
            for (int card = 0; card < 8; card++) {
                house.prove(guest, card);
            }
        }
        Check.due("one deal", house.deals(), 1);
        Check.due("guest 0 has lied", house.guest(0, 6), 1);
        Check.due("guest 3 has not", house.guest(3, 6), 0);
    }

    /** Each card, the first and the last one, too, is certain or ruled out by its proof. */
    private static void guestByEachProof() {
        for (int guests = 3; guests <= 4; guests++) {
            for (int s = 0; s < 12; s++) {
                for (int guest = 0; guest < guests; guest++) {
                    int hand = Houses.hand(guests, s, guest);
                    SecretDinner house = Houses.evening(guests, s);
                    house.prove(guest, 0);
                    Check.due("card 0 for certain", house.guest(guest, 4) & 1, hand & 1);
                    Check.due("card 0, maybe", house.guest(guest, 5) & 1, hand & 1);
                    house.prove(guest, 7);
                    Check.due("card 7 for certain", house.guest(guest, 4) & 128, hand & 128);
                    Check.due("card 7, maybe", house.guest(guest, 5) & 128, hand & 128);
                    Check.due("cards for certain", house.guest(guest, 4) & ~hand, 0);
                    Check.due("the hand, maybe", house.guest(guest, 5) & hand, hand);
                }
            }
        }
    }

    /** "Its hand as a set, or NONE while an evening goes on". */
    private static void guestHandIsHidden() {
        SecretDinner house = Houses.evening(3, 97);
        int hand = Houses.hand(3, 97, 2);
        Check.due("hidden", house.guest(2, 7), -1);
        house.leave(2);
        Check.due("hidden when it has left", house.guest(2, 7), -1);
        house.accuse(0);
        Check.due("shown", house.guest(2, 7), hand);
        house.begin(3, 98);
        Check.due("hidden", house.guest(2, 7), -1);
        house.undo();
        Check.due("the hand of the evening before", house.guest(2, 7), hand);
        house.undo();
        Check.due("hidden", house.guest(2, 7), -1);
    }

    // ---- promise 8: value

    /** "The guests (0 before the first evening)": behind an evening they stay. */
    private static void valueOfGuests() {
        SecretDinner house = new SecretDinner();
        for (int odd : wild(-1, 10, 11)) {
            Check.refused(house, "value " + odd, ARGUMENT, () -> house.value(odd));
        }
        Check.due("before", house.value(0), 0);
        house.begin(4, 99);
        house.leave(0);
        Check.due("those who left, too", house.value(0), 4);
        house.accuse(0);
        Check.due("behind the evening", house.value(0), 4);
        Check.due("none goes on", house.value(1), 0);
        house.begin(3, 99);
        Check.due("the next one", house.value(0), 3);
        Check.due("one goes on", house.value(1), 1);
        house.undo();
        Check.due("undone", house.value(0), 4);
        for (int odd : wild(-1, 10, 11)) {
            Check.refused(house, "value " + odd, ARGUMENT, () -> house.value(odd));
        }
    }

    /** "Of this evening (or the latest one)". */
    private static void valueOfQuestionsAndProofs() {
        SecretDinner house = Houses.evening(3, 100);
        house.ask(0, 1, false);
        house.ask(1, 1, false);
        house.prove(0, 1);
        Check.due("two questions", house.value(2), 2);
        Check.due("one proof", house.value(3), 1);
        house.accuse(0);
        Check.due("of the latest evening", house.value(2), 2);
        Check.due("of the latest evening", house.value(3), 1);
        house.begin(3, 100);
        Check.due("of this evening", house.value(2), 0);
        Check.due("of this evening", house.value(3), 0);
        house.undo();
        Check.due("of the latest evening again", house.value(2), 2);
        Check.due("of the latest evening again", house.value(3), 1);
    }

    /** "The evenings that are over", "the culprits found so far", "the score". */
    private static void valueOfEveningsAndScore() {
        SecretDinner house = new SecretDinner();
        int culprit = Houses.culprit(3, 101);
        house.begin(3, 101);
        Check.due("none is over yet", house.value(4), 0);
        house.accuse(culprit);
        Check.due("one is over", house.value(4), 1);
        Check.due("one is found", house.value(5), 1);
        Check.due("score", house.value(6), 21);
        house.begin(3, 101);
        Check.due("one is over", house.value(4), 1);
        house.accuse(7 - culprit);
        Check.due("two are over", house.value(4), 2);
        Check.due("one is found", house.value(5), 1);
        Check.due("score", house.value(6), 11);
        house.undo();
        Check.due("undone: one is over", house.value(4), 1);
        Check.due("undone: score", house.value(6), 21);
        house.undo();
        house.undo();
        Check.due("undone: none is over", house.value(4), 0);
        Check.due("undone: none is found", house.value(5), 0);
        Check.due("undone: no score", house.value(6), 0);
    }

    /** "The guests that are here (behind an evening: that had not left)". */
    private static void valueOfThoseHere() {
        SecretDinner house = Houses.evening(4, 102);
        Check.due("all", house.value(8), 4);
        house.leave(3);
        house.leave(0);
        Check.due("two", house.value(8), 2);
        house.accuse(0);
        Check.due("that had not left", house.value(8), 2);
        house.begin(3, 102);
        Check.due("all of the next evening", house.value(8), 3);
        house.undo();
        Check.due("undone", house.value(8), 2);
    }

    /** "NONE while one goes on, and before the first one is over". */
    private static void valueOfTheCulprit() {
        SecretDinner house = new SecretDinner();
        Check.due("before the first one", house.value(9), -1);
        house.begin(3, 0);
        Check.due("while it goes on", house.value(9), -1);
        house.undo();
        Check.due("begin is undone", house.value(9), -1);
        house.begin(3, 0);
        house.accuse(7);
        Check.due("card 0", house.value(9), 0);
        house.begin(4, 5);
        Check.due("while the next one goes on", house.value(9), -1);
        house.undo();
        Check.due("of the latest one again", house.value(9), 0);
        house.begin(4, 5);
        house.accuse(0);
        Check.due("card 7", house.value(9), 7);
        house.undo();
        Check.due("it goes on again", house.value(9), -1);
    }

    // ---- promise 9: question

    /** "From 0": the first, the last, and the one behind it. */
    private static void questionFirstAndLast() {
        SecretDinner house = Houses.evening(3, 103);
        for (int i = 0; i <= 20; i++) {
            int none = i;
            for (int odd : wild(-1, 20, 21)) {
                Check.refused(house, "question " + odd, INDEX, () -> house.question(odd, 0));
            }
            Check.refused(house, "the one behind the last", INDEX, () -> house.question(none, 0));
            Check.refused(house, "it comes before what", INDEX, () -> house.question(none, 3));
            if (i == 5) {
                break;
            }
            house.ask(i % 3, i + 1, false);
            Check.due("the first, guest", house.question(0, 0), 0);
            Check.due("the first, cards", house.question(0, 1), 1);
            Check.due("the last, guest", house.question(i, 0), i % 3);
            Check.due("the last, cards", house.question(i, 1), i + 1);
            Check.due("the last, answer", house.question(i, 2),
                    Integer.bitCount(Houses.hand(3, 103, i % 3) & i + 1));
        }
        Check.refused(house, "the one before the first", INDEX, () -> house.question(-1, 0));
        for (int odd : wild(-1, 3, 4)) {
            Check.refused(house, "what " + odd, ARGUMENT, () -> house.question(0, odd));
            Check.refused(house, "what " + odd, ARGUMENT, () -> house.question(4, odd));
        }
    }

    /** "Of this evening, or of the latest one". */
    private static void questionOfTheLatestEvening() {
        SecretDinner house = Houses.evening(4, 104);
        int[] answers = new int[20];
        for (int i = 0; i < 20; i++) {
            answers[i] = house.ask(3 - i % 2, 200 + i, i == 0);
        }
        Check.due("the last question", house.question(19, 1), 219);
        Check.refused(house, "the one behind it", INDEX, () -> house.question(20, 1));
        house.accuse(0);
        Check.due("the last question", house.question(19, 1), 219);
        Check.refused(house, "the one behind it", INDEX, () -> house.question(20, 1));
        house.begin(4, 104);
        Check.refused(house, "none yet", INDEX, () -> house.question(0, 1));
        Check.due("other answer", house.ask(0, 254 & ~Houses.hand(4, 104, 0), false), 0);
        Check.due("of this evening", house.question(0, 1), 254 & ~Houses.hand(4, 104, 0));
        Check.refused(house, "one alone", INDEX, () -> house.question(1, 1));
        house.undo();
        house.undo();
        for (int i = 0; i < 20; i++) {
            Check.due("guest of the latest one again", house.question(i, 0), 3 - i % 2);
            Check.due("cards of the latest one again", house.question(i, 1), 200 + i);
            Check.due("answer of the latest one again", house.question(i, 2), answers[i]);
        }
        Check.due("the first answer was another one", answers[0] > 0, true);
    }
}
