/** Promises 1 to 9: a new object, begin, ask, prove, leave, accuse, guest, value, question. */
public final class EveningTest {
    private static final Class<IllegalArgumentException> ARGUMENT = IllegalArgumentException.class;
    private static final Class<IllegalStateException> STATE = IllegalStateException.class;
    private static final Class<IndexOutOfBoundsException> INDEX = IndexOutOfBoundsException.class;

    public static void main(String[] args) {
        newObject();
        beginDeals();
        beginLimits();
        beginEmptiesTheEvening();
        askTruthAndLies();
        askLimits();
        askTwentyTimes();
        prove();
        proveLimits();
        leave();
        leaveLimits();
        accuse();
        accuseLimits();
        guest();
        guestByPossibleDeals();
        value();
        question();
        Check.end();
    }

    // ---- promise 1

    private static void newObject() {
        SecretDinner house = new SecretDinner();
        Check.due("NONE", SecretDinner.NONE, -1);
        int[] values = {0, 0, 0, 0, 0, 0, 0, 1, 0, -1};
        for (int what = 0; what < 10; what++) {
            Check.due("new: value " + what, house.value(what), values[what]);
        }
        Check.due("new: deals", house.deals(), 0);
        Check.due("new: culprits", house.culprits(), 0);
        Check.due("new: likeliest", house.likeliest(), -1);
        for (int card = 0; card < 8; card++) {
            Check.due("new: dealsWith " + card, house.dealsWith(card), 0);
            Check.due("new: chance " + card, house.chance(card), 0.0);
        }
        Check.due("new: clearText", house.clearText(), 0);
        Check.refused(house, "new: undo", STATE, house::undo);
        Check.refused(house, "new: accuse", STATE, () -> house.accuse(0));
        Check.refused(house, "new: guest", INDEX, () -> house.guest(0, 0));
        Check.refused(house, "new: question", INDEX, () -> house.question(0, 0));
        Check.due("two objects do not share", new SecretDinner().begin(3, 9), 3);
        Check.due("new: value 0", house.value(0), 0);
    }

    // ---- promise 2

    private static void beginDeals() {
        int[] seeds = {0, 1, 2, 7, 99, 4096, 65536, 123456, 654321, 999998, 999999};
        for (int guests = 3; guests <= 4; guests++) {
            for (int seed : seeds) {
                SecretDinner house = new SecretDinner();
                Check.due("begin answers", house.begin(guests, seed), guests == 3 ? 3 : 2);
                dueDealt(house, Houses.dealt(guests, seed));
                long next = house.value(7);
                house.begin(7 - guests, SecretDinner.NONE);
                dueDealt(house, Houses.dealt(7 - guests, next));
            }
        }
        SecretDinner house = new SecretDinner();
        house.begin(4, SecretDinner.NONE);
        dueDealt(house, Houses.dealt(4, 1));
    }

    private static void dueDealt(SecretDinner house, long[] due) {
        int guests = due.length - 2;
        Check.due("value 0", house.value(0), guests);
        Check.due("value 1", house.value(1), 1);
        Check.due("value 7", house.value(7), due[0]);
        Check.due("value 8", house.value(8), guests);
        Check.due("value 9", house.value(9), -1);
        Check.due("the culprit's card", house.accuse(0), due[1]);
        for (int guest = 0; guest < guests; guest++) {
            Check.due("hand " + guest, house.guest(guest, 7), due[2 + guest]);
        }
    }

    private static void beginLimits() {
        SecretDinner house = new SecretDinner();
        int[] guests = {2, 5, 0, -1, -3, Integer.MIN_VALUE, Integer.MAX_VALUE};
        int[] seeds = {-2, 1000000, Integer.MIN_VALUE, Integer.MAX_VALUE};
        for (int round = 0; round < 2; round++) {
            for (int number : guests) {
                Check.refused(house, "begin with " + number, ARGUMENT, () -> house.begin(number, 5));
            }
            for (int seed : seeds) {
                Check.refused(house, "begin with s " + seed, ARGUMENT, () -> house.begin(3, seed));
            }
            if (round == 0) {
                house.begin(3, 5);
            }
        }
        Check.refused(house, "begin again", STATE, () -> house.begin(3, 5));
        Check.refused(house, "begin again", STATE, () -> house.begin(4, SecretDinner.NONE));
    }

    private static void beginEmptiesTheEvening() {
        SecretDinner house = new SecretDinner();
        house.begin(4, 5);
        house.ask(0, 255, true);
        house.prove(1, 1);
        house.leave(2);
        house.accuse(3);
        int score = house.value(6);
        int found = house.value(5);
        long before = house.digest();
        house.begin(3, 5);
        for (int guest = 0; guest < 3; guest++) {
            Check.due("here again", house.guest(guest, 1), 1);
            Check.due("not asked yet", house.guest(guest, 2), 0);
            Check.due("no proofs yet", house.guest(guest, 3), 0);
            Check.due("nothing is certain", house.guest(guest, 4), 0);
            Check.due("all is possible", house.guest(guest, 5), 255);
            Check.due("no liar for certain", house.guest(guest, 6), 0);
        }
        Check.due("no questions", house.value(2), 0);
        Check.due("no proofs", house.value(3), 0);
        Check.due("evenings stay", house.value(4), 1);
        Check.due("found stays", house.value(5), found);
        Check.due("score stays", house.value(6), score);
        Check.due("all deals", house.deals(), 1680);
        Check.due("can lie again", house.ask(0, 255, true), 0);
        house.undo();
        house.undo();
        // The last value of the digest is the number of saved states: 4 before, 2 now.
        Check.due("begin is undone", house.digest(), before - 2);
    }

    // ---- promise 3

    private static void askTruthAndLies() {
        for (int guests = 3; guests <= 4; guests++) {
            for (int guest = 0; guest < guests; guest++) {
                int hand = Houses.hand(guests, 31 * guests, guest);
                for (int cards = 1; cards <= 255; cards += guest + 1) {
                    SecretDinner house = Houses.evening(guests, 31 * guests);
                    int right = Integer.bitCount(hand & cards);
                    int most = Math.min(house.guest(guest, 0), Integer.bitCount(cards));
                    Check.due("the truth", house.ask(guest, cards, false), right);
                    Check.due("the lie", house.ask(guest, cards, true), right + 1 > most ? 0 : right + 1);
                }
            }
        }
    }

    private static void askLimits() {
        SecretDinner house = new SecretDinner();
        Check.refused(house, "ask before all", INDEX, () -> house.ask(0, 1, false));
        Check.refused(house, "ask before all", INDEX, () -> house.ask(0, 0, false));
        house.begin(3, 11);
        int[] guests = {-1, 3, 4, Integer.MIN_VALUE, Integer.MAX_VALUE};
        int[] sets = {0, -1, 256, Integer.MIN_VALUE, Integer.MAX_VALUE};
        house.leave(2);
        for (int guest : guests) {
            Check.refused(house, "ask guest " + guest, INDEX, () -> house.ask(guest, 1, false));
            Check.refused(house, "ask guest " + guest, INDEX, () -> house.ask(guest, 0, true));
        }
        for (int cards : sets) {
            Check.refused(house, "ask for " + cards, ARGUMENT, () -> house.ask(0, cards, false));
            Check.refused(house, "ask for " + cards, ARGUMENT, () -> house.ask(2, cards, false));
        }
        Check.refused(house, "ask one who left", STATE, () -> house.ask(2, 1, false));
        house.ask(0, 1, true);
        Check.refused(house, "lie twice", STATE, () -> house.ask(0, 2, true));
        house.ask(0, 2, false);
        house.ask(1, 2, true);
        Check.refused(house, "lie twice", STATE, () -> house.ask(1, 2, true));
        house.undo();
        Check.due("a lie undone", house.ask(1, 2, true) >= 0, true);
        house.accuse(0);
        Check.refused(house, "ask behind the evening", STATE, () -> house.ask(0, 1, false));
        Check.refused(house, "ask for nothing behind it", ARGUMENT, () -> house.ask(0, 0, false));
        Check.refused(house, "ask guest 3 behind it", INDEX, () -> house.ask(3, 0, false));
    }

    private static void askTwentyTimes() {
        SecretDinner house = new SecretDinner();
        house.begin(4, 12);
        for (int i = 0; i < 20; i++) {
            house.ask(i % 4, 1 + 11 * i, i == 19);
            Check.due("questions", house.value(2), i + 1);
        }
        Check.refused(house, "question 21", STATE, () -> house.ask(0, 1, false));
        Check.refused(house, "question 21", ARGUMENT, () -> house.ask(0, 0, false));
        Check.refused(house, "question 21", INDEX, () -> house.ask(4, 0, false));
        Check.due("a proof behind 20 questions", house.prove(0, 1) ? 1 : 0, Houses.peek(house, 0) >> 1 & 1);
        house.undo();
        house.undo();
        Check.due("a question undone", house.value(2), 19);
        house.ask(3, 255, true);
        Check.refused(house, "question 21", STATE, () -> house.ask(0, 1, false));
    }

    // ---- promise 4

    private static void prove() {
        for (int guests = 3; guests <= 4; guests++) {
            SecretDinner house = new SecretDinner();
            house.begin(guests, 77);
            int proofs = 0;
            for (int guest = 0; guest < guests; guest++) {
                int hand = Houses.peek(house, guest);
                for (int card = 0; card < 8; card++) {
                    Check.due("proof", house.prove(guest, card), (hand >> card & 1) == 1);
                    proofs++;
                    Check.due("proofs", house.value(3), proofs);
                    Check.due("proofs of one", house.guest(guest, 3), card + 1);
                    Check.due("held for certain", house.dealsHeld(guest, card),
                            (hand >> card & 1) == 1 ? house.deals() : 0);
                }
                Check.due("its hand is known", house.guest(guest, 4), hand);
            }
            Check.due("one deal is left", house.deals(), 1);
            house.prove(0, 0);
            Check.due("the same proof counts again", house.value(3), proofs + 1);
            house.undo();
            Check.due("undone", house.value(3), proofs);
        }
    }

    private static void proveLimits() {
        SecretDinner house = new SecretDinner();
        Check.refused(house, "prove before all", INDEX, () -> house.prove(0, 0));
        house.begin(3, 1);
        house.leave(1);
        for (int odd : new int[] {-1, 8, Integer.MIN_VALUE, Integer.MAX_VALUE}) {
            Check.refused(house, "prove card " + odd, INDEX, () -> house.prove(0, odd));
            Check.refused(house, "prove card " + odd, INDEX, () -> house.prove(1, odd));
            Check.refused(house, "prove guest " + odd, INDEX, () -> house.prove(odd, 0));
        }
        Check.refused(house, "prove guest 3", INDEX, () -> house.prove(3, 0));
        Check.refused(house, "one who left proves", STATE, () -> house.prove(1, 0));
        house.accuse(0);
        Check.refused(house, "prove behind the evening", STATE, () -> house.prove(0, 0));
        Check.refused(house, "prove card 8 behind it", INDEX, () -> house.prove(0, 8));
    }

    // ---- promise 5

    private static void leave() {
        SecretDinner house = new SecretDinner();
        house.begin(4, 3);
        house.ask(2, 15, false);
        int deals = house.deals();
        int[] order = {2, 0, 3, 1};
        for (int i = 0; i < 4; i++) {
            Check.due("leave", house.leave(order[i]), 3 - i);
            Check.due("here", house.guest(order[i], 1), 0);
            Check.due("how many are here", house.value(8), 3 - i);
            Check.due("a guest who leaves shows nothing", house.deals(), deals);
        }
        Check.due("the evening goes on", house.value(1), 1);
        Check.due("undo", house.undo(), 3);
        Check.due("here again", house.guest(1, 1), 1);
        Check.due("leave again", house.leave(1), 0);
        house.accuse(0);
        Check.due("behind the evening", house.value(8), 0);
        Check.due("behind the evening", house.guest(1, 1), 0);
    }

    private static void leaveLimits() {
        SecretDinner house = new SecretDinner();
        Check.refused(house, "leave before all", INDEX, () -> house.leave(0));
        house.begin(3, 3);
        house.leave(0);
        Check.refused(house, "leave twice", STATE, () -> house.leave(0));
        for (int odd : new int[] {-1, 3, 4, Integer.MIN_VALUE, Integer.MAX_VALUE}) {
            Check.refused(house, "leave guest " + odd, INDEX, () -> house.leave(odd));
        }
        house.accuse(1);
        Check.refused(house, "leave behind the evening", STATE, () -> house.leave(1));
        Check.refused(house, "leave behind the evening", INDEX, () -> house.leave(3));
    }

    // ---- promise 6

    private static void accuse() {
        SecretDinner house = new SecretDinner();
        int score = 0;
        int found = 0;
        for (int evening = 0; evening < 21; evening++) {
            house.begin(3 + evening % 2, SecretDinner.NONE);
            for (int i = 0; i < evening; i++) {
                house.ask(0, 1 + i, false);
            }
            int culprit = house.accuse(0);
            house.undo();
            int card = evening % 3 == 2 ? (culprit + 1) % 8 : culprit;
            score += card == culprit ? 21 - evening : -10;
            found += card == culprit ? 1 : 0;
            int deals = house.deals();
            Check.due("accuse", house.accuse(card), culprit);
            Check.due("over", house.value(1), 0);
            Check.due("evenings", house.value(4), evening + 1);
            Check.due("found", house.value(5), found);
            Check.due("score", house.value(6), score);
            Check.due("culprit", house.value(9), culprit);
            Check.due("questions", house.value(2), evening);
            Check.due("the deals stay", house.deals(), deals);
        }
    }

    private static void accuseLimits() {
        SecretDinner house = new SecretDinner();
        for (int round = 0; round < 2; round++) {
            for (int odd : new int[] {-1, 8, Integer.MIN_VALUE, Integer.MAX_VALUE}) {
                Check.refused(house, "accuse card " + odd, INDEX, () -> house.accuse(odd));
            }
            if (round == 0) {
                Check.refused(house, "accuse before all", STATE, () -> house.accuse(7));
                house.begin(3, 0);
            }
        }
        house.accuse(7);
        Check.refused(house, "accuse twice", STATE, () -> house.accuse(7));
        Check.refused(house, "accuse card 8 behind the evening", INDEX, () -> house.accuse(8));
    }

    // ---- promise 7

    private static void guest() {
        int[][] sizes = {{3, 2, 2}, {2, 2, 2, 1}};
        for (int guests = 3; guests <= 4; guests++) {
            SecretDinner house = new SecretDinner();
            house.begin(guests, 21);
            house.ask(0, 1, false);
            house.ask(1, 1, false);
            house.ask(0, 1, false);
            house.prove(2, 0);
            house.leave(0);
            int[] asked = {2, 1, 0, 0};
            int[] proved = {0, 0, 1, 0};
            for (int guest = 0; guest < guests; guest++) {
                Check.due("hand size", house.guest(guest, 0), sizes[guests - 3][guest]);
                Check.due("here", house.guest(guest, 1), guest == 0 ? 0 : 1);
                Check.due("asked", house.guest(guest, 2), asked[guest]);
                Check.due("proofs", house.guest(guest, 3), proved[guest]);
                Check.due("hand is hidden", house.guest(guest, 7), -1);
            }
            house.accuse(0);
            for (int guest = 0; guest < guests; guest++) {
                Check.due("hand is shown", Integer.bitCount(house.guest(guest, 7)), sizes[guests - 3][guest]);
                Check.due("asked, behind", house.guest(guest, 2), asked[guest]);
                Check.due("proofs, behind", house.guest(guest, 3), proved[guest]);
            }
        }
        guestLimits();
    }

    private static void guestLimits() {
        SecretDinner house = new SecretDinner();
        Check.refused(house, "guest before all", INDEX, () -> house.guest(0, 8));
        house.begin(3, 21);
        for (int odd : new int[] {-1, 8, Integer.MIN_VALUE, Integer.MAX_VALUE}) {
            Check.refused(house, "guest what " + odd, ARGUMENT, () -> house.guest(0, odd));
            Check.refused(house, "guest " + odd, INDEX, () -> house.guest(odd, 0));
            Check.refused(house, "guest and what " + odd, INDEX, () -> house.guest(odd, odd));
        }
        Check.refused(house, "guest 3 of 3", INDEX, () -> house.guest(3, 0));
        house.accuse(0);
        Check.refused(house, "guest 3 of 3", INDEX, () -> house.guest(3, 8));
        house.begin(4, 21);
        Check.due("guest 3 of 4", house.guest(3, 0), 1);
    }

    private static void guestByPossibleDeals() {
        SecretDinner house = new SecretDinner();
        house.begin(3, 5);
        int hand = Houses.peek(house, 1);
        int notHeld = Integer.lowestOneBit(~hand & 255);
        house.ask(1, notHeld, false);
        Check.due("one answer alone tells no lie", house.guest(1, 6), 0);
        Check.due("one answer alone rules nothing out", house.guest(1, 5), 255);
        house.ask(1, notHeld, true);
        Check.due("of two different answers one is wrong", house.guest(1, 6), 1);
        Check.due("that says nothing of the others", house.guest(0, 6), 0);
        house.ask(1, notHeld, false);
        Check.due("two of three answers are right", house.guest(1, 5), 255 - notHeld);
        Check.due("still a liar", house.guest(1, 6), 1);
        for (int card = 0; card < 8; card++) {
            if ((hand >> card & 1) == 1) {
                house.prove(1, card);
            }
        }
        Check.due("a hand proved", house.guest(1, 4), hand);
        Check.due("a hand proved", house.guest(1, 5), hand);
        Check.due("not for the others", house.guest(0, 5), 255 - hand);
        house.accuse(0);
        Check.due("behind the evening", house.guest(1, 4), hand);
        Check.due("behind the evening", house.guest(1, 6), 1);
    }

    // ---- promise 8

    private static void value() {
        SecretDinner house = new SecretDinner();
        house.begin(4, 40);
        house.ask(0, 3, false);
        house.ask(1, 3, true);
        house.prove(3, 3);
        house.leave(3);
        int culprit = house.accuse(1);
        house.undo();
        int[] values = {4, 1, 2, 1, 0, 0, 0, house.value(7), 3, -1};
        dueValues(house, values);
        house.accuse(culprit);
        values = new int[] {4, 0, 2, 1, 1, 1, 19, house.value(7), 3, culprit};
        dueValues(house, values);
        house.begin(3, SecretDinner.NONE);
        values = new int[] {3, 1, 0, 0, 1, 1, 19, house.value(7), 3, -1};
        dueValues(house, values);
        for (int odd : new int[] {-1, 10, Integer.MIN_VALUE, Integer.MAX_VALUE}) {
            Check.refused(house, "value " + odd, ARGUMENT, () -> house.value(odd));
        }
    }

    private static void dueValues(SecretDinner house, int[] values) {
        for (int what = 0; what < 10; what++) {
            Check.due("value " + what, house.value(what), values[what]);
        }
    }

    // ---- promise 9

    private static void question() {
        SecretDinner house = new SecretDinner();
        Check.refused(house, "question before all", INDEX, () -> house.question(0, 0));
        house.begin(4, 8);
        int[] answers = new int[20];
        for (int i = 0; i < 20; i++) {
            answers[i] = house.ask(i * 3 % 4, 255 - 12 * i, i < 4);
        }
        dueQuestions(house, answers);
        for (int odd : new int[] {-1, 3, Integer.MIN_VALUE, Integer.MAX_VALUE}) {
            Check.refused(house, "question what " + odd, ARGUMENT, () -> house.question(19, odd));
            Check.refused(house, "question 20 what " + odd, INDEX, () -> house.question(20, odd));
        }
        Check.refused(house, "question -1", INDEX, () -> house.question(-1, 0));
        Check.refused(house, "question far", INDEX, () -> house.question(Integer.MAX_VALUE, 0));
        house.accuse(0);
        dueQuestions(house, answers);
        house.begin(3, 8);
        Check.refused(house, "question of the next evening", INDEX, () -> house.question(0, 0));
        house.undo();
        dueQuestions(house, answers);
        house.undo();
        house.undo();
        Check.refused(house, "a question undone", INDEX, () -> house.question(19, 0));
        Check.due("the one before", house.question(18, 2), answers[18]);
    }

    private static void dueQuestions(SecretDinner house, int[] answers) {
        for (int i = 0; i < 20; i++) {
            Check.due("question, guest", house.question(i, 0), i * 3 % 4);
            Check.due("question, cards", house.question(i, 1), 255 - 12 * i);
            Check.due("question, answer", house.question(i, 2), answers[i]);
        }
    }
}
