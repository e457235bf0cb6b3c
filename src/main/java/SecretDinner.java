/**
 * A dinner with secret cards: guests are asked, prove cards and leave, and all deals that are still
 * possible are counted.
 *
 * The possible deals stand in a row that each question and each proof thins out, so that a count is
 * one walk along the row. All rows are made with the object and used again: no call makes a new one.
 */
public final class SecretDinner {

    /** There is no such thing. */
    public static final int NONE = -1;

    private static final int CARDS = 8;
    private static final int ALL_CARDS = 255;
    private static final int MOST_GUESTS = 4;
    /** The place of the culprit's card: it counts as one more hand, behind those of the guests. */
    private static final int FACE_DOWN = 4;
    private static final int[] HANDS_OF_THREE = {3, 2, 2, 0, 1};
    private static final int[] HANDS_OF_FOUR = {2, 2, 2, 1, 1};
    private static final int MOST_DEALS = 5040;
    private static final int MOST_QUESTIONS = 20;
    private static final int MOST_ANSWER = 8;
    private static final int MOST_SEED = 999999;
    private static final int MOST_SAVED = 4;
    private static final int MOST_TEXT = 90;
    private static final int GUEST_KINDS = 8;
    private static final int VALUE_KINDS = 10;
    private static final int QUESTION_KINDS = 3;

    private final Dinner now = new Dinner();
    private final Dinner[] saved = new Dinner[MOST_SAVED];
    private int savedCount;
    private final Deals allOfThree = new Deals();
    private final Deals allOfFour = new Deals();
    private final Outlook outlook = new Outlook();
    private final Script text = new Script();

    public SecretDinner() {
        for (int i = 0; i < MOST_SAVED; i++) {
            saved[i] = new Dinner();
        }
    }

    // ---- evening

    public int begin(int guests, int s) throws IllegalArgumentException, IllegalStateException {
        if (guests < 3 || guests > MOST_GUESTS) {
            throw new IllegalArgumentException("an evening is for 3 or 4 guests");
        }
        if (s < NONE || s > MOST_SEED) {
            throw new IllegalArgumentException("s is out of range");
        }
        if (now.going) {
            throw new IllegalStateException("an evening goes on");
        }
        saveForUndo();
        Deals all = guests == 3 ? allOfThree : allOfFour;
        all.fillOnce(guests);
        now.open(guests, s, all);
        return sizeOfHand(guests, 0);
    }

    public int ask(int guest, int cards, boolean lies)
            throws IndexOutOfBoundsException, IllegalArgumentException, IllegalStateException {
        if (!now.hasGuest(guest)) {
            throw new IndexOutOfBoundsException("no such guest");
        }
        if (!isQuestion(cards)) {
            throw new IllegalArgumentException("cards is out of range");
        }
        if (!now.canAnswer(guest, lies)) {
            throw new IllegalStateException("the guest cannot be asked so");
        }
        saveForUndo();
        return now.answerOf(guest, cards, lies);
    }

    public boolean prove(int guest, int card) throws IndexOutOfBoundsException, IllegalStateException {
        if (!now.hasGuest(guest) || !isCard(card)) {
            throw new IndexOutOfBoundsException("no such guest or card");
        }
        if (!now.isThere(guest)) {
            throw new IllegalStateException("the guest cannot prove a card");
        }
        saveForUndo();
        return now.proofOf(guest, card);
    }

    public int leave(int guest) throws IndexOutOfBoundsException, IllegalStateException {
        if (!now.hasGuest(guest)) {
            throw new IndexOutOfBoundsException("no such guest");
        }
        if (!now.isThere(guest)) {
            throw new IllegalStateException("the guest cannot leave");
        }
        saveForUndo();
        return now.sendHome(guest);
    }

    public int accuse(int card) throws IndexOutOfBoundsException, IllegalStateException {
        if (!isCard(card)) {
            throw new IndexOutOfBoundsException("no such card");
        }
        if (!now.going) {
            throw new IllegalStateException("no evening goes on");
        }
        saveForUndo();
        return now.close(card);
    }

    public int guest(int guest, int what) throws IndexOutOfBoundsException, IllegalArgumentException {
        if (!now.hasGuest(guest)) {
            throw new IndexOutOfBoundsException("no such guest");
        }
        if (what < 0 || what >= GUEST_KINDS) {
            throw new IllegalArgumentException("what is out of range");
        }
        return now.aboutGuest(guest, what);
    }

    public int value(int what) throws IllegalArgumentException {
        if (what < 0 || what >= VALUE_KINDS) {
            throw new IllegalArgumentException("what is out of range");
        }
        return now.aboutHouse(what);
    }

    public int question(int question, int what) throws IndexOutOfBoundsException, IllegalArgumentException {
        if (question < 0 || question >= now.asked) {
            throw new IndexOutOfBoundsException("there are not so many questions");
        }
        if (what < 0 || what >= QUESTION_KINDS) {
            throw new IllegalArgumentException("what is out of range");
        }
        return now.aboutQuestion(question, what);
    }

    // ---- what is possible

    public int deals() {
        return now.possible.count;
    }

    public int dealsWith(int card) throws IndexOutOfBoundsException {
        if (!isCard(card)) {
            throw new IndexOutOfBoundsException("no such card");
        }
        return now.possible.countWith(FACE_DOWN, card);
    }

    public int dealsHeld(int guest, int card) throws IndexOutOfBoundsException {
        if (!now.hasGuest(guest) || !isCard(card)) {
            throw new IndexOutOfBoundsException("no such guest or card");
        }
        return now.possible.countWith(guest, card);
    }

    public int culprits() {
        return now.possible.cardsInSome(FACE_DOWN);
    }

    public int likeliest() {
        int best = NONE;
        int most = 0;
        for (int card = 0; card < CARDS; card++) {
            int count = now.possible.countWith(FACE_DOWN, card);
            if (count > most) {
                most = count;
                best = card;
            }
        }
        return best;
    }

    public double chance(int card) throws IndexOutOfBoundsException {
        if (!isCard(card)) {
            throw new IndexOutOfBoundsException("no such card");
        }
        return share(now.possible.countWith(FACE_DOWN, card), now.possible.count);
    }

    // ---- questions

    public int dealsIf(int guest, int cards, int answer)
            throws IndexOutOfBoundsException, IllegalArgumentException {
        if (!now.hasGuest(guest)) {
            throw new IndexOutOfBoundsException("no such guest");
        }
        if (!isQuestion(cards)) {
            throw new IllegalArgumentException("cards is out of range");
        }
        if (answer < 0 || answer > MOST_ANSWER) {
            throw new IllegalArgumentException("answer is out of range");
        }
        outlook.lookAt(now.possible, guest);
        return outlook.leftBehind(cards, answer);
    }

    public int worst(int guest, int cards) throws IndexOutOfBoundsException, IllegalArgumentException {
        if (!now.hasGuest(guest)) {
            throw new IndexOutOfBoundsException("no such guest");
        }
        if (!isQuestion(cards)) {
            throw new IllegalArgumentException("cards is out of range");
        }
        outlook.lookAt(now.possible, guest);
        return outlook.mostLeft(cards);
    }

    public int bestCards(int guest) throws IndexOutOfBoundsException {
        if (!now.hasGuest(guest)) {
            throw new IndexOutOfBoundsException("no such guest");
        }
        outlook.lookAt(now.possible, guest);
        return outlook.bestQuestion();
    }

    public double leftByProof(int guest, int card) throws IndexOutOfBoundsException {
        if (!now.hasGuest(guest) || !isCard(card)) {
            throw new IndexOutOfBoundsException("no such guest or card");
        }
        int held = now.possible.countWith(guest, card);
        int notHeld = now.possible.count - held;
        return share(held * held + notHeld * notHeld, now.possible.count);
    }

    // ---- text

    public int append(int value) throws IllegalArgumentException, IllegalStateException {
        if (value < 0 || value > 127) {
            throw new IllegalArgumentException("value is no byte from 0 to 127");
        }
        if (text.length >= MOST_TEXT) {
            throw new IllegalStateException("the text is full");
        }
        return text.add(value);
    }

    public int clearText() {
        int before = text.length;
        text.length = 0;
        return before;
    }

    public int play() {
        int error = text.findError();
        if (error != NONE) {
            return -10 - error;
        }
        saveForUndo();
        return playItems();
    }

    // ---- state

    public int undo() throws IllegalStateException {
        if (savedCount <= 0) {
            throw new IllegalStateException("there is no saved state");
        }
        savedCount--;
        restore();
        return savedCount;
    }

    public long digest() {
        long h = 3529L;
        h = 31L * h + text.length;
        for (int what = 0; what < VALUE_KINDS; what++) {
            h = 31L * h + now.aboutHouse(what);
        }
        for (int guest = 0; guest < now.guests; guest++) {
            for (int what = 0; what < GUEST_KINDS; what++) {
                h = 31L * h + now.aboutGuest(guest, what);
            }
        }
        for (int question = 0; question < now.asked; question++) {
            for (int what = 0; what < QUESTION_KINDS; what++) {
                h = 31L * h + now.aboutQuestion(question, what);
            }
        }
        h = 31L * h + now.possible.count;
        for (int card = 0; card < CARDS; card++) {
            h = 31L * h + now.possible.countWith(FACE_DOWN, card);
        }
        return 31L * h + savedCount;
    }

    // ---- own helpers

    /** Plays the items of a text without a syntax error, up to the first one that is not possible. */
    private int playItems() {
        int played = 0;
        int at = 0;
        for (int item = 0; item < MOST_TEXT && at < text.length; item++) {
            if (!text.readItem(at) || !playItem()) {
                return played;
            }
            played++;
            at = text.at;
        }
        return played;
    }

    private boolean playItem() {
        int guest = text.guest;
        if (text.kind == 'a' || text.kind == 'l') {
            boolean lies = text.kind == 'l';
            if (!now.canAnswer(guest, lies)) {
                return false;
            }
            now.answerOf(guest, text.cards, lies);
            return true;
        }
        if (!now.isThere(guest)) {
            return false;
        }
        if (text.kind == 'p') {
            now.proofOf(guest, text.card);
        } else {
            now.sendHome(guest);
        }
        return true;
    }

    private void saveForUndo() {
        if (savedCount >= MOST_SAVED) {
            Dinner oldest = saved[0];
            for (int i = 1; i < MOST_SAVED; i++) {
                saved[i - 1] = saved[i];
            }
            saved[MOST_SAVED - 1] = oldest;
            savedCount = MOST_SAVED - 1;
        }
        Dinner place = savedAt(savedCount);
        if (place != null) {
            place.copyFrom(now);
        }
        savedCount++;
    }

    /** Brings back the saved state that stands just behind those that remain. */
    private void restore() {
        Dinner place = savedAt(savedCount);
        if (place != null) {
            now.copyFrom(place);
        }
    }

    private Dinner savedAt(int place) {
        return place >= 0 && place < saved.length ? saved[place] : null;
    }

    private static boolean isCard(int card) {
        return card >= 0 && card < CARDS;
    }

    private static boolean isQuestion(int cards) {
        return cards >= 1 && cards <= ALL_CARDS;
    }

    private static double share(int part, int all) {
        if (all == 0) {
            return 0.0;
        }
        return (double) part / (double) all;
    }

    /** The cards at a place, a guest's hand or FACE_DOWN, in an evening for so many guests. */
    private static int sizeOfHand(int guests, int place) {
        int[] sizes = guests == 3 ? HANDS_OF_THREE : HANDS_OF_FOUR;
        return place >= 0 && place < sizes.length ? sizes[place] : 0;
    }

    private static void copyRow(int[] from, int[] to) {
        System.arraycopy(from, 0, to, 0, Math.min(from.length, to.length));
    }

    /**
     * A row of deals. A deal is a number with eight bits for each place, the hands 0 to 3 and
     * FACE_DOWN, and behind them a bit for each guest: whether one of its answers is wrong in it.
     */
    private static final class Deals {
        private static final int WRONG_BITS = 40;

        private final long[] row = new long[MOST_DEALS];
        private int count;
        /** The bits that all deals of the row have, and those that some have. */
        private long inAll = -1L;
        private long inSome;

        /** Fills an empty row with all deals for so many guests. */
        void fillOnce(int guests) {
            if (count == 0) {
                extend(this, guests, 0, 0L);
            }
        }

        /** Adds each deal that gives out the cards from this one on as well. */
        private static void extend(Deals deals, int guests, int card, long deal) {
            if (card >= CARDS) {
                deals.add(deal);
                return;
            }
            for (int place = 0; place <= FACE_DOWN; place++) {
                if (Integer.bitCount(cardsAt(deal, place)) < sizeOfHand(guests, place)) {
                    extend(deals, guests, card + 1, deal | cardBit(place, card));
                }
            }
        }

        private void add(long deal) {
            if (count >= 0 && count < row.length) {
                row[count] = deal;
                count++;
                inAll &= deal;
                inSome |= deal;
            }
        }

        private int length() {
            return Math.min(count, row.length);
        }

        /** Empties the row and returns its old length: its deals can still be read and added again. */
        private int empty() {
            int before = length();
            count = 0;
            inAll = -1L;
            inSome = 0L;
            return before;
        }

        void keepProved(int guest, int card, boolean held) {
            long bit = cardBit(guest, card);
            int before = empty();
            for (int i = 0; i < before; i++) {
                if (((row[i] & bit) != 0L) == held) {
                    add(row[i]);
                }
            }
        }

        void keepAnswered(int guest, int cards, int answer) {
            long wrong = wrongBit(guest);
            int before = empty();
            for (int i = 0; i < before; i++) {
                long deal = row[i];
                if (Integer.bitCount(cardsAt(deal, guest) & cards) == answer) {
                    add(deal);
                } else if ((deal & wrong) == 0L) {
                    add(deal | wrong);
                }
            }
        }

        int countWith(int place, int card) {
            long bit = cardBit(place, card);
            int with = 0;
            int length = length();
            for (int i = 0; i < length; i++) {
                if ((row[i] & bit) != 0L) {
                    with++;
                }
            }
            return with;
        }

        int cardsInAll(int place) {
            return count == 0 ? 0 : cardsAt(inAll, place);
        }

        int cardsInSome(int place) {
            return cardsAt(inSome, place);
        }

        boolean isWrongInAll(int guest) {
            return count > 0 && (inAll & wrongBit(guest)) != 0L;
        }

        void copyFrom(Deals other) {
            int length = other.length();
            if (length >= 0 && length <= row.length) {
                System.arraycopy(other.row, 0, row, 0, length);
                count = length;
                inAll = other.inAll;
                inSome = other.inSome;
            }
        }

        static int cardsAt(long deal, int place) {
            return (int) (deal >>> CARDS * place) & ALL_CARDS;
        }

        static long cardBit(int place, int card) {
            return 1L << CARDS * place + card;
        }

        static long wrongBit(int guest) {
            return 1L << WRONG_BITS + guest;
        }
    }

    /** What one more question to a guest could leave: the row is walked once for all sets of cards. */
    private static final class Outlook {
        /** The deals in which no answer of the guest is wrong: they stay behind each answer. */
        private int staying;
        /** The others, by the hand of the guest: they stay behind the true answer alone. */
        private final int[] byHand = new int[ALL_CARDS + 1];
        private final int[] byAnswer = new int[MOST_ANSWER + 1];

        void lookAt(Deals possible, int guest) {
            staying = 0;
            for (int hand = 0; hand < byHand.length; hand++) {
                byHand[hand] = 0;
            }
            long wrong = Deals.wrongBit(guest);
            int length = possible.length();
            for (int i = 0; i < length; i++) {
                long deal = possible.row[i];
                int hand = Deals.cardsAt(deal, guest);
                if ((deal & wrong) == 0L) {
                    staying++;
                } else if (hand < byHand.length) {
                    byHand[hand]++;
                }
            }
        }

        int leftBehind(int cards, int answer) {
            int left = staying;
            for (int hand = 0; hand < byHand.length; hand++) {
                if (Integer.bitCount(hand & cards) == answer) {
                    left += byHand[hand];
                }
            }
            return left;
        }

        int mostLeft(int cards) {
            for (int answer = 0; answer < byAnswer.length; answer++) {
                byAnswer[answer] = 0;
            }
            for (int hand = 0; hand < byHand.length; hand++) {
                int answer = Integer.bitCount(hand & cards);
                if (answer < byAnswer.length) {
                    byAnswer[answer] += byHand[hand];
                }
            }
            int most = 0;
            for (int answer = 0; answer < byAnswer.length; answer++) {
                most = Math.max(most, byAnswer[answer]);
            }
            return staying + most;
        }

        int bestQuestion() {
            int best = 1;
            int least = mostLeft(best);
            for (int cards = 2; cards <= ALL_CARDS; cards++) {
                if (Integer.bitCount(cards) <= 2) {
                    int most = mostLeft(cards);
                    if (most < least) {
                        least = most;
                        best = cards;
                    }
                }
            }
            return best;
        }
    }

    /** Everything that a saved state contains. Its moves are made without a look at the rules. */
    private static final class Dinner {
        private int s = 1;
        private int guests;
        private boolean going;
        private int culprit;
        private int evenings;
        private int found;
        private int score;
        /** The guests that are here, and those that have lied, as sets. */
        private int here;
        private int liars;
        private final int[] hands = new int[MOST_GUESTS];
        private int proofs;
        private final int[] proofsBy = new int[MOST_GUESTS];
        private int asked;
        private final int[] askedGuests = new int[MOST_QUESTIONS];
        private final int[] askedCards = new int[MOST_QUESTIONS];
        private final int[] answers = new int[MOST_QUESTIONS];
        private final Deals possible = new Deals();

        boolean hasGuest(int guest) {
            return guest >= 0 && guest < guests && guest < MOST_GUESTS;
        }

        boolean isThere(int guest) {
            return going && hasGuest(guest) && (here >> guest & 1) == 1;
        }

        boolean canAnswer(int guest, boolean lies) {
            return isThere(guest) && asked < MOST_QUESTIONS && !(lies && (liars >> guest & 1) == 1);
        }

        void open(int number, int seed, Deals all) {
            if (seed != NONE) {
                s = seed;
            }
            guests = number;
            going = true;
            here = (1 << number) - 1;
            liars = 0;
            proofs = 0;
            asked = 0;
            for (int guest = 0; guest < MOST_GUESTS; guest++) {
                hands[guest] = 0;
                proofsBy[guest] = 0;
            }
            dealOut();
            possible.copyFrom(all);
        }

        private void dealOut() {
            culprit = draw(CARDS);
            int places = CARDS - 1;
            for (int card = 0; card < CARDS; card++) {
                if (card != culprit) {
                    handOver(card, draw(places));
                    places--;
                }
            }
        }

        /** Gives the card to the guest at that one of the places that are left. */
        private void handOver(int card, int place) {
            int behind = 0;
            for (int guest = 0; guest < guests && guest < MOST_GUESTS; guest++) {
                behind += sizeOfHand(guests, guest) - Integer.bitCount(hands[guest]);
                if (place < behind) {
                    hands[guest] |= 1 << card;
                    return;
                }
            }
        }

        private int draw(int n) {
            s = (int) ((1103515245L * s + 12345L) % 2147483648L);
            return n > 0 ? s / 65536 % n : 0;
        }

        int answerOf(int guest, int cards, boolean lies) {
            int answer = Integer.bitCount(handOf(guest) & cards);
            if (lies) {
                liars |= 1 << guest;
                answer++;
                if (answer > sizeOfHand(guests, guest) || answer > Integer.bitCount(cards)) {
                    answer = 0;
                }
            }
            if (asked >= 0 && asked < MOST_QUESTIONS) {
                askedGuests[asked] = guest;
                askedCards[asked] = cards;
                answers[asked] = answer;
                asked++;
            }
            possible.keepAnswered(guest, cards, answer);
            return answer;
        }

        boolean proofOf(int guest, int card) {
            boolean held = (handOf(guest) >> card & 1) == 1;
            proofs++;
            if (guest >= 0 && guest < MOST_GUESTS) {
                proofsBy[guest]++;
            }
            possible.keepProved(guest, card, held);
            return held;
        }

        int sendHome(int guest) {
            here &= ~(1 << guest);
            return Integer.bitCount(here);
        }

        int close(int card) {
            going = false;
            evenings++;
            if (card == culprit) {
                found++;
                score += 21 - asked;
            } else {
                score -= 10;
            }
            return culprit;
        }

        private int handOf(int guest) {
            return guest >= 0 && guest < MOST_GUESTS ? hands[guest] : 0;
        }

        private int questionsTo(int guest) {
            int count = 0;
            for (int i = 0; i < asked && i < MOST_QUESTIONS; i++) {
                if (askedGuests[i] == guest) {
                    count++;
                }
            }
            return count;
        }

        int aboutGuest(int guest, int what) {
            switch (what) {
                case 0:
                    return sizeOfHand(guests, guest);
                case 1:
                    return here >> guest & 1;
                case 2:
                    return questionsTo(guest);
                case 3:
                    return guest >= 0 && guest < MOST_GUESTS ? proofsBy[guest] : 0;
                case 4:
                    return possible.cardsInAll(guest);
                case 5:
                    return possible.cardsInSome(guest);
                case 6:
                    return possible.isWrongInAll(guest) ? 1 : 0;
                default:
                    return going ? NONE : handOf(guest);
            }
        }

        int aboutHouse(int what) {
            switch (what) {
                case 0:
                    return guests;
                case 1:
                    return going ? 1 : 0;
                case 2:
                    return asked;
                case 3:
                    return proofs;
                case 4:
                    return evenings;
                case 5:
                    return found;
                case 6:
                    return score;
                case 7:
                    return s;
                case 8:
                    return Integer.bitCount(here);
                default:
                    return going || evenings == 0 ? NONE : culprit;
            }
        }

        int aboutQuestion(int question, int what) {
            if (question < 0 || question >= MOST_QUESTIONS) {
                return NONE;
            }
            switch (what) {
                case 0:
                    return askedGuests[question];
                case 1:
                    return askedCards[question];
                default:
                    return answers[question];
            }
        }

        void copyFrom(Dinner other) {
            s = other.s;
            guests = other.guests;
            going = other.going;
            culprit = other.culprit;
            evenings = other.evenings;
            found = other.found;
            score = other.score;
            here = other.here;
            liars = other.liars;
            copyRow(other.hands, hands);
            proofs = other.proofs;
            copyRow(other.proofsBy, proofsBy);
            asked = other.asked;
            copyRow(other.askedGuests, askedGuests);
            copyRow(other.askedCards, askedCards);
            copyRow(other.answers, answers);
            possible.copyFrom(other.possible);
        }
    }

    /** The text, and the item that has been read from it last. */
    private static final class Script {
        private final int[] bytes = new int[MOST_TEXT];
        private int length;
        /** The byte that is read next: behind an error, the one that cannot stand there. */
        private int at;
        private int kind;
        private int guest;
        private int cards;
        /** The card that has been read last: a proof has but this one. */
        private int card;

        int add(int value) {
            if (length >= 0 && length < MOST_TEXT) {
                bytes[length] = value;
                length++;
            }
            return length;
        }

        /** Returns the syntax error position, or NONE. */
        int findError() {
            at = 0;
            for (int item = 0; item < MOST_TEXT && at < length; item++) {
                if (!readItem(at)) {
                    return at;
                }
            }
            return NONE;
        }

        /** Reads the item from there on; false if a byte cannot stand where it stands. */
        boolean readItem(int from) {
            at = from;
            kind = look();
            if (kind != 'a' && kind != 'l' && kind != 'p' && kind != 'g') {
                return false;
            }
            at++;
            guest = look() - '0';
            if (guest < 0 || guest > 3) {
                return false;
            }
            at++;
            if (kind != 'g' && !(skip(':') && readCards(kind == 'p' ? 1 : CARDS))) {
                return false;
            }
            return skip(';');
        }

        /** Reads ascending card digits, one at least. */
        private boolean readCards(int most) {
            cards = 0;
            card = NONE;
            for (int i = 0; i < most; i++) {
                int next = look() - '0';
                if (next <= card || next >= CARDS) {
                    return i > 0;
                }
                card = next;
                cards |= 1 << card;
                at++;
            }
            return true;
        }

        private boolean skip(int sign) {
            if (look() != sign) {
                return false;
            }
            at++;
            return true;
        }

        /** The byte that is read next, or NONE behind the end. */
        private int look() {
            return at >= 0 && at < length && at < MOST_TEXT ? bytes[at] : NONE;
        }
    }
}
