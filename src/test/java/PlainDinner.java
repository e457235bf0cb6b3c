import java.util.ArrayList;
import java.util.List;

/**
 * The document's words once more, in another and slower way: no deal is kept, each count goes over
 * all arrangements and looks at the whole history. The tests hold SecretDinner against it.
 */
public final class PlainDinner {
    public static final int NONE = -1;
    private static final int[][] SIZES = {{3, 2, 2}, {2, 2, 2, 1}};
    private static final List<int[]> THREE = arrangements(SIZES[0]);
    private static final List<int[]> FOUR = arrangements(SIZES[1]);

    /** What was said or shown: an answer to a set of cards, or a proof of one card. */
    private record Fact(boolean proof, int guest, int cards, int answer) {
    }

    /** Everything but the text. */
    private static final class State {
        long s = 1;
        int[] sizes = new int[0];
        boolean going;
        int culprit = NONE;
        int[] holder = new int[8];
        boolean[] left = new boolean[0];
        boolean[] lied = new boolean[0];
        List<Fact> facts = new ArrayList<>();
        int evenings;
        int found;
        int score;

        State copy() {
            State c = new State();
            c.s = s;
            c.sizes = sizes;
            c.going = going;
            c.culprit = culprit;
            c.holder = holder.clone();
            c.left = left.clone();
            c.lied = lied.clone();
            c.facts = new ArrayList<>(facts);
            c.evenings = evenings;
            c.found = found;
            c.score = score;
            return c;
        }
    }

    private State now = new State();
    private final List<State> saved = new ArrayList<>();
    private String text = "";
    private List<Fact> lastFacts = List.of();
    private int[] lastSizes;
    private List<int[]> lastPossible = List.of();

    // ---- all arrangements: card -> guest, or NONE for the culprit's card

    private static List<int[]> arrangements(int[] sizes) {
        List<int[]> all = new ArrayList<>();
        int[] holder = new int[8];
        int base = sizes.length + 1;
        int codes = 1;
        for (int i = 0; i < 8; i++) {
            codes *= base;
        }
        for (int code = 0; code < codes; code++) {
            int[] seen = new int[base];
            int rest = code;
            for (int card = 0; card < 8; card++) {
                holder[card] = rest % base - 1;
                seen[rest % base]++;
                rest /= base;
            }
            boolean fits = seen[0] == 1;
            for (int guest = 0; guest < sizes.length; guest++) {
                fits &= seen[guest + 1] == sizes[guest];
            }
            if (fits) {
                all.add(holder.clone());
            }
        }
        return all;
    }

    private static int held(int[] holder, int guest, int cards) {
        int count = 0;
        for (int card = 0; card < 8; card++) {
            if (holder[card] == guest && (cards & 1 << card) != 0) {
                count++;
            }
        }
        return count;
    }

    private static int[] wrongAnswers(int[] holder, List<Fact> facts, int guests) {
        int[] wrong = new int[guests];
        for (Fact fact : facts) {
            if (!fact.proof && held(holder, fact.guest, fact.cards) != fact.answer) {
                wrong[fact.guest]++;
            }
        }
        return wrong;
    }

    private static boolean isPossible(int[] holder, List<Fact> facts, int guests) {
        for (Fact fact : facts) {
            if (fact.proof && held(holder, fact.guest, fact.cards) != fact.answer) {
                return false;
            }
        }
        for (int wrong : wrongAnswers(holder, facts, guests)) {
            if (wrong > 1) {
                return false;
            }
        }
        return true;
    }

    private List<int[]> possible(List<Fact> facts) {
        // The last answer is kept with its question, only so that the tests end sooner.
        if (!facts.equals(lastFacts) || now.sizes != lastSizes) {
            lastFacts = List.copyOf(facts);
            lastSizes = now.sizes;
            lastPossible = findPossible(facts);
        }
        return lastPossible;
    }

    private List<int[]> findPossible(List<Fact> facts) {
        List<int[]> result = new ArrayList<>();
        if (now.sizes.length > 0) {
            for (int[] holder : now.sizes.length == 3 ? THREE : FOUR) {
                if (isPossible(holder, facts, now.sizes.length)) {
                    result.add(holder);
                }
            }
        }
        return result;
    }

    // ---- evening

    public int begin(int guests, int s) {
        if (guests != 3 && guests != 4 || s != NONE && (s < 0 || s > 999999)) {
            throw new IllegalArgumentException();
        }
        if (now.going) {
            throw new IllegalStateException();
        }
        save();
        if (s != NONE) {
            now.s = s;
        }
        now.sizes = SIZES[guests - 3];
        now.going = true;
        now.left = new boolean[guests];
        now.lied = new boolean[guests];
        now.facts = new ArrayList<>();
        deal();
        return now.sizes[0];
    }

    private void deal() {
        now.culprit = draw(8);
        List<Integer> places = new ArrayList<>();
        for (int guest = 0; guest < now.sizes.length; guest++) {
            for (int i = 0; i < now.sizes[guest]; i++) {
                places.add(guest);
            }
        }
        for (int card = 0; card < 8; card++) {
            now.holder[card] = card == now.culprit ? NONE : places.remove(draw(places.size()));
        }
    }

    private int draw(int n) {
        now.s = (1103515245L * now.s + 12345L) % (1L << 31);
        return (int) (now.s / 65536 % n);
    }

    private void needGuest(int guest) {
        if (guest < 0 || guest >= now.sizes.length) {
            throw new IndexOutOfBoundsException();
        }
    }

    private static void needCard(int card) {
        if (card < 0 || card > 7) {
            throw new IndexOutOfBoundsException();
        }
    }

    private static void need(boolean inRange) {
        if (!inRange) {
            throw new IllegalArgumentException();
        }
    }

    private void needHere(int guest) {
        if (!now.going || now.left[guest]) {
            throw new IllegalStateException();
        }
    }

    private List<Fact> questions() {
        return now.facts.stream().filter(f -> !f.proof).toList();
    }

    private List<Fact> proofs() {
        return now.facts.stream().filter(f -> f.proof).toList();
    }

    public int ask(int guest, int cards, boolean lies) {
        needGuest(guest);
        need(cards >= 1 && cards <= 255);
        needHere(guest);
        if (questions().size() >= 20 || lies && now.lied[guest]) {
            throw new IllegalStateException();
        }
        save();
        int answer = held(now.holder, guest, cards);
        if (lies) {
            now.lied[guest] = true;
            int most = Math.min(now.sizes[guest], Integer.bitCount(cards));
            answer = answer + 1 > most ? 0 : answer + 1;
        }
        now.facts.add(new Fact(false, guest, cards, answer));
        return answer;
    }

    public boolean prove(int guest, int card) {
        needGuest(guest);
        needCard(card);
        needHere(guest);
        save();
        int held = held(now.holder, guest, 1 << card);
        now.facts.add(new Fact(true, guest, 1 << card, held));
        return held == 1;
    }

    public int leave(int guest) {
        needGuest(guest);
        needHere(guest);
        save();
        now.left[guest] = true;
        return value(8);
    }

    public int accuse(int card) {
        needCard(card);
        if (!now.going) {
            throw new IllegalStateException();
        }
        save();
        now.going = false;
        now.evenings++;
        now.found += card == now.culprit ? 1 : 0;
        now.score += card == now.culprit ? 21 - questions().size() : -10;
        return now.culprit;
    }

    public int guest(int guest, int what) {
        needGuest(guest);
        need(what >= 0 && what <= 7);
        return switch (what) {
            case 0 -> now.sizes[guest];
            case 1 -> now.left[guest] ? 0 : 1;
            case 2 -> (int) questions().stream().filter(f -> f.guest == guest).count();
            case 3 -> (int) proofs().stream().filter(f -> f.guest == guest).count();
            case 4 -> cardsHeld(guest, deals(), deals());
            case 5 -> cardsHeld(guest, 1, Integer.MAX_VALUE);
            case 6 -> hasLiedForCertain(guest) ? 1 : 0;
            default -> now.going ? NONE : hand(guest);
        };
    }

    private int cardsHeld(int guest, int least, int most) {
        int set = 0;
        for (int card = 0; card < 8; card++) {
            int count = dealsHeld(guest, card);
            if (count > 0 && count >= least && count <= most) {
                set |= 1 << card;
            }
        }
        return set;
    }

    private boolean hasLiedForCertain(int guest) {
        for (int[] holder : possible(now.facts)) {
            if (wrongAnswers(holder, now.facts, now.sizes.length)[guest] == 0) {
                return false;
            }
        }
        return deals() > 0;
    }

    private int hand(int guest) {
        int set = 0;
        for (int card = 0; card < 8; card++) {
            set += now.holder[card] == guest ? 1 << card : 0;
        }
        return set;
    }

    public int value(int what) {
        need(what >= 0 && what <= 9);
        int stay = 0;
        for (boolean left : now.left) {
            stay += left ? 0 : 1;
        }
        return switch (what) {
            case 0 -> now.sizes.length;
            case 1 -> now.going ? 1 : 0;
            case 2 -> questions().size();
            case 3 -> proofs().size();
            case 4 -> now.evenings;
            case 5 -> now.found;
            case 6 -> now.score;
            case 7 -> (int) now.s;
            case 8 -> stay;
            default -> now.going ? NONE : now.culprit;
        };
    }

    public int question(int question, int what) {
        if (question < 0 || question >= questions().size()) {
            throw new IndexOutOfBoundsException();
        }
        need(what >= 0 && what <= 2);
        Fact fact = questions().get(question);
        return what == 0 ? fact.guest : what == 1 ? fact.cards : fact.answer;
    }

    // ---- what is possible

    public int deals() {
        return possible(now.facts).size();
    }

    private int count(int card, int holder) {
        return (int) possible(now.facts).stream().filter(h -> h[card] == holder).count();
    }

    public int dealsWith(int card) {
        needCard(card);
        return count(card, NONE);
    }

    public int dealsHeld(int guest, int card) {
        needGuest(guest);
        needCard(card);
        return count(card, guest);
    }

    public int culprits() {
        int set = 0;
        for (int card = 0; card < 8; card++) {
            set += dealsWith(card) > 0 ? 1 << card : 0;
        }
        return set;
    }

    public int likeliest() {
        if (now.sizes.length == 0) {
            return NONE;
        }
        int best = 7;
        for (int card = 6; card >= 0; card--) {
            best = dealsWith(card) >= dealsWith(best) ? card : best;
        }
        return best;
    }

    public double chance(int card) {
        needCard(card);
        return deals() == 0 ? 0.0 : (double) dealsWith(card) / (double) deals();
    }

    // ---- questions

    private int left(List<int[]> deals, int guest, int cards, int answer) {
        List<Fact> facts = new ArrayList<>(now.facts);
        facts.add(new Fact(false, guest, cards, answer));
        int count = 0;
        for (int[] holder : deals) {
            count += isPossible(holder, facts, now.sizes.length) ? 1 : 0;
        }
        return count;
    }

    private int worstOf(List<int[]> deals, int guest, int cards) {
        int most = 0;
        for (int answer = 0; answer <= 8; answer++) {
            most = Math.max(most, left(deals, guest, cards, answer));
        }
        return most;
    }

    public int dealsIf(int guest, int cards, int answer) {
        needGuest(guest);
        need(cards >= 1 && cards <= 255 && answer >= 0 && answer <= 8);
        return left(possible(now.facts), guest, cards, answer);
    }

    public int worst(int guest, int cards) {
        needGuest(guest);
        need(cards >= 1 && cards <= 255);
        return worstOf(possible(now.facts), guest, cards);
    }

    public int bestCards(int guest) {
        needGuest(guest);
        List<int[]> deals = possible(now.facts);
        int best = 0;
        int least = Integer.MAX_VALUE;
        for (int high = 0; high < 8; high++) {
            // The set of the card alone has a lower number than its pairs with lower cards.
            for (int low = -1; low < high; low++) {
                int cards = 1 << high | (low < 0 ? 0 : 1 << low);
                int most = worstOf(deals, guest, cards);
                if (most < least) {
                    least = most;
                    best = cards;
                }
            }
        }
        return best;
    }

    public double leftByProof(int guest, int card) {
        needGuest(guest);
        needCard(card);
        int all = deals();
        int with = dealsHeld(guest, card);
        return all == 0 ? 0.0 : (double) (with * with + (all - with) * (all - with)) / (double) all;
    }

    // ---- text

    public int append(int value) {
        need(value >= 0 && value <= 127);
        if (text.length() >= 90) {
            throw new IllegalStateException();
        }
        text += (char) value;
        return text.length();
    }

    public int clearText() {
        int before = text.length();
        text = "";
        return before;
    }

    /** Whether some text that starts so has no syntax error. */
    static boolean canStart(String start) {
        int from = start.lastIndexOf(';') + 1;
        for (String item : start.substring(0, from).split(";", -1)) {
            if (!item.isEmpty() && !isItem(item)) {
                return false;
            }
        }
        if (start.startsWith(";") || start.contains(";;")) {
            return false;
        }
        String open = start.substring(from);
        return open.matches("|[alpg]|g[0-3]|[alp][0-3]|[alp][0-3]:|p[0-3]:[0-7]|[al][0-3]:[0-7]+")
                && isAscending(open);
    }

    private static boolean isItem(String item) {
        return item.matches("[al][0-3]:[0-7]{1,8}|p[0-3]:[0-7]|g[0-3]") && isAscending(item);
    }

    private static boolean isAscending(String item) {
        for (int i = 4; i < item.length(); i++) {
            if (item.charAt(i) <= item.charAt(i - 1)) {
                return false;
            }
        }
        return true;
    }

    public int play() {
        for (int length = 1; length <= text.length(); length++) {
            if (!canStart(text.substring(0, length))) {
                return -10 - (length - 1);
            }
        }
        if (!text.isEmpty() && !text.endsWith(";")) {
            return -10 - text.length();
        }
        State before = now.copy();
        List<State> savedBefore = new ArrayList<>(saved);
        int played = 0;
        try {
            for (String item : text.isEmpty() ? new String[0] : text.split(";")) {
                playItem(item);
                played++;
            }
        } catch (IllegalStateException | IndexOutOfBoundsException e) {
            // The item is not possible: it has changed nothing, and the rest is not played.
        }
        saved.clear();
        saved.addAll(savedBefore);
        keep(before);
        return played;
    }

    private void playItem(String item) {
        int guest = item.charAt(1) - '0';
        int cards = 0;
        for (int i = 3; i < item.length(); i++) {
            cards += 1 << item.charAt(i) - '0';
        }
        switch (item.charAt(0)) {
            case 'a' -> ask(guest, cards, false);
            case 'l' -> ask(guest, cards, true);
            case 'p' -> prove(guest, item.charAt(3) - '0');
            default -> leave(guest);
        }
    }

    // ---- state

    private void save() {
        keep(now.copy());
    }

    private void keep(State state) {
        saved.add(state);
        if (saved.size() > 4) {
            saved.remove(0);
        }
    }

    public int undo() {
        if (saved.isEmpty()) {
            throw new IllegalStateException();
        }
        now = saved.remove(saved.size() - 1);
        return saved.size();
    }

    public long digest() {
        List<Long> values = new ArrayList<>();
        values.add((long) text.length());
        for (int what = 0; what < 10; what++) {
            values.add((long) value(what));
        }
        for (int guest = 0; guest < value(0); guest++) {
            for (int what = 0; what < 8; what++) {
                values.add((long) guest(guest, what));
            }
        }
        for (int question = 0; question < value(2); question++) {
            for (int what = 0; what < 3; what++) {
                values.add((long) question(question, what));
            }
        }
        values.add((long) deals());
        for (int card = 0; card < 8; card++) {
            values.add((long) dealsWith(card));
        }
        values.add((long) saved.size());
        long h = 3529;
        for (long v : values) {
            h = 31 * h + v;
        }
        return h;
    }
}
