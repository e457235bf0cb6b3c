import java.util.ArrayList;
import java.util.List;
import java.util.function.Supplier;

/**
 * Every exception of every promise in every kind of evening: which one is thrown if several apply, and
 * that nothing changes then, neither what can be seen nor the text nor what is saved.
 */
public final class RefusalTest {
    private static final String NOTHING = "nothing";
    private static final String ARGUMENT = "java.lang.IllegalArgumentException";
    private static final String STATE = "java.lang.IllegalStateException";
    private static final String INDEX = "java.lang.IndexOutOfBoundsException";
    /** So few refused calls are made in one object that it is not used for more than 512 in all. */
    private static final int BATCH = 60;

    private static final int[] GUESTS = {Integer.MIN_VALUE, -256, -2, -1, 0, 1, 2, 3, 4, 5, 32, 256, Integer.MAX_VALUE};
    private static final int[] CARDS = {Integer.MIN_VALUE, -256, -8, -1, 0, 7, 8, 9, 32, 256, Integer.MAX_VALUE};
    private static final int[] SETS = {Integer.MIN_VALUE, -255, -1, 0, 1, 128, 255, 256, 257, 65537, Integer.MAX_VALUE};
    private static final int[] SEEDS = {Integer.MIN_VALUE, -3, -2, -1, 0, 1, 999999, 1000000, 1000001, Integer.MAX_VALUE};
    private static final int[] WHATS = {Integer.MIN_VALUE, -256, -1, 0, 2, 3, 7, 8, 9, 10, 11, 256, Integer.MAX_VALUE};
    private static final int[] ANSWERS = {Integer.MIN_VALUE, -2, -1, 0, 8, 9, 10, 256, Integer.MAX_VALUE};
    private static final int[] BYTES = {Integer.MIN_VALUE, -128, -1, 0, 97, 127, 128, 129, 255, 256, Integer.MAX_VALUE};

    /** A kind of evening, with all that its exceptions hang on: the guests that left or lied are sets. */
    private record Kind(String name, int guests, boolean going, int gone, int liars, int questions, int length,
            int saved, Supplier<SecretDinner> maker) {
        boolean hasGuest(int guest) {
            return guest >= 0 && guest < guests;
        }

        boolean isThere(int guest) {
            return going && (gone >> guest & 1) == 0;
        }
    }

    private record Attempt(String name, String due, Check.Call call) {
    }

    /** The object that the attempts are made on: it is another one for each batch. */
    private static SecretDinner house;

    public static void main(String[] args) {
        for (Kind kind : kinds()) {
            begin(kind);
            ask(kind);
            proveAndLeave(kind);
            accuseAndUndo(kind);
            guest(kind);
            valueAndQuestion(kind);
            looksAtCards(kind);
            forecasts(kind);
            append(kind);
        }
        Check.end();
    }

    // ---- the kinds of evening

    private static List<Kind> kinds() {
        String full = "p0:1;".repeat(18);
        List<Kind> kinds = new ArrayList<>();
        kinds.add(new Kind("new", 0, false, 0, 0, 0, 0, 0, SecretDinner::new));
        kinds.add(new Kind("new, with a text", 0, false, 0, 0, 0, 90, 0, () -> written(new SecretDinner(), full)));
        kinds.add(new Kind("three", 3, true, 0, 0, 0, 0, 1, () -> Houses.evening(3, 200)));
        kinds.add(new Kind("four", 4, true, 0, 0, 0, 5, 1, () -> written(Houses.evening(4, 200), "g1;x ")));
        kinds.add(new Kind("gone and liars", 4, true, 10, 6, 2, 89, 4, RefusalTest::goneAndLiars));
        kinds.add(new Kind("all gone", 3, true, 7, 0, 0, 90, 4, () -> written(allGone(), full)));
        kinds.add(new Kind("20 questions", 3, true, 0, 1, 20, 8, 4, () -> written(twentyQuestions(), "a1:0;g1;")));
        kinds.add(new Kind("over", 3, false, 4, 1, 20, 0, 4, RefusalTest::over));
        kinds.add(new Kind("over, 1 saved", 4, false, 0, 0, 0, 3, 1, RefusalTest::overAndUndone));
        kinds.add(new Kind("undone to the start", 0, false, 0, 0, 0, 4, 0, RefusalTest::undoneToTheStart));
        return kinds;
    }

    private static SecretDinner written(SecretDinner made, String text) {
        Houses.write(made, text);
        return made;
    }

    private static SecretDinner goneAndLiars() {
        SecretDinner made = Houses.evening(4, 201);
        made.ask(1, 15, true);
        made.ask(2, 255, true);
        made.leave(1);
        made.leave(3);
        return written(made, "p0:1;".repeat(17) + "g0;;");
    }

    private static SecretDinner allGone() {
        SecretDinner made = Houses.evening(3, 202);
        for (int guest = 0; guest < 3; guest++) {
            made.leave(guest);
        }
        return made;
    }

    private static SecretDinner twentyQuestions() {
        SecretDinner made = Houses.evening(3, 203);
        for (int i = 0; i < 20; i++) {
            made.ask(i % 3, 255 - i, i == 18);
        }
        return made;
    }

    private static SecretDinner over() {
        SecretDinner made = twentyQuestions();
        made.leave(2);
        made.accuse(3);
        return made;
    }

    /** The first of two evenings, with the saved state of its end alone. */
    private static SecretDinner overAndUndone() {
        SecretDinner made = Houses.evening(4, 204);
        for (int i = 0; i < 3; i++) {
            made.prove(i, i);
        }
        made.accuse(0);
        made.undo();
        made.undo();
        made.undo();
        made.undo();
        made.accuse(1);
        return written(made, "g0;");
    }

    private static SecretDinner undoneToTheStart() {
        SecretDinner made = Houses.evening(3, 205);
        made.ask(0, 1, true);
        made.undo();
        made.undo();
        return written(made, "a0:1");
    }

    // ---- the attempts, with what the document says of them

    private static void begin(Kind kind) {
        List<Attempt> attempts = new ArrayList<>();
        for (int guests : GUESTS) {
            for (int s : SEEDS) {
                boolean range = (guests == 3 || guests == 4) && s >= -1 && s <= 999999;
                String due = !range ? ARGUMENT : kind.going ? STATE : NOTHING;
                attempts.add(new Attempt("begin(" + guests + ", " + s + ")", due, () -> house.begin(guests, s)));
            }
        }
        make(kind, attempts, true);
    }

    private static void ask(Kind kind) {
        List<Attempt> attempts = new ArrayList<>();
        for (int guest : GUESTS) {
            for (int cards : SETS) {
                for (int lie = 0; lie < 2; lie++) {
                    boolean lies = lie == 1;
                    String name = "ask(" + guest + ", " + cards + ", " + lies + ")";
                    String due = dueOfAsk(kind, guest, cards, lies);
                    attempts.add(new Attempt(name, due, () -> house.ask(guest, cards, lies)));
                }
            }
        }
        make(kind, attempts, true);
    }

    private static String dueOfAsk(Kind kind, int guest, int cards, boolean lies) {
        if (!kind.hasGuest(guest)) {
            return INDEX;
        }
        if (cards < 1 || cards > 255) {
            return ARGUMENT;
        }
        boolean liesAgain = lies && (kind.liars >> guest & 1) == 1;
        return !kind.isThere(guest) || kind.questions == 20 || liesAgain ? STATE : NOTHING;
    }

    private static void proveAndLeave(Kind kind) {
        List<Attempt> attempts = new ArrayList<>();
        for (int guest : GUESTS) {
            String due = !kind.hasGuest(guest) ? INDEX : !kind.isThere(guest) ? STATE : NOTHING;
            attempts.add(new Attempt("leave(" + guest + ")", due, () -> house.leave(guest)));
            for (int card : CARDS) {
                String dueOfCard = card < 0 || card > 7 ? INDEX : due;
                attempts.add(new Attempt("prove(" + guest + ", " + card + ")", dueOfCard,
                        () -> house.prove(guest, card)));
            }
        }
        make(kind, attempts, true);
    }

    private static void accuseAndUndo(Kind kind) {
        List<Attempt> attempts = new ArrayList<>();
        for (int card : CARDS) {
            String due = card < 0 || card > 7 ? INDEX : kind.going ? NOTHING : STATE;
            attempts.add(new Attempt("accuse(" + card + ")", due, () -> house.accuse(card)));
        }
        attempts.add(new Attempt("undo()", kind.saved == 0 ? STATE : NOTHING, () -> house.undo()));
        attempts.add(new Attempt("clearText()", NOTHING, () -> house.clearText()));
        attempts.add(new Attempt("play()", NOTHING, () -> house.play()));
        make(kind, attempts, true);
    }

    private static void guest(Kind kind) {
        List<Attempt> attempts = new ArrayList<>();
        for (int guest : GUESTS) {
            for (int what : WHATS) {
                String due = !kind.hasGuest(guest) ? INDEX : what < 0 || what > 7 ? ARGUMENT : NOTHING;
                attempts.add(new Attempt("guest(" + guest + ", " + what + ")", due, () -> house.guest(guest, what)));
            }
        }
        make(kind, attempts, false);
    }

    private static void valueAndQuestion(Kind kind) {
        List<Attempt> attempts = new ArrayList<>();
        for (int what : WHATS) {
            attempts.add(new Attempt("value(" + what + ")", what < 0 || what > 9 ? ARGUMENT : NOTHING,
                    () -> house.value(what)));
        }
        int[] numbers = {Integer.MIN_VALUE, -1, 0, kind.questions - 1, kind.questions, 19, 20, 21, Integer.MAX_VALUE};
        for (int number : numbers) {
            for (int what : WHATS) {
                boolean asked = number >= 0 && number < kind.questions;
                String due = !asked ? INDEX : what < 0 || what > 2 ? ARGUMENT : NOTHING;
                attempts.add(new Attempt("question(" + number + ", " + what + ")", due,
                        () -> house.question(number, what)));
            }
        }
        make(kind, attempts, false);
    }

    private static void looksAtCards(Kind kind) {
        List<Attempt> attempts = new ArrayList<>();
        for (int card : CARDS) {
            String due = card < 0 || card > 7 ? INDEX : NOTHING;
            attempts.add(new Attempt("dealsWith(" + card + ")", due, () -> house.dealsWith(card)));
            attempts.add(new Attempt("chance(" + card + ")", due, () -> house.chance(card)));
            for (int guest : GUESTS) {
                String both = kind.hasGuest(guest) ? due : INDEX;
                String name = "(" + guest + ", " + card + ")";
                attempts.add(new Attempt("dealsHeld" + name, both, () -> house.dealsHeld(guest, card)));
                attempts.add(new Attempt("leftByProof" + name, both, () -> house.leftByProof(guest, card)));
            }
        }
        make(kind, attempts, false);
    }

    private static void forecasts(Kind kind) {
        List<Attempt> attempts = new ArrayList<>();
        for (int guest : GUESTS) {
            String due = kind.hasGuest(guest) ? NOTHING : INDEX;
            attempts.add(new Attempt("bestCards(" + guest + ")", due, () -> house.bestCards(guest)));
            for (int cards : SETS) {
                String dueOfSet = !kind.hasGuest(guest) ? INDEX : cards < 1 || cards > 255 ? ARGUMENT : NOTHING;
                attempts.add(new Attempt("worst(" + guest + ", " + cards + ")", dueOfSet,
                        () -> house.worst(guest, cards)));
                for (int answer : ANSWERS) {
                    boolean wrong = dueOfSet.equals(NOTHING) && (answer < 0 || answer > 8);
                    attempts.add(new Attempt("dealsIf(" + guest + ", " + cards + ", " + answer + ")",
                            wrong ? ARGUMENT : dueOfSet, () -> house.dealsIf(guest, cards, answer)));
                }
            }
        }
        make(kind, attempts, false);
    }

    private static void append(Kind kind) {
        List<Attempt> attempts = new ArrayList<>();
        for (int value : BYTES) {
            String due = value < 0 || value > 127 ? ARGUMENT : kind.length == 90 ? STATE : NOTHING;
            attempts.add(new Attempt("append(" + value + ")", due, () -> house.append(value)));
        }
        make(kind, attempts, true);
    }

    // ---- how they are made

    /** A move that is allowed is made on an object of its own; all others are made one after the other. */
    private static void make(Kind kind, List<Attempt> attempts, boolean moves) {
        List<Attempt> harmless = new ArrayList<>();
        for (Attempt attempt : attempts) {
            if (moves && attempt.due.equals(NOTHING)) {
                house = kind.maker.get();
                outcome(kind, attempt);
            } else {
                harmless.add(attempt);
            }
        }
        for (int from = 0; from < harmless.size(); from += BATCH) {
            makeBatch(kind, harmless.subList(from, Math.min(from + BATCH, harmless.size())));
        }
    }

    private static void makeBatch(Kind kind, List<Attempt> batch) {
        house = kind.maker.get();
        long digest = house.digest();
        for (Attempt attempt : batch) {
            outcome(kind, attempt);
            Check.due(kind.name + ": " + attempt.name + " changes nothing", house.digest(), digest);
        }
        String first = kind.name + ", from " + batch.get(0).name + " on: ";
        Check.due(first + "what is seen", Houses.seen(house), Houses.seen(kind.maker.get()));
        Check.due(first + "what is saved", Houses.savedStates(refusedTwin(kind, batch)),
                Houses.savedStates(kind.maker.get()));
        Check.due(first + "what is played", Houses.played(refusedTwin(kind, batch)),
                Houses.played(kind.maker.get()));
    }

    private static SecretDinner refusedTwin(Kind kind, List<Attempt> batch) {
        house = kind.maker.get();
        for (Attempt attempt : batch) {
            outcome(kind, attempt);
        }
        return house;
    }

    private static void outcome(Kind kind, Attempt attempt) {
        String got = NOTHING;
        try {
            attempt.call.run();
        } catch (Exception e) {
            got = e.getClass().getName();
        }
        Check.due(kind.name + ": what " + attempt.name + " throws", got, attempt.due);
    }
}
