/** Promises 23 and 24: undo and digest. */
public final class StateTest {
    private static final Class<IllegalStateException> STATE = IllegalStateException.class;

    public static void main(String[] args) {
        undoEachMove();
        undoKeepsFourStates();
        undoIsLastInFirstOut();
        undoLeavesTheText();
        refusedCallsSaveNothing();
        undoneMovesCanBeMadeAnew();
        digestOfANewObject();
        digestByItsWords();
        digestSeesEachPart();
        Check.end();
    }

    private static SecretDinner evening(int guests, int s) {
        SecretDinner house = new SecretDinner();
        house.begin(guests, s);
        return house;
    }

    /** All answers but those about the text and the saved states, in one line. */
    private static String seen(SecretDinner house) {
        StringBuilder line = new StringBuilder();
        for (int what = 0; what < 10; what++) {
            line.append(house.value(what)).append(' ');
        }
        for (int guest = 0; guest < house.value(0); guest++) {
            for (int what = 0; what < 8; what++) {
                line.append(house.guest(guest, what)).append(' ');
            }
            for (int card = 0; card < 8; card++) {
                line.append(house.dealsHeld(guest, card)).append(' ');
            }
            line.append(house.bestCards(guest)).append(' ');
        }
        for (int question = 0; question < house.value(2); question++) {
            for (int what = 0; what < 3; what++) {
                line.append(house.question(question, what)).append(' ');
            }
        }
        line.append(house.deals()).append(' ').append(house.culprits());
        for (int card = 0; card < 8; card++) {
            line.append(' ').append(house.dealsWith(card));
        }
        return line.toString();
    }

    private static void move(SecretDinner house, int number) {
        switch (number) {
            case 0 -> house.begin(3, 50);
            case 1 -> house.ask(1, 77, true);
            case 2 -> house.prove(0, 3);
            case 3 -> house.leave(2);
            case 4 -> house.play();
            case 5 -> house.ask(1, 77, false);
            case 6 -> house.accuse(6);
            default -> house.begin(4, SecretDinner.NONE);
        }
    }

    // ---- promise 23

    private static void undoEachMove() {
        SecretDinner house = new SecretDinner();
        for (char c : "a1:0246;p1:1;".toCharArray()) {
            house.append(c);
        }
        for (int number = 0; number < 8; number++) {
            String before = seen(house);
            int count = Math.min(number, 3);
            move(house, number);
            String behind = seen(house);
            Check.due("undo move " + number, house.undo(), count);
            Check.due("state before move " + number, seen(house), before);
            move(house, number);
            Check.due("state behind move " + number, seen(house), behind);
        }
    }

    private static void undoKeepsFourStates() {
        SecretDinner house = evening(4, 51);
        String[] states = new String[12];
        for (int i = 0; i < 11; i++) {
            states[i] = seen(house);
            house.ask(i % 4, 3 * i + 1, i == 5);
        }
        for (int i = 0; i < 4; i++) {
            Check.due("undo", house.undo(), 3 - i);
            Check.due("state", seen(house), states[10 - i]);
        }
        Check.refused(house, "the oldest are dropped", STATE, house::undo);
        Check.refused(house, "undo is not undoable", STATE, house::undo);
        house.prove(0, 0);
        Check.due("one state again", house.undo(), 0);
        Check.due("state", seen(house), states[7]);
    }

    private static void undoIsLastInFirstOut() {
        SecretDinner house = evening(3, 52);
        house.prove(0, 0);
        house.prove(0, 0);
        house.prove(0, 0);
        Check.due("a call that changes little is saved, too", house.undo(), 3);
        Check.due("proofs", house.value(3), 2);
        Check.due("undo", house.undo(), 2);
        house.leave(1);
        Check.due("undo", house.undo(), 2);
        Check.due("proofs", house.value(3), 1);
        Check.due("here", house.guest(1, 1), 1);
        Check.due("undo", house.undo(), 1);
        Check.due("undo", house.undo(), 0);
        Check.due("no evening has begun", house.value(0), 0);
        Check.due("s", house.value(7), 1);
        Check.due("no deals", house.deals(), 0);
        Check.refused(house, "nothing is left", STATE, house::undo);
    }

    private static void undoLeavesTheText() {
        SecretDinner house = evening(3, 53);
        house.append('g');
        house.leave(0);
        house.append('1');
        house.append(';');
        house.undo();
        Check.due("the text stays", house.play(), 1);
        Check.due("guest 1 has left", house.guest(1, 1), 0);
        house.clearText();
        house.undo();
        Check.due("an emptied text stays empty", house.clearText(), 0);
        Check.due("guest 1 is here", house.guest(1, 1), 1);
    }

    private static void refusedCallsSaveNothing() {
        SecretDinner house = evening(3, 54);
        Check.refused(house, "begin", STATE, () -> house.begin(3, 1));
        Check.refused(house, "ask", IndexOutOfBoundsException.class, () -> house.ask(3, 1, false));
        Check.refused(house, "accuse", IndexOutOfBoundsException.class, () -> house.accuse(8));
        Check.due("begin alone is saved", house.undo(), 0);
    }

    private static void undoneMovesCanBeMadeAnew() {
        SecretDinner house = evening(4, 55);
        house.ask(0, 15, true);
        String liar = seen(house);
        house.undo();
        house.ask(0, 15, true);
        Check.due("the lie was undone with its question", seen(house), liar);
        house.undo();
        house.undo();
        house.begin(3, 56);
        Check.due("another evening", house.deals(), 1680);
        house.undo();
        house.begin(4, 55);
        house.ask(0, 15, true);
        Check.due("and the first one again", seen(house), liar);
    }

    // ---- promise 24

    private static long hash(long... values) {
        long h = 3529;
        for (long v : values) {
            h = 31 * h + v;
        }
        return h;
    }

    private static void digestOfANewObject() {
        Check.due("new", new SecretDinner().digest(),
                hash(0, 0, 0, 0, 0, 0, 0, 0, 1, 0, -1, 0, 0, 0, 0, 0, 0, 0, 0, 0, 0));
    }

    private static long byItsWords(SecretDinner house, int length, int savedStates) {
        long h = hash(length);
        for (int what = 0; what < 10; what++) {
            h = 31 * h + house.value(what);
        }
        for (int guest = 0; guest < house.value(0); guest++) {
            for (int what = 0; what < 8; what++) {
                h = 31 * h + house.guest(guest, what);
            }
        }
        for (int question = 0; question < house.value(2); question++) {
            for (int what = 0; what < 3; what++) {
                h = 31 * h + house.question(question, what);
            }
        }
        h = 31 * h + house.deals();
        for (int card = 0; card < 8; card++) {
            h = 31 * h + house.dealsWith(card);
        }
        return 31 * h + savedStates;
    }

    private static void digestByItsWords() {
        SecretDinner house = new SecretDinner();
        for (char c : "a1:0246;p1:1;".toCharArray()) {
            house.append(c);
        }
        for (int number = 0; number < 8; number++) {
            Check.due("digest", house.digest(), byItsWords(house, 13, Math.min(number, 4)));
            move(house, number);
        }
        house.clearText();
        Check.due("digest", house.digest(), byItsWords(house, 0, 4));
        Check.due("a look changes nothing", house.digest(), house.digest());
    }

    private static void digestSeesEachPart() {
        SecretDinner house = evening(4, 57);
        long first = house.digest();
        house.append('a');
        Check.due("the text's length", house.digest() == first, false);
        house.clearText();
        Check.due("the same again", house.digest(), first);
        house.append('x');
        long x = house.digest();
        house.clearText();
        house.append('y');
        Check.due("the bytes do not count", house.digest(), x);
    }
}
