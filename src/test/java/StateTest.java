/** Promises 23 and 24: undo and digest. */
public final class StateTest {
    private static final Class<IllegalStateException> STATE = IllegalStateException.class;

    public static void main(String[] args) {
        undoEachMove();
        undoKeepsFourStates();
        undoIsLastInFirstOut();
        undoLeavesTheText();
        refusedCallsSaveNothing();
        undoneMovesCanBeMadeAnew();
        digestOfANewObject();
        digestByItsWords();
        digestSeesEachPart();
        Check.end();
    }

    private static void move(SecretDinner house, int number) {
        switch (number) {
            case 0 -> house.begin(3, 50);
            case 1 -> house.ask(1, 77, true);
            case 2 -> house.prove(0, 3);
            case 3 -> house.leave(2);
            case 4 -> house.play();
            case 5 -> house.ask(1, 77, false);
            case 6 -> house.accuse(6);
            default -> house.begin(4, SecretDinner.NONE);
        }
    }

    // ---- promise 23

    /** A new object behind the first moves, so that none is used for more than 512 calls. */
    private static SecretDinner afterMoves(int number) {
        SecretDinner house = new SecretDinner();
        Houses.write(house, "a1:0246;p1:1;");
        for (int i = 0; i < number; i++) {
            move(house, i);
        }
        return house;
    }

    private static void undoEachMove() {
        for (int number = 0; number < 8; number++) {
            SecretDinner house = afterMoves(number + 1);
            Check.due("undo move " + number, house.undo(), Math.min(number, 3));
            String before = Houses.seen(afterMoves(number));
            Check.due("state before move " + number, Houses.seen(house), before);
            move(house, number);
            Check.due("state behind move " + number, house.digest(), afterMoves(number + 1).digest());
            house = afterMoves(number + 1);
            house.undo();
            move(house, number);
            String behind = Houses.seen(afterMoves(number + 1));
            Check.due("state behind move " + number, Houses.seen(house), behind);
        }
    }

    private static SecretDinner afterQuestions(int number) {
        SecretDinner house = Houses.evening(4, 51);
        for (int i = 0; i < number; i++) {
            house.ask(i % 4, 3 * i + 1, i == 5);
        }
        return house;
    }

    private static void undoKeepsFourStates() {
        for (int back = 1; back <= 4; back++) {
            SecretDinner house = afterQuestions(11);
            for (int i = 1; i <= back; i++) {
                Check.due("undo", house.undo(), 4 - i);
            }
            Check.due("state", Houses.seen(house), Houses.seen(afterQuestions(11 - back)));
        }
        SecretDinner house = afterQuestions(11);
        for (int i = 0; i < 4; i++) {
            house.undo();
        }
        Check.refused(house, "the oldest are dropped", STATE, house::undo);
        Check.refused(house, "undo is not undoable", STATE, house::undo);
        house.prove(0, 0);
        Check.due("one state again", house.undo(), 0);
        Check.due("state", Houses.seen(house), Houses.seen(afterQuestions(7)));
    }

    private static void undoIsLastInFirstOut() {
        SecretDinner house = Houses.evening(3, 52);
        house.prove(0, 0);
        house.prove(0, 0);
        house.prove(0, 0);
        Check.due("a call that changes little is saved, too", house.undo(), 3);
        Check.due("proofs", house.value(3), 2);
        Check.due("undo", house.undo(), 2);
        house.leave(1);
        Check.due("undo", house.undo(), 2);
        Check.due("proofs", house.value(3), 1);
        Check.due("here", house.guest(1, 1), 1);
        Check.due("undo", house.undo(), 1);
        Check.due("undo", house.undo(), 0);
        Check.due("no evening has begun", house.value(0), 0);
        Check.due("s", house.value(7), 1);
        Check.due("no deals", house.deals(), 0);
        Check.refused(house, "nothing is left", STATE, house::undo);
    }

    private static void undoLeavesTheText() {
        SecretDinner house = Houses.evening(3, 53);
        house.append('g');
        house.leave(0);
        house.append('1');
        house.append(';');
        house.undo();
        Check.due("the text stays", house.play(), 1);
        Check.due("guest 1 has left", house.guest(1, 1), 0);
        house.clearText();
        house.undo();
        Check.due("an emptied text stays empty", house.clearText(), 0);
        Check.due("guest 1 is here", house.guest(1, 1), 1);
    }

    private static void refusedCallsSaveNothing() {
        SecretDinner house = Houses.evening(3, 54);
        Check.refused(house, "begin", STATE, () -> house.begin(3, 1));
        Check.refused(house, "ask", IndexOutOfBoundsException.class, () -> house.ask(3, 1, false));
        Check.refused(house, "accuse", IndexOutOfBoundsException.class, () -> house.accuse(8));
        Check.due("begin alone is saved", house.undo(), 0);
    }

    private static void undoneMovesCanBeMadeAnew() {
        SecretDinner liar = Houses.evening(4, 55);
        liar.ask(0, 15, true);
        String seen = Houses.seen(liar);
        SecretDinner house = Houses.evening(4, 55);
        house.ask(0, 15, true);
        house.undo();
        house.ask(0, 15, true);
        Check.due("the lie was undone with its question", Houses.seen(house), seen);
        house = Houses.evening(4, 55);
        house.ask(0, 15, true);
        house.undo();
        house.undo();
        house.begin(3, 56);
        Check.due("another evening", house.deals(), 1680);
        house.undo();
        house.begin(4, 55);
        house.ask(0, 15, true);
        Check.due("and the first one again", Houses.seen(house), seen);
    }

    // ---- promise 24

    private static long hash(long... values) {
        long h = 3529;
        for (long v : values) {
            h = 31 * h + v;
        }
        return h;
    }

    private static void digestOfANewObject() {
        Check.due("new", new SecretDinner().digest(),
                hash(0, 0, 0, 0, 0, 0, 0, 0, 1, 0, -1, 0, 0, 0, 0, 0, 0, 0, 0, 0, 0));
    }

    private static long byItsWords(SecretDinner house, int length, int savedStates) {
        long h = hash(length);
        for (int what = 0; what < 10; what++) {
            h = 31 * h + house.value(what);
        }
        for (int guest = 0; guest < house.value(0); guest++) {
            for (int what = 0; what < 8; what++) {
                h = 31 * h + house.guest(guest, what);
            }
        }
        for (int question = 0; question < house.value(2); question++) {
            for (int what = 0; what < 3; what++) {
                h = 31 * h + house.question(question, what);
            }
        }
        h = 31 * h + house.deals();
        for (int card = 0; card < 8; card++) {
            h = 31 * h + house.dealsWith(card);
        }
        return 31 * h + savedStates;
    }

    private static void digestByItsWords() {
        SecretDinner house = new SecretDinner();
        Houses.write(house, "a1:0246;p1:1;");
        for (int number = 0; number < 8; number++) {
            Check.due("digest", house.digest(), byItsWords(house, 13, Math.min(number, 4)));
            move(house, number);
        }
        house.clearText();
        Check.due("digest", house.digest(), byItsWords(house, 0, 4));
        Check.due("a look changes nothing", house.digest(), house.digest());
    }

    private static void digestSeesEachPart() {
        SecretDinner house = Houses.evening(4, 57);
        long first = house.digest();
        house.append('a');
        Check.due("the text's length", house.digest() == first, false);
        house.clearText();
        Check.due("the same again", house.digest(), first);
        house.append('x');
        long x = house.digest();
        house.clearText();
        house.append('y');
        Check.due("the bytes do not count", house.digest(), x);
    }
}
