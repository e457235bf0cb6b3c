import java.math.BigInteger;

/** The edges that the promises 20 to 24 name, and "Text" and "Undo" in "Terms": a test for each sentence. */
public final class EdgeTextTest {
    private static final Class<IllegalArgumentException> ARGUMENT = IllegalArgumentException.class;
    private static final Class<IllegalStateException> STATE = IllegalStateException.class;

    public static void main(String[] args) {
        bytesFromZeroTo127();
        ninetyBytes();
        clearEmptyAndFull();
        oldBytesAreGone();
        noItems();
        everyFirstByte();
        everyGuestByte();
        everyByteBehindTheGuest();
        everyCardByte();
        everyByteBehindACard();
        oneToEightCards();
        oneCardToAProof();
        ascendingCards();
        noSpaces();
        textEndsTooEarly();
        errorAtFirstAndLastByte();
        firstErrorOfSeveral();
        errorComesBeforeItems();
        errorWithoutAnEvening();
        errorSavesNothing();
        itemsUpToTheFirstImpossible();
        guestWhoIsNotThere();
        eachReasonToStop();
        theWholeTextIsPlayed();
        playTwice();
        playIsOneState();
        playDropsTheOldest();
        noSavedState();
        fourSavedStates();
        theFifthDropsTheOldest();
        eachUndoableCallSaves();
        otherCallsSaveNothing();
        refusedCallsDropNothing();
        savedAndRestoredInTurns();
        undoLeavesTheText();
        undoRestoresEveryNumber();
        digestOfEachSize();
        digestOfEachSavedState();
        digestOfALongWay();
        Check.end();
    }

    private static int playOf(String text, int guests) {
        SecretDinner house = Houses.evening(guests, 130);
        Houses.write(house, text);
        return house.play();
    }

    private static void dueError(String text, int position) {
        Check.due("play of \"" + text + "\"", playOf(text, 4), -10 - position);
    }

    // ---- promises 20 and 21: append, clearText

    private static void bytesFromZeroTo127() {
        SecretDinner house = new SecretDinner();
        for (int odd : new int[] {Integer.MIN_VALUE, -256, -128, -2, -1, 128, 129, 255, 256, Integer.MAX_VALUE}) {
            Check.refused(house, "append " + odd, ARGUMENT, () -> house.append(odd));
        }
        Check.due("the smallest", house.append(0), 1);
        Check.due("the greatest", house.append(127), 2);
        Check.due("a byte 0 cannot stand there", house.play(), -10);
        house.clearText();
        for (int value = 0; value < 80; value++) {
            Check.due("append " + value, house.append(value), value + 1);
        }
    }

    private static void ninetyBytes() {
        SecretDinner house = new SecretDinner();
        for (int round = 0; round < 2; round++) {
            for (int i = 1; i <= 89; i++) {
                house.append('x');
            }
            Check.due("byte 90", house.append('x'), 90);
            Check.refused(house, "byte 91", STATE, () -> house.append('x'));
            Check.refused(house, "byte 91, out of range", ARGUMENT, () -> house.append(128));
            Check.refused(house, "byte 91, out of range", ARGUMENT, () -> house.append(-1));
            Check.due("the length that it had", house.clearText(), 90);
        }
    }

    private static void clearEmptyAndFull() {
        SecretDinner house = new SecretDinner();
        Check.due("empty", house.clearText(), 0);
        Check.due("still empty", house.clearText(), 0);
        house.append('a');
        Check.due("one byte", house.clearText(), 1);
        Houses.write(house, "p0:1;".repeat(18));
        Check.due("full", house.clearText(), 90);
        Check.due("empty again", house.clearText(), 0);
        Check.due("from the start", house.append('g'), 1);
    }

    /** The bytes of an emptied text do not stand behind those of a shorter one. */
    private static void oldBytesAreGone() {
        String text = "a0:1;p1:2;g2;l1:0347;";
        for (int length = 0; length < text.length(); length++) {
            SecretDinner house = Houses.evening(3, 130);
            Houses.write(house, text);
            Houses.write(house, text.substring(0, length));
            Check.due("the first " + length + " bytes", house.play(), playOf(text.substring(0, length), 3));
        }
    }

    // ---- text

    /** "There may be no items." */
    private static void noItems() {
        SecretDinner house = Houses.evening(3, 131);
        Check.due("none to play", house.play(), 0);
        house.append(';');
        Check.due("a semicolon alone is no item", house.play(), -10);
        Check.due("nor behind an item", playOf("g0;;", 4), -13);
    }

    private static void everyFirstByte() {
        for (int value = 0; value < 128; value++) {
            char sign = (char) value;
            int due = sign == 'a' || sign == 'l' || sign == 'p' || sign == 'g' ? -11 : -10;
            Check.due("first byte " + value, playOf(String.valueOf(sign), 3), due);
            Check.due("first byte of an item " + value, playOf("g1;" + sign, 3), due - 3);
        }
    }

    /** "A guest digit 0 to 3", also if there are but three guests. */
    private static void everyGuestByte() {
        for (String kind : new String[] {"a", "l", "p", "g"}) {
            for (int value = 0; value < 128; value++) {
                int due = value >= '0' && value <= '3' ? -12 : -11;
                Check.due("guest byte " + value, playOf(kind + (char) value, 3), due);
            }
        }
    }

    /** A colon, or the semicolon of "g". */
    private static void everyByteBehindTheGuest() {
        for (String start : new String[] {"a0", "l1", "p2", "g3"}) {
            for (int value = 0; value < 128; value++) {
                boolean leaves = start.charAt(0) == 'g';
                int due = value != (leaves ? ';' : ':') ? -12 : leaves ? 1 : -13;
                Check.due(start + " and byte " + value, playOf(start + (char) value, 4), due);
            }
        }
    }

    /** "Card digits 0 to 7": one has to stand there. */
    private static void everyCardByte() {
        for (String start : new String[] {"a0:", "l1:", "p2:"}) {
            for (int value = 0; value < 128; value++) {
                int due = value >= '0' && value <= '7' ? -14 : -13;
                Check.due(start + " and byte " + value, playOf(start + (char) value, 4), due);
            }
        }
    }

    private static void everyByteBehindACard() {
        for (String start : new String[] {"a0:4", "l1:4", "p2:4"}) {
            for (int value = 0; value < 128; value++) {
                boolean higher = start.charAt(0) != 'p' && value >= '5' && value <= '7';
                int due = value == ';' ? 1 : higher ? -15 : -14;
                Check.due(start + " and byte " + value, playOf(start + (char) value, 4), due);
            }
        }
    }

    /** "One to eight card digits": none, one, eight, nine. */
    private static void oneToEightCards() {
        for (String kind : new String[] {"a", "l"}) {
            dueError(kind + "0:;", 3);
            Check.due("one", playOf(kind + "0:0;", 4), 1);
            Check.due("one, the last", playOf(kind + "0:7;", 4), 1);
            Check.due("eight", playOf(kind + "0:01234567;", 4), 1);
            dueError(kind + "0:012345677;", 11);
            dueError(kind + "0:012345670;", 11);
            dueError(kind + "0:012345678;", 11);
        }
        SecretDinner house = Houses.evening(4, 132);
        Houses.write(house, "a0:01234567;a1:0;a2:7;a3:0246;");
        house.play();
        int[] sets = {255, 1, 128, 85};
        for (int i = 0; i < 4; i++) {
            Check.due("the set of question " + i, house.question(i, 1), sets[i]);
            Check.due("the guest of question " + i, house.question(i, 0), i);
        }
    }

    private static void oneCardToAProof() {
        Check.due("the first card", playOf("p0:0;", 4), 1);
        Check.due("the last card", playOf("p3:7;", 4), 1);
        dueError("p0:;", 3);
        dueError("p0:01;", 4);
        dueError("p0:8;", 3);
        SecretDinner house = Houses.eveningWithLastHand(7);
        Houses.write(house, "p3:7;");
        house.play();
        Check.due("that card", house.guest(3, 4), 128);
    }

    /** "A card digit that is not greater than the one before it, too". */
    private static void ascendingCards() {
        for (int first = 0; first < 8; first++) {
            for (int second = 0; second < 8; second++) {
                int due = second > first ? 1 : -14;
                Check.due("cards " + first + second, playOf("a1:" + first + second + ";", 3), due);
            }
        }
        dueError("l1:0122;", 6);
        dueError("l1:0120;", 6);
        Check.due("gaps are allowed", playOf("l1:0257;", 3), 1);
    }

    /** "There are no spaces." */
    private static void noSpaces() {
        String text = "a0:13;g0;";
        for (int at = 0; at <= text.length(); at++) {
            for (char space : new char[] {' ', '\t', '\n', '\r', 0}) {
                dueError(text.substring(0, at) + space + text.substring(at), at);
            }
        }
    }

    /** "Or the length of the text if the text ends too early". */
    private static void textEndsTooEarly() {
        String text = "g0;a1:0134;l2:7;p1:5;";
        for (int length = 0; length <= text.length(); length++) {
            String start = text.substring(0, length);
            boolean whole = start.isEmpty() || start.endsWith(";");
            int played = start.length() - start.replace(";", "").length();
            Check.due("\"" + start + "\"", playOf(start, 3), whole ? played : -10 - length);
        }
    }

    /** From -10, the first byte, to -99, the last one of a full text, and to -100, behind it. */
    private static void errorAtFirstAndLastByte() {
        dueError("x", 0);
        dueError("x" + "0".repeat(89), 0);
        dueError("g0;".repeat(29) + "g0x", 89);
        dueError("g0;".repeat(29) + "g0:", 89);
        dueError("p0:1;".repeat(17) + "p0:11", 89);
        dueError("p0:1;".repeat(17) + "g0;g0", 90);
        dueError("p0:1;".repeat(17) + "a0:17", 90);
        dueError("g0;".repeat(28) + "p0:1;a", 90);
        dueError("g0;".repeat(27) + "a0:012345", 90);
        Check.due("no error in 90 bytes", playOf("g0;".repeat(26) + "a0:01234567;", 4), 1);
    }

    private static void firstErrorOfSeveral() {
        dueError("a4:8;", 1);
        dueError("a0:8x", 3);
        dueError("g0;a1:21;x", 7);
        dueError("zz", 0);
    }

    // ---- promise 22: play

    /** "Then nothing changes": not even the items before the error are played. */
    private static void errorComesBeforeItems() {
        SecretDinner house = Houses.evening(4, 133);
        Houses.write(house, "a0:01;p1:2;g2;x");
        String before = Houses.seen(house);
        Check.due("an error", house.play(), -24);
        Check.due("nothing has changed", Houses.seen(house), before);
        Check.due("the text stays", house.append(';'), 16);
    }

    private static void errorWithoutAnEvening() {
        SecretDinner house = new SecretDinner();
        Houses.write(house, "a0:0;g");
        Check.due("before the first evening", house.play(), -16);
        house.append('1');
        house.append(';');
        Check.due("no error, but no guest", house.play(), 0);
        house.begin(3, 0);
        house.accuse(0);
        Check.due("behind the evening", house.play(), 0);
        house.append(' ');
        Check.due("an error behind the evening", house.play(), -18);
    }

    /** "If there is no syntax error": a play with an error saves nothing, and drops nothing. */
    private static void errorSavesNothing() {
        SecretDinner house = Houses.evening(3, 134);
        house.prove(0, 0);
        house.prove(0, 1);
        house.append('!');
        long before = house.digest();
        Check.due("an error", house.play(), -10);
        Check.due("nothing is saved", house.digest(), before);
        house.prove(0, 2);
        Check.due("an error", house.play(), -10);
        for (int i = 3; i >= 0; i--) {
            Check.due("undo", house.undo(), i);
        }
        Check.due("begin has not been dropped", house.value(0), 0);
    }

    private static void itemsUpToTheFirstImpossible() {
        SecretDinner house = Houses.evening(4, 135);
        Houses.write(house, "p0:0;g1;a0:1;p1:3;a0:2;g2;");
        Check.due("three", house.play(), 3);
        Check.due("the proof before it", house.value(3), 1);
        Check.due("the question before it", house.value(2), 1);
        Check.due("none behind it", house.value(8), 3);
        Check.due("the text stays", house.clearText(), 26);
    }

    /** "A guest who is not there, too": guest 3 of three guests. */
    private static void guestWhoIsNotThere() {
        for (String item : new String[] {"a3:0;", "l3:01234567;", "p3:7;", "g3;"}) {
            Check.due(item + " of four", playOf("g0;" + item + "g1;", 4), 3);
            Check.due(item + " of three", playOf("g0;" + item + "g1;", 3), 1);
            Check.due(item + " first of three", playOf(item + "g1;", 3), 0);
        }
    }

    /** Each thing that makes a call throw IllegalStateException stops the text. */
    private static void eachReasonToStop() {
        Check.due("asked behind leaving", playOf("g0;a0:0;g1;", 4), 1);
        Check.due("a lie behind leaving", playOf("g0;l0:0;g1;", 4), 1);
        Check.due("a proof behind leaving", playOf("g0;p0:0;g1;", 4), 1);
        Check.due("leaving twice", playOf("g0;g0;g1;", 4), 1);
        Check.due("a second lie", playOf("l0:0;a0:0;l0:0;g1;", 4), 2);
        Check.due("lies of all", playOf("l0:0;l1:0;l2:0;l3:0;g1;", 4), 5);
        SecretDinner house = Houses.evening(3, 136);
        for (int i = 0; i < 19; i++) {
            house.ask(0, 1, false);
        }
        Houses.write(house, "a0:0;l1:1;g1;");
        Check.due("question 21", house.play(), 1);
        Check.due("20 questions", house.value(2), 20);
        Check.due("nobody has left", house.value(8), 3);
        Houses.write(house, "p0:0;g1;");
        Check.due("proofs and leaving go on", house.play(), 2);
    }

    private static void theWholeTextIsPlayed() {
        Check.due("18 proofs", playOf("p0:1;".repeat(18), 4), 18);
        Check.due("18 questions", playOf("a2:6;".repeat(18), 4), 18);
        SecretDinner house = Houses.evening(4, 137);
        Houses.write(house, "a0:0;".repeat(14) + "l1:0;g0;g1;g2;g3;g3;");
        Check.due("all but the last", house.play(), 19);
        Check.due("15 questions", house.value(2), 15);
        Check.due("nobody is here", house.value(8), 0);
    }

    /** "The text stays as it is": it can be played again. */
    private static void playTwice() {
        SecretDinner house = Houses.evening(3, 138);
        Houses.write(house, "a0:0;p1:1;");
        for (int i = 1; i <= 5; i++) {
            Check.due("both", house.play(), 2);
            Check.due("questions", house.value(2), i);
            Check.due("proofs", house.value(3), i);
        }
        Check.due("the text", house.clearText(), 10);
        Check.due("the text is empty", house.play(), 0);
    }

    /** "One saved state, also if no item is played". */
    private static void playIsOneState() {
        SecretDinner house = Houses.evening(3, 139);
        String before = Houses.seen(house);
        Houses.write(house, "a0:0;a0:1;a0:2;p1:1;g2;");
        Check.due("five", house.play(), 5);
        Check.due("one state for five", house.undo(), 1);
        Check.due("all five are undone", Houses.seen(house), before);
        SecretDinner other = new SecretDinner();
        Check.due("no items", other.play(), 0);
        Houses.write(other, "g0;");
        Check.due("none is possible", other.play(), 0);
        Check.due("two states for nothing", other.undo(), 1);
        Check.due("one", other.undo(), 0);
        Check.refused(other, "no more", STATE, other::undo);
    }

    private static void playDropsTheOldest() {
        SecretDinner house = Houses.evening(3, 140);
        for (int i = 0; i < 4; i++) {
            Check.due("no items", house.play(), 0);
        }
        for (int i = 3; i >= 0; i--) {
            Check.due("undo", house.undo(), i);
        }
        Check.refused(house, "begin has been dropped", STATE, house::undo);
        Check.due("the evening stays", house.value(1), 1);
    }

    // ---- promise 23: undo

    private static void noSavedState() {
        SecretDinner house = new SecretDinner();
        Check.refused(house, "a new object", STATE, house::undo);
        house.begin(3, 0);
        Check.due("one", house.undo(), 0);
        Check.refused(house, "undo is not undone", STATE, house::undo);
        Check.due("as a new object", house.digest(), new SecretDinner().digest());
    }

    private static void fourSavedStates() {
        SecretDinner house = new SecretDinner();
        long[] digests = new long[5];
        house.begin(4, 141);
        for (int i = 0; i < 3; i++) {
            digests[i] = house.digest();
            house.ask(i, 15, true);
        }
        for (int i = 2; i >= 0; i--) {
            Check.due("undo", house.undo(), i + 1);
            Check.due("state " + i, house.digest(), digests[i]);
        }
        Check.due("the first of four", house.undo(), 0);
        Check.due("a new object", house.digest(), new SecretDinner().digest());
    }

    /** "At most 4 states are saved, and the oldest is dropped first." */
    private static void theFifthDropsTheOldest() {
        for (int more = 0; more < 6; more++) {
            SecretDinner house = Houses.evening(4, 142);
            long[] states = new long[4 + more];
            for (int i = 0; i < 4 + more; i++) {
                states[i] = seenShortly(house);
                house.prove(i % 4, i % 8);
            }
            for (int i = 0; i < 4; i++) {
                Check.due("undo", house.undo(), 3 - i);
                Check.due("state", seenShortly(house), states[3 + more - i]);
                Check.due("proofs", house.value(3), 3 + more - i);
            }
            Check.refused(house, "the oldest ones are dropped", STATE, house::undo);
        }
    }

    private static void eachUndoableCallSaves() {
        SecretDinner house = new SecretDinner();
        house.begin(3, 143);
        Check.due("begin", house.undo(), 0);
        house.begin(3, 143);
        house.ask(0, 1, false);
        Check.due("ask", house.undo(), 1);
        house.prove(0, 1);
        Check.due("prove", house.undo(), 1);
        house.leave(0);
        Check.due("leave", house.undo(), 1);
        house.accuse(0);
        Check.due("accuse", house.undo(), 1);
        house.play();
        Check.due("play", house.undo(), 1);
    }

    private static void otherCallsSaveNothing() {
        SecretDinner house = Houses.evening(3, 144);
        house.append('x');
        house.clearText();
        house.digest();
        Houses.seen(house);
        Check.due("begin alone", house.undo(), 0);
    }

    /** A call that throws saves nothing, and drops nothing, when four states are saved. */
    private static void refusedCallsDropNothing() {
        SecretDinner house = Houses.evening(3, 145);
        house.leave(0);
        house.ask(1, 1, true);
        house.prove(2, 2);
        Check.refused(house, "begin", STATE, () -> house.begin(3, 1));
        Check.refused(house, "begin", ARGUMENT, () -> house.begin(2, 1));
        Check.refused(house, "ask", STATE, () -> house.ask(0, 1, false));
        Check.refused(house, "ask", STATE, () -> house.ask(1, 1, true));
        Check.refused(house, "prove", STATE, () -> house.prove(0, 0));
        Check.refused(house, "leave", STATE, () -> house.leave(0));
        Check.refused(house, "accuse", IndexOutOfBoundsException.class, () -> house.accuse(8));
        Check.due("undo", house.undo(), 3);
        Check.due("undo", house.undo(), 2);
        Check.due("undo", house.undo(), 1);
        Check.due("undo", house.undo(), 0);
        Check.due("before all", house.value(0), 0);
    }

    /** Moves and undos in turns, against a list of what the digests were. */
    private static void savedAndRestoredInTurns() {
        String turns = "mmmuummmmmuumuuummmmmmuuummuuu";
        SecretDinner house = Houses.evening(4, 146);
        long[] proofs = new long[40];
        int count = 1;
        for (int i = 0; i < turns.length(); i++) {
            if (turns.charAt(i) == 'm') {
                if (count == 4) {
                    System.arraycopy(proofs, 1, proofs, 0, 3);
                    count = 3;
                }
                proofs[count] = seenShortly(house);
                count++;
                house.prove(i % 4, i % 8);
            } else {
                count--;
                Check.due("undo at " + i, house.undo(), count);
                Check.due("state at " + i, seenShortly(house), proofs[count]);
            }
        }
    }

    private static long seenShortly(SecretDinner house) {
        long h = house.deals();
        for (int guest = 0; guest < 4; guest++) {
            h = h * 1009 + house.guest(guest, 3) * 65536L + house.guest(guest, 5);
        }
        return h;
    }

    /** "Everything except the text". */
    private static void undoLeavesTheText() {
        SecretDinner house = Houses.evening(3, 147);
        Houses.write(house, "g0;");
        house.leave(1);
        Houses.write(house, "g0;g2;");
        house.undo();
        Check.due("the new text is played", house.play(), 2);
        house.clearText();
        house.undo();
        Check.due("all are here", house.value(8), 3);
        Check.due("the text is still empty", house.clearText(), 0);
        Houses.write(house, "g0;".repeat(30));
        house.undo();
        Check.refused(house, "the text is still full", STATE, () -> house.append('g'));
        Check.due("the text is still full", house.clearText(), 90);
    }

    /** Of two evenings with all that can be counted in them. */
    private static void undoRestoresEveryNumber() {
        SecretDinner house = Houses.evening(4, 148);
        house.ask(0, 3, true);
        house.prove(1, 4);
        house.leave(2);
        house.accuse(Houses.culprit(4, 148));
        String first = Houses.seen(house);
        house.begin(3, 149);
        house.ask(1, 7, true);
        house.accuse(7 - Houses.culprit(3, 149));
        house.begin(4, SecretDinner.NONE);
        for (int i = 3; i >= 0; i--) {
            house.undo();
        }
        Check.due("the first evening, over", Houses.seen(house), first);
    }

    // ---- promise 24: digest

    private static long byItsWords(SecretDinner house, int length, int saved) {
        BigInteger h = BigInteger.valueOf(3529);
        h = next(h, length);
        for (int what = 0; what < 10; what++) {
            h = next(h, house.value(what));
        }
        for (int guest = 0; guest < house.value(0); guest++) {
            for (int what = 0; what < 8; what++) {
                h = next(h, house.guest(guest, what));
            }
        }
        for (int question = 0; question < house.value(2); question++) {
            for (int what = 0; what < 3; what++) {
                h = next(h, house.question(question, what));
            }
        }
        h = next(h, house.deals());
        for (int card = 0; card < 8; card++) {
            h = next(h, house.dealsWith(card));
        }
        // longValue() keeps the lowest 64 bits, as the overflow of long arithmetic does.
        return next(h, saved).longValue();
    }

    private static BigInteger next(BigInteger h, long v) {
        return h.multiply(BigInteger.valueOf(31)).add(BigInteger.valueOf(v));
    }

    /** No guests, three, four; no questions, twenty; an empty text, a full one. */
    private static void digestOfEachSize() {
        for (int length : new int[] {0, 1, 2, 45, 89, 90}) {
            SecretDinner house = new SecretDinner();
            Houses.write(house, "x".repeat(length));
            Check.due("a text of " + length, house.digest(), byItsWords(house, length, 0));
        }
        for (int guests = 3; guests <= 4; guests++) {
            for (int questions = 0; questions <= 20; questions += 4) {
                SecretDinner evening = Houses.evening(guests, 150);
                for (int i = 0; i < questions; i++) {
                    evening.ask(i % guests, 255 - i, i < guests);
                }
                int saved = Math.min(4, questions + 1);
                Check.due("questions", evening.digest(), byItsWords(evening, 0, saved));
                evening.accuse(0);
                Check.due("behind it", evening.digest(), byItsWords(evening, 0, Math.min(4, saved + 1)));
            }
        }
    }

    /** "The number of saved states": 0 to 4. */
    private static void digestOfEachSavedState() {
        SecretDinner house = new SecretDinner();
        for (int saved = 0; saved <= 6; saved++) {
            Check.due("saved", house.digest(), byItsWords(house, 0, Math.min(saved, 4)));
            Check.due("no items", house.play(), 0);
        }
        for (int saved = 3; saved >= 0; saved--) {
            house.undo();
            Check.due("saved", house.digest(), byItsWords(house, 0, saved));
        }
        // 3529 and 21 values: all 0 but s, which is 1, and the culprit's card, which is NONE.
        BigInteger h = BigInteger.valueOf(3529);
        for (int i = 0; i < 21; i++) {
            h = next(h, i == 8 ? 1 : i == 10 ? -1 : 0);
        }
        Check.due("a new object", new SecretDinner().digest(), h.longValue());
    }

    private static void digestOfALongWay() {
        SecretDinner house = new SecretDinner();
        for (int evening = 0; evening < 4; evening++) {
            house.begin(3 + evening % 2, SecretDinner.NONE);
            house.ask(evening % 3, 1 + 60 * evening, true);
            house.prove(2, evening);
            house.leave(evening % 3);
            Check.due("in it", house.digest(), byItsWords(house, 0, 4));
            house.accuse(evening);
            Check.due("behind it", house.digest(), byItsWords(house, 0, 4));
        }
    }
}
