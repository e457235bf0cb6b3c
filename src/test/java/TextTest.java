/** Promises 20 to 22: append, clearText, play. */
public final class TextTest {
    private static final Class<IllegalArgumentException> ARGUMENT = IllegalArgumentException.class;
    private static final Class<IllegalStateException> STATE = IllegalStateException.class;

    public static void main(String[] args) {
        append();
        clearText();
        syntaxErrors();
        everyByteEverywhere();
        longestText();
        playsLikeCalls();
        playStops();
        playWithoutAnEvening();
        playIsOneSavedState();
        Check.end();
    }

    // ---- promise 20

    private static void append() {
        SecretDinner house = new SecretDinner();
        for (int odd : new int[] {-1, 128, 255, Integer.MIN_VALUE, Integer.MAX_VALUE}) {
            Check.refused(house, "append " + odd, ARGUMENT, () -> house.append(odd));
        }
        for (int i = 0; i < 90; i++) {
            Check.due("append", house.append(i == 0 ? 0 : 127 - i % 2), i + 1);
        }
        Check.refused(house, "append byte 91", STATE, () -> house.append(0));
        Check.refused(house, "append byte 91", STATE, () -> house.append(127));
        Check.refused(house, "append 128 as byte 91", ARGUMENT, () -> house.append(128));
        Check.refused(house, "append -1 as byte 91", ARGUMENT, () -> house.append(-1));
        Check.refused(house, "append saves nothing", STATE, house::undo);
        Check.due("length", house.clearText(), 90);
    }

    // ---- promise 21

    private static void clearText() {
        SecretDinner house = Houses.evening(3, 1);
        Check.due("empty", house.clearText(), 0);
        Houses.write(house, "a0:1;g1");
        Check.due("length", house.clearText(), 7);
        Check.due("length", house.clearText(), 0);
        Check.due("an empty text has no error", house.play(), 0);
        Check.due("append from the start", house.append('g'), 1);
        Check.due("the old bytes are gone", house.play(), -11);
        Check.due("clearText saves nothing: play and begin", house.undo(), 1);
        Check.due("begin", house.undo(), 0);
        Check.due("the text stays", house.clearText(), 1);
    }

    // ---- promise 22

    private static void syntaxErrors() {
        Object[][] rows = {
            {"", -1}, {"a", 1}, {"l", 1}, {"p", 1}, {"g", 1}, {"b", 0}, {"A", 0}, {";", 0}, {" a0:1;", 0},
            {"a0", 2}, {"a4", 1}, {"a/", 1}, {"a:", 1}, {"g0", 2}, {"g4;", 1}, {"g0;", -1}, {"g3;", -1},
            {"g0:", 2}, {"g00;", 2}, {"g0;;", 3}, {"g 0;", 1}, {"a0;", 2}, {"a0:", 3}, {"a0:;", 3},
            {"a0:8;", 3}, {"a0:/;", 3}, {"a0:0", 4}, {"a0:0;", -1}, {"a0:00;", 4}, {"a0:10;", 4},
            {"a0:77;", 4}, {"a0:78;", 4}, {"a0:0:", 4}, {"a0:01234567;", -1}, {"a0:01234567", 11},
            {"a0:012345677;", 11}, {"l3:0246;", -1}, {"l3:0246", 7}, {"l3:02461;", 7}, {"l3:0 2;", 4},
            {"p0:1;", -1}, {"p0:12;", 4}, {"p0:8;", 3}, {"p0:;", 3}, {"p0;", 2}, {"p0:1", 4}, {"p4:1;", 1},
            {"a0:1;p0:1;g0;x", 13}, {"a0:1;p0:1;g0;a", 14}, {"a0:1;p0:1;g0", 12}, {"a0:1; g0;", 5},
            {"g0;a1:53;", 7}, {"g0;p1:7;l2:7;", -1}, {"aa0:1;", 1}, {"a0:1g0;", 4}, {"a0::1;", 3},
        };
        for (Object[] row : rows) {
            String text = (String) row[0];
            int error = (Integer) row[1];
            SecretDinner house = Houses.evening(4, 2);
            Houses.write(house, text);
            long before = house.digest();
            int played = house.play();
            if (error < 0) {
                Check.due("\"" + text + "\" has no error", played >= 0, true);
            } else {
                Check.due("\"" + text + "\"", played, -10 - error);
                Check.due("\"" + text + "\" changes nothing", house.digest(), before);
            }
            Check.due("\"" + text + "\" stays", house.clearText(), text.length());
        }
    }

    /** Puts each byte at each place of a text, and looks where the plain model sees the error. */
    private static void everyByteEverywhere() {
        String text = "a1:03;l2:7;p0:5;g1;";
        for (int at = 0; at < text.length(); at++) {
            for (int value = 0; value < 128; value++) {
                StringBuilder changed = new StringBuilder(text);
                changed.setCharAt(at, (char) value);
                SecretDinner house = Houses.evening(3, 2);
                PlainDinner plain = new PlainDinner();
                plain.begin(3, 2);
                Houses.write(house, changed.toString());
                for (int i = 0; i < changed.length(); i++) {
                    plain.append(changed.charAt(i));
                }
                Check.due("byte " + value + " at " + at, house.play(), plain.play());
            }
        }
    }

    private static void longestText() {
        SecretDinner house = Houses.evening(3, 2);
        Houses.write(house, "p0:1;".repeat(18));
        Check.due("18 items in 90 bytes", house.play(), 18);
        Check.due("18 proofs", house.value(3), 18);
        Check.due("all of one guest", house.guest(0, 3), 18);
        Houses.write(house, "p0:1;".repeat(17) + "g0;g1");
        Check.due("cut off by the limit", house.play(), -100);
        Houses.write(house, "g0;".repeat(30));
        Check.due("30 items, one is possible", house.play(), 1);
    }

    private static void playsLikeCalls() {
        SecretDinner house = Houses.evening(4, 33);
        SecretDinner calls = Houses.evening(4, 33);
        Houses.write(house, "a0:01;l1:01234567;p2:3;g3;a2:7;l0:2;");
        Check.due("all six", house.play(), 6);
        calls.ask(0, 3, false);
        calls.ask(1, 255, true);
        calls.prove(2, 3);
        calls.leave(3);
        calls.ask(2, 128, false);
        calls.ask(0, 4, true);
        for (int what = 0; what < 10; what++) {
            Check.due("value " + what, house.value(what), calls.value(what));
        }
        for (int guest = 0; guest < 4; guest++) {
            for (int what = 0; what < 8; what++) {
                Check.due("guest " + guest + " " + what, house.guest(guest, what), calls.guest(guest, what));
            }
        }
        for (int question = 0; question < 4; question++) {
            for (int what = 0; what < 3; what++) {
                Check.due("question", house.question(question, what), calls.question(question, what));
            }
        }
        Check.due("deals", house.deals(), calls.deals());
        Check.due("the text stays", house.clearText(), 36);
    }

    private static void duePlayed(String text, int guests, int played) {
        SecretDinner house = Houses.evening(guests, 3);
        Houses.write(house, text);
        Check.due("\"" + text + "\"", house.play(), played);
        Check.due("it was saved", house.undo(), 1);
    }

    private static void playStops() {
        duePlayed("g0;a0:1;g1;", 3, 1);
        duePlayed("g0;p0:1;g1;", 3, 1);
        duePlayed("g0;g1;g1;g2;", 3, 2);
        duePlayed("l0:1;a0:1;l0:2;g1;", 3, 2);
        duePlayed("l0:1;l1:1;l2:1;l0:1;", 3, 3);
        duePlayed("a3:1;g0;", 3, 0);
        duePlayed("p3:1;g0;", 3, 0);
        duePlayed("g3;g0;", 3, 0);
        duePlayed("a3:1;l3:1;p3:1;g3;", 4, 4);
        SecretDinner house = Houses.evening(3, 3);
        for (int i = 0; i < 18; i++) {
            house.ask(0, 1, false);
        }
        Houses.write(house, "a1:1;p1:1;a1:2;a1:3;g1;");
        Check.due("20 questions", house.play(), 3);
        Check.due("20 questions", house.value(2), 20);
        Check.due("the rest is not played", house.value(8), 3);
        house.accuse(0);
        Check.due("behind the evening", house.play(), 0);
    }

    private static void playWithoutAnEvening() {
        SecretDinner house = new SecretDinner();
        Houses.write(house, "a0:1;");
        Check.due("no evening", house.play(), 0);
        Check.due("it was saved all the same", house.undo(), 0);
        Houses.write(house, "a0:1");
        Check.due("an error", house.play(), -14);
        Check.refused(house, "nothing was saved", STATE, house::undo);
    }

    private static void playIsOneSavedState() {
        SecretDinner house = Houses.evening(3, 4);
        Houses.write(house, "a0:1;p1:2;g2;l0:1;");
        // The play to come is saved as one state more than these.
        long before = house.digest();
        Check.due("play", house.play(), 4);
        Check.due("one saved state", house.undo(), 1);
        Check.due("all of it is undone", house.digest(), before);
        house.clearText();
        long empty = house.digest();
        Check.due("no items", house.play(), 0);
        Check.due("the same, and one saved state more", house.digest(), empty + 1);
        Houses.write(house, "a0:1;x");
        Check.due("an error", house.play(), -15);
        Check.due("saved by play and begin alone", house.undo(), 1);
    }
}
