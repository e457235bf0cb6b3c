/** Houses as the tests need them, what is dealt in them, and looks at all that they answer. */
final class Houses {
    private static final int[][] SIZES = {{3, 2, 2}, {2, 2, 2, 1}};

    private Houses() {
    }

    static SecretDinner evening(int guests, int s) {
        SecretDinner house = new SecretDinner();
        house.begin(guests, s);
        return house;
    }

    /** An evening for four in which the last guest, who has one card, holds just this one. */
    static SecretDinner eveningWithLastHand(int card) {
        int s = 0;
        while (dealt(4, s)[5] != 1L << card) {
            s++;
        }
        return evening(4, s);
    }

    static void write(SecretDinner house, String text) {
        house.clearText();
        for (int i = 0; i < text.length(); i++) {
            house.append(text.charAt(i));
        }
    }

    static int size(int guests, int guest) {
        return SIZES[guests - 3][guest];
    }

    static int hand(int guests, int s, int guest) {
        return (int) dealt(guests, s)[2 + guest];
    }

    static int culprit(int guests, int s) {
        return (int) dealt(guests, s)[1];
    }

    /** The lowest cards of a set. */
    static int lowest(int set, int number) {
        int found = 0;
        for (int i = 0; i < number; i++) {
            found |= Integer.lowestOneBit(set & ~found);
        }
        return found;
    }

    static long nextS(long s) {
        return (1103515245L * s + 12345L) % 2147483648L;
    }

    /** What begin deals by the words of the document: {s, culprit, hand 0, hand 1, ..}. */
    static long[] dealt(int guests, long s) {
        int[] sizes = SIZES[guests - 3].clone();
        long[] result = new long[2 + guests];
        s = nextS(s);
        result[1] = s / 65536 % 8;
        int places = 7;
        for (int card = 0; card < 8; card++) {
            if (card == result[1]) {
                continue;
            }
            s = nextS(s);
            long place = s / 65536 % places;
            places--;
            int guest = 0;
            while (place >= sizes[guest]) {
                place -= sizes[guest];
                guest++;
            }
            sizes[guest]--;
            result[2 + guest] |= 1L << card;
        }
        result[0] = s;
        return result;
    }

    /** The hand of a guest in the evening that goes on, by a look that is undone. */
    static int peek(SecretDinner house, int guest) {
        house.accuse(0);
        int hand = house.guest(guest, 7);
        house.undo();
        return hand;
    }

    /** The culprit's card of the evening that goes on, by a look that is undone. */
    static int peekCulprit(SecretDinner house) {
        int culprit = house.accuse(0);
        house.undo();
        return culprit;
    }

    /** All answers but those about the text and the saved states, in one line. */
    static String seen(SecretDinner house) {
        StringBuilder line = new StringBuilder();
        for (int what = 0; what < 10; what++) {
            line.append(house.value(what)).append(' ');
        }
        for (int guest = 0; guest < house.value(0); guest++) {
            seeGuest(house, guest, line);
        }
        for (int question = 0; question < house.value(2); question++) {
            for (int what = 0; what < 3; what++) {
                line.append(house.question(question, what)).append(' ');
            }
        }
        line.append(house.deals()).append(' ').append(house.culprits()).append(' ').append(house.likeliest());
        for (int card = 0; card < 8; card++) {
            line.append(' ').append(house.dealsWith(card)).append(' ').append(house.chance(card));
        }
        return line.toString();
    }

    private static void seeGuest(SecretDinner house, int guest, StringBuilder line) {
        for (int what = 0; what < 8; what++) {
            line.append(house.guest(guest, what)).append(' ');
        }
        for (int card = 0; card < 8; card++) {
            line.append(house.dealsHeld(guest, card)).append(' ');
            line.append(house.leftByProof(guest, card)).append(' ');
            line.append(house.worst(guest, 1 << card)).append(' ');
        }
        line.append(house.dealsIf(guest, 15, 1)).append(' ').append(house.bestCards(guest)).append(' ');
    }

    /** What stands behind the house: all its saved states, one after the other. The house is used up. */
    static String savedStates(SecretDinner house) {
        StringBuilder lines = new StringBuilder();
        boolean more = true;
        while (more) {
            try {
                lines.append(house.undo()).append(": ").append(house.digest()).append('\n');
            } catch (IllegalStateException e) {
                more = false;
            }
        }
        return lines.toString();
    }

    /** What the text tells: what it plays, what that makes of the house, and its length. */
    static String played(SecretDinner house) {
        return house.play() + " " + seen(house) + " " + house.clearText();
    }
}
