/** Asks a call for numbers and letters on both sides of what it takes. */
final class Range {
    interface Call {
        Object answer(int value);
    }

    interface Letter {
        Object answer(char letter);
    }

    private static final int BYTE = 1 << 8;
    private static final int SHORT = 1 << 16;

    private final Checks c;

    Range(Checks c) {
        this.c = c;
    }

    /** Numbers below the first one and above the last one are refused, those too that would be in it if they were short. */
    void refused(String name, int first, int last, Call call, Class<?> want) {
        int[] beyond = {first - 1, last + 1, first - 2, last + 2, first - BYTE, last + BYTE, first - SHORT, first + SHORT,
            last + SHORT, Integer.MIN_VALUE, Integer.MAX_VALUE};
        for (int value : beyond) {
            c.due(name + " " + value, () -> call.answer(value), want);
        }
    }

    /** All letters but these are refused. */
    void refusedBut(String letters, String name, Letter call, Class<?> want) {
        for (char letter = 0; letter < BYTE; letter++) {
            if (letters.indexOf(letter) < 0) refusedLetter(name, letter, call, want);
        }
        for (int i = 0; i < letters.length(); i++) {
            refusedLetter(name, (char) (letters.charAt(i) + BYTE), call, want);
        }
        refusedLetter(name, Character.MAX_VALUE, call, want);
    }

    private void refusedLetter(String name, char letter, Letter call, Class<?> want) {
        c.due(name + " with the sign " + (int) letter, () -> call.answer(letter), want);
    }
}
