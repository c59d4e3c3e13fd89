import java.util.NoSuchElementException;

/** What the tests share: calls written as texts of their answers, and the tally of wrong ones. */
final class Check {
    static final String ILLEGAL = "throws IllegalArgumentException";
    static final String NONE = "throws NoSuchElementException";

    private static final int[] SHOWN_AMOUNTS = {
        0, 1, 5, 10, 35, 40, 41, 85, 100, 155, 500, 999, 1500, 1700, 1705, 1999, 2000};

    private static int wrong = 0;
    private static String sentence = "";

    private Check() {
    }

    interface Call {
        int answer();
    }

    static String answerOf(Call call) {
        try {
            return Integer.toString(call.answer());
        } catch (IllegalArgumentException e) {
            return exactly(e, IllegalArgumentException.class, ILLEGAL);
        } catch (NoSuchElementException e) {
            return exactly(e, NoSuchElementException.class, NONE);
        } catch (RuntimeException e) {
            return "throws " + e;
        }
    }

    // A subclass is not what the document names.
    private static String exactly(RuntimeException e, Class<?> kind, String text) {
        return e.getClass() == kind ? text : "throws " + e;
    }

    /** Names the sentence of the document that the answers from here on belong to. */
    static void sentence(String words) {
        sentence = "\"" + words + "\": ";
    }

    static void due(String what, int want, Call call) {
        due(what, Integer.toString(want), call);
    }

    static void due(String what, String want, Call call) {
        same(what, want, answerOf(call));
    }

    static void same(String what, String want, String got) {
        if (!want.equals(got)) {
            wrong++;
            System.out.println(sentence + what + " answered " + got + ", due is " + want);
        }
    }

    static void loads(String what, String want, NoteMix x, int c, int worth, int notes) {
        due(what + ": load(" + c + ", " + worth + ", " + notes + ")", want, () -> {
            x.load(c, worth, notes);
            return 0;
        });
    }

    static void loads(NoteMix x, int c, int worth, int notes) {
        loads("good numbers", "0", x, c, worth, notes);
    }

    /** A box whose cassettes have, from 0 to 3, the worths and notes given in pairs. */
    static NoteMix box(int... worthsAndNotes) {
        NoteMix x = new NoteMix();
        for (int c = 0; c < 4; c++) {
            loads(x, c, worthsAndNotes[2 * c], worthsAndNotes[2 * c + 1]);
        }
        return x;
    }

    /** A box in which cassette c alone has notes. */
    static NoteMix only(int c, int worth, int notes) {
        NoteMix x = box(1, 0, 1, 0, 1, 0, 1, 0);
        loads(x, c, worth, notes);
        return x;
    }

    /** A box in which cassettes a and b alone have notes, of one worth. */
    static NoteMix pair(int a, int notesOfA, int b, int notesOfB, int worth) {
        NoteMix x = only(a, worth, notesOfA);
        loads(x, b, worth, notesOfB);
        return x;
    }

    /** The cassettes from 0 to 3 as "worth x notes", and the value. */
    static String stateOf(NoteMix x) {
        StringBuilder text = new StringBuilder();
        for (int c = 0; c < 4; c++) {
            text.append(x.cassette(c, true)).append('x').append(x.cassette(c, false)).append(' ');
        }
        return text.append('=').append(x.value()).toString();
    }

    static void state(String what, String want, NoteMix x) {
        same(what + ": state", want, stateOf(x));
    }

    /** All that calls show of a box, at 17 amounts. It takes 129 of the 512 calls. */
    static String imageOf(NoteMix x) {
        StringBuilder text = new StringBuilder(stateOf(x)).append(" reach ").append(answerOf(x::reach));
        for (int v : SHOWN_AMOUNTS) {
            text.append("; ").append(v).append(": ").append(answerOf(() -> x.best(v)));
            for (int c = 0; c < 4; c++) {
                int cassette = c;
                text.append(' ').append(answerOf(() -> x.part(v, cassette)));
            }
            text.append(' ').append(answerOf(() -> x.ways(v))).append(' ').append(answerOf(() -> x.next(v)));
        }
        return text.toString();
    }

    /** The best mix from cassette 0 to 3. */
    static void mix(String what, NoteMix x, int v, int... parts) {
        int size = 0;
        for (int c = 0; c < 4; c++) {
            int cassette = c;
            due(what + ": part(" + v + ", " + c + ")", parts[c], () -> x.part(v, cassette));
            size += parts[c];
        }
        due(what + ": best(" + v + ")", size, () -> x.best(v));
    }

    /** Every call that asks for a mix of v answers that there is none. */
    static void noMix(String what, NoteMix x, int v) {
        due(what + ": best(" + v + ")", NONE, () -> x.best(v));
        for (int c = 0; c < 4; c++) {
            int cassette = c;
            due(what + ": part(" + v + ", " + c + ")", NONE, () -> x.part(v, cassette));
        }
        due(what + ": pay(" + v + ", 0)", NONE, () -> x.pay(v, 0));
        due(what + ": pay(" + v + ", 40)", NONE, () -> x.pay(v, 40));
        due(what + ": ways(" + v + ")", 0, () -> x.ways(v));
    }

    static void finish() {
        System.out.println(wrong == 0 ? "all answers are as due" : wrong + " answers are not as due");
        if (wrong != 0) {
            System.exit(1);
        }
    }
}
