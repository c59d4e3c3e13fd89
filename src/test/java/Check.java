import java.util.NoSuchElementException;

/** What the tests share: calls written as texts of their answers, and the tally of wrong ones. */
final class Check {
    static final String ILLEGAL = "throws IllegalArgumentException";
    static final String NONE = "throws NoSuchElementException";

    private static int wrong = 0;

    private Check() {
    }

    interface Call {
        int answer();
    }

    static String answerOf(Call call) {
        try {
            return Integer.toString(call.answer());
        } catch (IllegalArgumentException e) {
            return exactly(e, IllegalArgumentException.class, ILLEGAL);
        } catch (NoSuchElementException e) {
            return exactly(e, NoSuchElementException.class, NONE);
        } catch (RuntimeException e) {
            return "throws " + e;
        }
    }

    // A subclass is not what the document names.
    private static String exactly(RuntimeException e, Class<?> kind, String text) {
        return e.getClass() == kind ? text : "throws " + e;
    }

    static void due(String what, int want, Call call) {
        due(what, Integer.toString(want), call);
    }

    static void due(String what, String want, Call call) {
        same(what, want, answerOf(call));
    }

    static void same(String what, String want, String got) {
        if (!want.equals(got)) {
            wrong++;
            System.out.println(what + " answered " + got + ", due is " + want);
        }
    }

    static void loads(String what, String want, NoteMix x, int c, int worth, int notes) {
        due(what + ": load(" + c + ", " + worth + ", " + notes + ")", want, () -> {
            x.load(c, worth, notes);
            return 0;
        });
    }

    static void loads(NoteMix x, int c, int worth, int notes) {
        loads("good numbers", "0", x, c, worth, notes);
    }

    /** A box whose cassettes have, from 0 to 3, the worths and notes given in pairs. */
    static NoteMix box(int... worthsAndNotes) {
        NoteMix x = new NoteMix();
        for (int c = 0; c < 4; c++) {
            loads(x, c, worthsAndNotes[2 * c], worthsAndNotes[2 * c + 1]);
        }
        return x;
    }

    /** The cassettes from 0 to 3 as "worth x notes", and the value. */
    static String stateOf(NoteMix x) {
        StringBuilder text = new StringBuilder();
        for (int c = 0; c < 4; c++) {
            text.append(x.cassette(c, true)).append('x').append(x.cassette(c, false)).append(' ');
        }
        return text.append('=').append(x.value()).toString();
    }

    static void state(String what, String want, NoteMix x) {
        same(what + ": state", want, stateOf(x));
    }

    /** The best mix from cassette 0 to 3. */
    static void mix(String what, NoteMix x, int v, int... parts) {
        int size = 0;
        for (int c = 0; c < 4; c++) {
            int cassette = c;
            due(what + ": part(" + v + ", " + c + ")", parts[c], () -> x.part(v, cassette));
            size += parts[c];
        }
        due(what + ": best(" + v + ")", size, () -> x.best(v));
    }

    static void finish() {
        System.out.println(wrong == 0 ? "all answers are as due" : wrong + " answers are not as due");
        if (wrong != 0) {
            System.exit(1);
        }
    }
}
