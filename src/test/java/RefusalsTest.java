/** Which exception a refused call throws, and that a refused call changes nothing that a later call shows. */
public final class RefusalsTest {
    private static final int[] NO_AMOUNTS = {-1, 2001, Integer.MIN_VALUE, Integer.MAX_VALUE};
    private static final int[] NO_CASSETTES = {-1, 4, Integer.MIN_VALUE, Integer.MAX_VALUE};
    private static final int[] NO_JAMS = {-1, 41, Integer.MIN_VALUE, Integer.MAX_VALUE};
    private static final int BOXES = 5;

    private RefusalsTest() {
    }

    public static void main(String[] args) {
        Check.sentence("Of several exceptions of a call the one named first in its heading is thrown");
        wrongCassetteBeforeNoMix();
        wrongJamBeforeNoMix();
        wrongAmountBeforeNoMix();
        rightNumbersWithoutMix();
        Check.sentence("a call that throws changes nothing");
        for (int kind = 0; kind < BOXES; kind++) {
            refusedLoadChangesNothing(kind);
            refusedQuestionsChangeNothing(kind);
            refusedPayChangesNothing(kind);
        }
        refusalsBetweenOtherCalls();
        refusalAfterAnAnswer();
        Check.finish();
    }

    private static void wrongCassetteBeforeNoMix() {
        for (int kind = 0; kind < BOXES; kind++) {
            NoteMix x = box(kind);
            for (int c : NO_CASSETTES) {
                Check.due("no mix: part(3, " + c + ")", Check.ILLEGAL, () -> x.part(3, c));
                Check.due("no amount: part(2001, " + c + ")", Check.ILLEGAL, () -> x.part(2001, c));
                Check.due("no amount: part(-1, " + c + ")", Check.ILLEGAL, () -> x.part(-1, c));
            }
        }
    }

    private static void wrongJamBeforeNoMix() {
        for (int kind = 0; kind < BOXES; kind++) {
            NoteMix x = box(kind);
            for (int jam : NO_JAMS) {
                Check.due("no mix: pay(3, " + jam + ")", Check.ILLEGAL, () -> x.pay(3, jam));
                Check.due("no amount: pay(2001, " + jam + ")", Check.ILLEGAL, () -> x.pay(2001, jam));
                Check.due("no amount: pay(-1, " + jam + ")", Check.ILLEGAL, () -> x.pay(-1, jam));
            }
        }
    }

    // No amount above 2000 or below 0 has a mix either: that is not what is told.
    private static void wrongAmountBeforeNoMix() {
        for (int kind = 0; kind < BOXES; kind++) {
            NoteMix x = box(kind);
            for (int v : NO_AMOUNTS) {
                Check.due("best(" + v + ")", Check.ILLEGAL, () -> x.best(v));
                Check.due("part(" + v + ", 0)", Check.ILLEGAL, () -> x.part(v, 0));
                Check.due("part(" + v + ", 3)", Check.ILLEGAL, () -> x.part(v, 3));
                Check.due("pay(" + v + ", 0)", Check.ILLEGAL, () -> x.pay(v, 0));
                Check.due("pay(" + v + ", 40)", Check.ILLEGAL, () -> x.pay(v, 40));
            }
        }
    }

    private static void rightNumbersWithoutMix() {
        for (int kind = 0; kind < BOXES; kind++) {
            Check.noMix("box " + kind, box(kind), 3);
        }
    }

    private static void refusedLoadChangesNothing(int kind) {
        NoteMix x = box(kind);
        for (int c = 0; c <= 3; c++) {
            Check.loads("no worth", Check.ILLEGAL, x, c, 0, 7);
            Check.loads("no worth", Check.ILLEGAL, x, c, 501, 7);
            Check.loads("no number of notes", Check.ILLEGAL, x, c, 7, -1);
            Check.loads("no number of notes", Check.ILLEGAL, x, c, 7, 501);
        }
        for (int c : NO_CASSETTES) {
            Check.loads("no cassette", Check.ILLEGAL, x, c, 7, 7);
        }
        sameAsUntouched("refused loads", kind, x);
    }

    private static void refusedQuestionsChangeNothing(int kind) {
        NoteMix x = box(kind);
        for (int v : NO_AMOUNTS) {
            Check.due("best(" + v + ")", Check.ILLEGAL, () -> x.best(v));
            Check.due("part(" + v + ", 1)", Check.ILLEGAL, () -> x.part(v, 1));
            Check.due("ways(" + v + ")", Check.ILLEGAL, () -> x.ways(v));
            Check.due("next(" + v + ")", Check.ILLEGAL, () -> x.next(v));
        }
        for (int c : NO_CASSETTES) {
            Check.due("part(0, " + c + ")", Check.ILLEGAL, () -> x.part(0, c));
            Check.due("cassette(" + c + ", true)", Check.ILLEGAL, () -> x.cassette(c, true));
            Check.due("cassette(" + c + ", false)", Check.ILLEGAL, () -> x.cassette(c, false));
        }
        Check.due("best(3)", Check.NONE, () -> x.best(3));
        Check.due("part(3, 3)", Check.NONE, () -> x.part(3, 3));
        sameAsUntouched("refused questions", kind, x);
    }

    private static void refusedPayChangesNothing(int kind) {
        NoteMix x = box(kind);
        for (int v : NO_AMOUNTS) {
            Check.due("pay(" + v + ", 40)", Check.ILLEGAL, () -> x.pay(v, 40));
        }
        for (int jam : NO_JAMS) {
            Check.due("pay(10, " + jam + ")", Check.ILLEGAL, () -> x.pay(10, jam));
            Check.due("pay(85, " + jam + ")", Check.ILLEGAL, () -> x.pay(85, jam));
        }
        Check.due("pay(3, 0)", Check.NONE, () -> x.pay(3, 0));
        Check.due("pay(3, 40)", Check.NONE, () -> x.pay(3, 40));
        Check.due("pay(1999, 40)", Check.NONE, () -> x.pay(1999, 40));
        sameAsUntouched("refused pays", kind, x);
    }

    private static void refusalsBetweenOtherCalls() {
        NoteMix x = new NoteMix();
        NoteMix untouched = new NoteMix();
        for (int v = 5; v <= 200; v += 15) {
            int amount = v;
            Check.due("pay(3, 40)", Check.NONE, () -> x.pay(3, 40));
            Check.due("pay(" + v + ", 41)", Check.ILLEGAL, () -> x.pay(amount, 41));
            Check.due("pay(" + v + ", 2)", Check.answerOf(() -> untouched.pay(amount, 2)), () -> x.pay(amount, 2));
            Check.loads("no worth", Check.ILLEGAL, x, 3, 0, 500);
            Check.due("best(2001)", Check.ILLEGAL, () -> x.best(2001));
            Check.due("value()", Check.answerOf(untouched::value), x::value);
        }
        Check.same("with and without refusals", Check.imageOf(untouched), Check.imageOf(x));
    }

    // What a call has found is not what a refused one leaves behind for the next.
    private static void refusalAfterAnAnswer() {
        NoteMix x = new NoteMix();
        Check.mix("before", x, 95, 1, 0, 2, 1);
        Check.due("best(3)", Check.NONE, () -> x.best(3));
        Check.mix("after best(3)", x, 95, 1, 0, 2, 1);
        Check.due("ways(2001)", Check.ILLEGAL, () -> x.ways(2001));
        Check.due("after ways(2001): ways(20)", 4, () -> x.ways(20));
        Check.due("part(1705, 3)", Check.NONE, () -> x.part(1705, 3));
        Check.due("after part(1705, 3): pay(95, 40)", 95, () -> x.pay(95, 40));
        Check.state("after pay(95, 40)", "5x29 10x30 20x28 50x29 =2455", x);
    }

    private static void sameAsUntouched(String what, int kind, NoteMix x) {
        Check.same(what + " of box " + kind, Check.imageOf(box(kind)), Check.imageOf(x));
    }

    // In none of them do 3 and 1999 have a mix.
    private static NoteMix box(int kind) {
        return switch (kind) {
            case 0 -> new NoteMix();
            case 1 -> Check.box(500, 0, 50, 0, 5, 0, 1, 0);
            case 2 -> Check.box(500, 500, 500, 500, 500, 500, 500, 500);
            case 3 -> Check.box(10, 3, 10, 500, 25, 0, 10, 1);
            default -> partlyPaid();
        };
    }

    private static NoteMix partlyPaid() {
        NoteMix x = new NoteMix();
        Check.due("pay(1535, 31)", 1520, () -> x.pay(1535, 31));
        return x;
    }
}
