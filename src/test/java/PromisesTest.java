/** The promises one by one, with answers worked out by hand from the document. */
public final class PromisesTest {
    private static final int[] OUTSIDE_AMOUNTS = {-1, 2001, Integer.MIN_VALUE, Integer.MAX_VALUE};
    private static final int[] OUTSIDE_CASSETTES = {-1, 4, Integer.MIN_VALUE, Integer.MAX_VALUE};
    private static final String FRESH = "5x30 10x30 20x30 50x30 =2550";

    private PromisesTest() {
    }

    public static void main(String[] args) {
        promise1NewObject();
        promise1ObjectsAreApart();
        promise2Load();
        promise2LoadRefuses();
        promise3Best();
        promise3BestRefuses();
        promise3FortyNotes();
        promise4Part();
        promise4PartTies();
        promise4PartRefuses();
        promise5Ways();
        promise5WaysEdges();
        promise6Pay();
        promise6PayJams();
        promise6PayEmpties();
        promise6PayRefuses();
        promise7Next();
        promise8Reach();
        promise9Cassette();
        promise10Value();
        askingChangesNothing();
        Check.finish();
    }

    private static void promise1NewObject() {
        Check.state("new", FRESH, new NoteMix());
    }

    private static void promise1ObjectsAreApart() {
        NoteMix x = new NoteMix();
        NoteMix y = new NoteMix();
        Check.loads(x, 0, 7, 3);
        Check.state("loaded", "7x3 10x30 20x30 50x30 =2421", x);
        Check.state("the other", FRESH, y);
        Check.state("a later one", FRESH, new NoteMix());
    }

    private static void promise2Load() {
        NoteMix x = new NoteMix();
        Check.loads(x, 0, 1, 0);
        Check.state("least", "1x0 10x30 20x30 50x30 =2400", x);
        Check.loads(x, 3, 500, 500);
        Check.state("most", "1x0 10x30 20x30 500x500 =250900", x);
        Check.loads(x, 3, 2, 7);
        Check.state("in place of, not on top", "1x0 10x30 20x30 2x7 =914", x);
        Check.loads(x, 1, 20, 4);
        Check.loads(x, 2, 20, 6);
        Check.state("the same worth twice", "1x0 20x4 20x6 2x7 =214", x);
    }

    private static void promise2LoadRefuses() {
        NoteMix x = new NoteMix();
        for (int c : OUTSIDE_CASSETTES) {
            Check.loads("no such cassette", Check.ILLEGAL, x, c, 5, 30);
        }
        int[] noWorth = {0, -1, 501, Integer.MIN_VALUE, Integer.MAX_VALUE};
        int[] noNotes = {-1, 501, Integer.MIN_VALUE, Integer.MAX_VALUE};
        for (int c = 0; c < 4; c++) {
            for (int worth : noWorth) {
                Check.loads("no worth", Check.ILLEGAL, x, c, worth, 7);
            }
            for (int notes : noNotes) {
                Check.loads("no number of notes", Check.ILLEGAL, x, c, 7, notes);
            }
        }
        Check.state("refused loads", FRESH, x);
    }

    private static void promise3Best() {
        NoteMix x = new NoteMix();
        Check.due("best(0)", 0, () -> x.best(0));
        Check.due("best(5)", 1, () -> x.best(5));
        Check.due("best(85)", 4, () -> x.best(85));
        Check.due("best(1500)", 30, () -> x.best(1500));
        Check.due("best(1700)", 40, () -> x.best(1700));
        NoteMix greedyFails = Check.box(1, 30, 10, 30, 25, 30, 50, 0);
        Check.due("three tens, not 25 and ones", 3, () -> greedyFails.best(30));
        NoteMix full = Check.box(1, 0, 1, 0, 500, 4, 1, 0);
        Check.due("best(2000)", 4, () -> full.best(2000));
        NoteMix empty = Check.box(1, 0, 1, 0, 1, 0, 1, 0);
        Check.due("empty: best(0)", 0, () -> empty.best(0));
    }

    private static void promise3BestRefuses() {
        NoteMix x = new NoteMix();
        for (int v : OUTSIDE_AMOUNTS) {
            Check.due("best(" + v + ")", Check.ILLEGAL, () -> x.best(v));
        }
        Check.due("best(3)", Check.NONE, () -> x.best(3));
        Check.due("best(1705)", Check.NONE, () -> x.best(1705));
        Check.due("best(2000)", Check.NONE, () -> x.best(2000));
        NoteMix empty = Check.box(1, 0, 1, 0, 1, 0, 1, 0);
        Check.due("empty: best(1)", Check.NONE, () -> empty.best(1));
        Check.due("empty: best(2001)", Check.ILLEGAL, () -> empty.best(2001));
    }

    private static void promise3FortyNotes() {
        for (int c = 0; c < 4; c++) {
            NoteMix x = Check.box(1, 0, 1, 0, 1, 0, 1, 0);
            Check.loads(x, c, 50, 500);
            Check.due("forty of one", 40, () -> x.best(2000));
            Check.loads(x, c, 50, 39);
            Check.due("thirty-nine of them", Check.NONE, () -> x.best(2000));
            Check.due("thirty-nine of them", 39, () -> x.best(1950));
            Check.loads(x, c, 40, 500);
            Check.due("forty-one", Check.NONE, () -> x.best(1640));
        }
        NoteMix spread = Check.box(1, 10, 1, 10, 1, 10, 1, 10);
        Check.mix("forty of four", spread, 40, 10, 10, 10, 10);
        Check.loads(spread, 0, 1, 11);
        Check.due("forty-one of four", Check.NONE, () -> spread.best(41));
    }

    private static void promise4Part() {
        NoteMix x = new NoteMix();
        Check.mix("nothing", x, 0, 0, 0, 0, 0);
        Check.mix("one of each", x, 85, 1, 1, 1, 1);
        Check.mix("no tens", x, 95, 1, 0, 2, 1);
        Check.mix("more than the fifties", x, 1535, 1, 1, 1, 30);
        Check.mix("forty", x, 1700, 0, 0, 10, 30);
        NoteMix few = Check.box(5, 30, 10, 2, 20, 1, 50, 1);
        Check.mix("what is in them", few, 95, 1, 2, 1, 1);
        Check.mix("what is in them", few, 120, 6, 2, 1, 1);
        NoteMix mixed = Check.box(500, 1, 300, 2, 7, 9, 1, 40);
        Check.mix("the dear ones below", mixed, 1115, 1, 2, 2, 1);
    }

    private static void promise4PartTies() {
        NoteMix same = Check.box(10, 3, 10, 3, 10, 3, 10, 3);
        Check.mix("cassette 3 first", same, 20, 0, 0, 0, 2);
        Check.mix("then 2", same, 50, 0, 0, 2, 3);
        Check.mix("then 1", same, 80, 0, 2, 3, 3);
        Check.mix("then 0", same, 110, 2, 3, 3, 3);
        NoteMix most3 = Check.box(20, 9, 30, 9, 40, 9, 10, 9);
        Check.mix("10 and 40, not 20 and 30", most3, 50, 0, 0, 1, 1);
        Check.mix("10 and 40 and 40, not 30s", most3, 90, 0, 0, 2, 1);
        NoteMix most2 = Check.box(20, 9, 30, 9, 10, 9, 40, 0);
        Check.mix("without 3: most of 2", most2, 60, 0, 2, 0, 0);
        Check.mix("without 3: 10 and 30 and 30, not 20s", most2, 70, 0, 2, 1, 0);
        NoteMix most1 = Check.box(30, 9, 30, 9, 30, 0, 30, 0);
        Check.mix("without 3 and 2: most of 1", most1, 90, 0, 3, 0, 0);
        NoteMix fewestFirst = Check.box(100, 1, 1, 0, 1, 0, 50, 9);
        Check.mix("fewest goes before most of 3", fewestFirst, 100, 1, 0, 0, 0);
    }

    private static void promise4PartRefuses() {
        NoteMix x = new NoteMix();
        for (int c : OUTSIDE_CASSETTES) {
            Check.due("part(5, " + c + ")", Check.ILLEGAL, () -> x.part(5, c));
            Check.due("no mix: part(3, " + c + ")", Check.ILLEGAL, () -> x.part(3, c));
            Check.due("both: part(-1, " + c + ")", Check.ILLEGAL, () -> x.part(-1, c));
        }
        for (int v : OUTSIDE_AMOUNTS) {
            Check.due("part(" + v + ", 0)", Check.ILLEGAL, () -> x.part(v, 0));
            Check.due("part(" + v + ", 3)", Check.ILLEGAL, () -> x.part(v, 3));
        }
        for (int c = 0; c < 4; c++) {
            int cassette = c;
            Check.due("part(3, " + c + ")", Check.NONE, () -> x.part(3, cassette));
        }
    }

    private static void promise5Ways() {
        NoteMix x = new NoteMix();
        Check.due("ways(0)", 1, () -> x.ways(0));
        Check.due("ways(3)", 0, () -> x.ways(3));
        Check.due("ways(5)", 1, () -> x.ways(5));
        Check.due("ways(10)", 2, () -> x.ways(10));
        Check.due("ways(20)", 4, () -> x.ways(20));
        Check.due("ways(50): 50, and 12 without it", 13, () -> x.ways(50));
        Check.due("ways(1700)", 1, () -> x.ways(1700));
        Check.due("ways(2000)", 0, () -> x.ways(2000));
        NoteMix same = Check.box(10, 30, 10, 30, 10, 30, 10, 30);
        Check.due("cassettes count: ways(10)", 4, () -> same.ways(10));
        Check.due("cassettes count: ways(20)", 10, () -> same.ways(20));
    }

    private static void promise5WaysEdges() {
        NoteMix x = new NoteMix();
        for (int v : OUTSIDE_AMOUNTS) {
            Check.due("ways(" + v + ")", Check.ILLEGAL, () -> x.ways(v));
        }
        NoteMix ones = Check.box(1, 500, 1, 500, 1, 500, 1, 500);
        Check.due("forty in four: 43 * 42 * 41 / 6", 12341, () -> ones.ways(40));
        Check.due("forty-one", 0, () -> ones.ways(41));
        NoteMix fifties = Check.box(50, 500, 50, 500, 50, 500, 50, 500);
        Check.due("the most amount", 12341, () -> fifties.ways(2000));
        NoteMix few = Check.box(1, 1, 1, 1, 1, 1, 1, 1);
        Check.due("what is in them: ways(2)", 6, () -> few.ways(2));
        Check.due("what is in them: ways(4)", 1, () -> few.ways(4));
        Check.due("what is in them: ways(5)", 0, () -> few.ways(5));
        NoteMix twos = Check.box(2, 40, 1, 40, 1, 0, 1, 0);
        Check.due("60 by at least 20 twos", 11, () -> twos.ways(60));
    }

    private static void promise6Pay() {
        NoteMix x = new NoteMix();
        Check.due("pay(85, 40)", 85, () -> x.pay(85, 40));
        Check.state("one of each", "5x29 10x29 20x29 50x29 =2465", x);
        Check.due("pay(0, 40)", 0, () -> x.pay(0, 40));
        Check.due("pay(1450, 40)", 1450, () -> x.pay(1450, 40));
        Check.state("no fifties", "5x29 10x29 20x29 50x0 =1015", x);
        Check.mix("without fifties", x, 50, 0, 1, 2, 0);
        Check.due("pay(50, 3)", 50, () -> x.pay(50, 3));
        Check.state("exactly jam notes", "5x29 10x28 20x27 50x0 =965", x);
    }

    private static void promise6PayJams() {
        NoteMix x = Check.box(5, 9, 10, 9, 20, 1, 50, 1);
        Check.mix("the whole", x, 95, 1, 2, 1, 1);
        int[] paid = {0, 50, 70, 80, 90, 95, 95};
        String[] left = {
            "5x9 10x9 20x1 50x1 =205", "5x9 10x9 20x1 50x0 =155", "5x9 10x9 20x0 50x0 =135",
            "5x9 10x8 20x0 50x0 =125", "5x9 10x7 20x0 50x0 =115", "5x8 10x7 20x0 50x0 =110",
            "5x8 10x7 20x0 50x0 =110"};
        for (int j = 0; j < paid.length; j++) {
            int jam = j;
            NoteMix y = Check.box(5, 9, 10, 9, 20, 1, 50, 1);
            Check.due("pay(95, " + jam + ")", paid[j], () -> y.pay(95, jam));
            Check.state("after pay(95, " + jam + ")", left[j], y);
        }
        NoteMix dearBelow = Check.box(500, 2, 100, 2, 7, 2, 1, 2);
        Check.due("cassette 3 first, not the dearest", 8, () -> dearBelow.pay(608, 2));
        Check.state("cassette 3 first", "500x2 100x2 7x1 1x1 =1208", dearBelow);
    }

    private static void promise6PayEmpties() {
        NoteMix x = Check.box(1, 0, 1, 0, 50, 41, 1, 0);
        Check.due("forty at once", 2000, () -> x.pay(2000, 40));
        Check.state("the worth stays", "1x0 1x0 50x1 1x0 =50", x);
        Check.due("no longer", Check.NONE, () -> x.pay(2000, 40));
        Check.due("the last", 50, () -> x.pay(50, 1));
        Check.state("empty", "1x0 1x0 50x0 1x0 =0", x);
        Check.due("reach of nothing", 1, x::reach);
        NoteMix stuck = Check.box(1, 0, 1, 0, 50, 41, 1, 0);
        Check.due("all but one", 1950, () -> stuck.pay(2000, 39));
        Check.state("all but one", "1x0 1x0 50x2 1x0 =100", stuck);
    }

    private static void promise6PayRefuses() {
        NoteMix x = new NoteMix();
        int[] noJam = {-1, 41, Integer.MIN_VALUE, Integer.MAX_VALUE};
        for (int jam : noJam) {
            Check.due("pay(5, " + jam + ")", Check.ILLEGAL, () -> x.pay(5, jam));
            Check.due("no mix: pay(3, " + jam + ")", Check.ILLEGAL, () -> x.pay(3, jam));
            Check.due("both: pay(2001, " + jam + ")", Check.ILLEGAL, () -> x.pay(2001, jam));
        }
        for (int v : OUTSIDE_AMOUNTS) {
            Check.due("pay(" + v + ", 0)", Check.ILLEGAL, () -> x.pay(v, 0));
            Check.due("pay(" + v + ", 40)", Check.ILLEGAL, () -> x.pay(v, 40));
        }
        Check.due("pay(3, 40)", Check.NONE, () -> x.pay(3, 40));
        Check.due("pay(3, 0)", Check.NONE, () -> x.pay(3, 0));
        Check.due("pay(1705, 40)", Check.NONE, () -> x.pay(1705, 40));
        Check.state("refused pays", FRESH, x);
    }

    private static void promise7Next() {
        NoteMix x = new NoteMix();
        Check.due("next(0)", 0, () -> x.next(0));
        Check.due("next(1)", 5, () -> x.next(1));
        Check.due("next(5)", 5, () -> x.next(5));
        Check.due("next(6)", 10, () -> x.next(6));
        Check.due("next(1691)", 1700, () -> x.next(1691));
        Check.due("next(1700)", 1700, () -> x.next(1700));
        Check.due("next(1701)", -1, () -> x.next(1701));
        Check.due("next(2000)", -1, () -> x.next(2000));
        for (int v : OUTSIDE_AMOUNTS) {
            Check.due("next(" + v + ")", Check.ILLEGAL, () -> x.next(v));
        }
        Check.loads(x, 3, 500, 4);
        Check.due("next(1999)", 2000, () -> x.next(1999));
        Check.due("next(2000)", 2000, () -> x.next(2000));
        Check.due("pay(1000, 1)", 500, () -> x.pay(1000, 1));
        Check.due("fewer notes: next(1999)", 2000, () -> x.next(1999));
        NoteMix empty = Check.box(1, 0, 1, 0, 1, 0, 1, 0);
        Check.due("empty: next(0)", 0, () -> empty.next(0));
        Check.due("empty: next(1)", -1, () -> empty.next(1));
        NoteMix forty = Check.box(7, 41, 1, 0, 1, 0, 1, 0);
        Check.due("forty sevens", 280, () -> forty.next(274));
        Check.due("not forty-one", -1, () -> forty.next(281));
    }

    private static void promise8Reach() {
        NoteMix x = Check.box(1, 0, 1, 0, 1, 0, 1, 0);
        Check.due("only 0", 1, x::reach);
        Check.loads(x, 2, 500, 4);
        Check.due("0, 500 .. 2000", 5, x::reach);
        Check.loads(x, 2, 500, 5);
        Check.due("none above 2000", 5, x::reach);
        Check.loads(x, 2, 500, 3);
        Check.due("0, 500, 1000, 1500", 4, x::reach);
        Check.loads(x, 2, 1, 500);
        Check.due("0 to 40", 41, x::reach);
        Check.loads(x, 0, 1, 500);
        Check.due("0 to 40 of two cassettes", 41, x::reach);
        Check.loads(x, 0, 50, 500);
        Check.due("50s and 1s: 40 + 1, 39 + 1 ..", 861, x::reach);
        Check.due("pay(89, 40)", 89, () -> x.pay(89, 40));
        Check.due("still enough of them", 861, x::reach);
        NoteMix all = Check.box(1, 9, 10, 9, 100, 9, 500, 3);
        Check.due("9 + 9 + 4 + 3 notes reach all", 2001, all::reach);
        NoteMix few = Check.box(1, 1, 2, 1, 4, 1, 8, 1);
        Check.due("0 to 15", 16, few::reach);
        Check.due("pay(4, 1)", 4, () -> few.pay(4, 1));
        Check.due("without the 4", 8, few::reach);
    }

    private static void promise9Cassette() {
        NoteMix x = Check.box(11, 12, 13, 14, 15, 16, 17, 18);
        for (int c = 0; c < 4; c++) {
            int cassette = c;
            Check.due("worth of " + c, 11 + 2 * c, () -> x.cassette(cassette, true));
            Check.due("notes of " + c, 12 + 2 * c, () -> x.cassette(cassette, false));
        }
        for (int c : OUTSIDE_CASSETTES) {
            Check.due("cassette(" + c + ", true)", Check.ILLEGAL, () -> x.cassette(c, true));
            Check.due("cassette(" + c + ", false)", Check.ILLEGAL, () -> x.cassette(c, false));
        }
    }

    private static void promise10Value() {
        Check.due("new", 2550, () -> new NoteMix().value());
        Check.due("empty", 0, () -> Check.box(5, 0, 10, 0, 20, 0, 50, 0).value());
        Check.due("all full", 1000000, () -> Check.box(500, 500, 500, 500, 500, 500, 500, 500).value());
        Check.due("one of each", 1111, () -> Check.box(1, 1, 10, 1, 100, 1, 500, 2).value());
        NoteMix x = new NoteMix();
        Check.due("pay(85, 1)", 50, () -> x.pay(85, 1));
        Check.due("less what came out", 2500, x::value);
    }

    private static void askingChangesNothing() {
        NoteMix x = new NoteMix();
        for (int v = 0; v <= 2000; v += 125) {
            int amount = v;
            Check.answerOf(() -> x.best(amount));
            Check.answerOf(() -> x.part(amount, 2));
            Check.answerOf(() -> x.ways(amount));
            Check.answerOf(() -> x.next(amount));
            Check.answerOf(() -> x.pay(amount, 0));
            Check.answerOf(x::reach);
        }
        Check.state("asked", FRESH, x);
    }
}
