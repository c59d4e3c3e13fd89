/** The sentences of "What it is" and "Terms": both sides of every bound that they name. */
public final class TermsTest {
    private static final int[] NO_CASSETTES = {-1, 4, 5, Integer.MIN_VALUE, Integer.MAX_VALUE};
    private static final int[] NO_NOTES = {-1, 501, Integer.MIN_VALUE, Integer.MAX_VALUE};
    private static final int[] NO_WORTHS = {0, -1, 501, Integer.MIN_VALUE, Integer.MAX_VALUE};
    private static final int[] NO_AMOUNTS = {-1, 2001, Integer.MIN_VALUE, Integer.MAX_VALUE};

    private TermsTest() {
    }

    public static void main(String[] args) {
        Check.sentence("at most 512 calls after it has been made");
        the512thPay();
        the512thAfterRefusals();
        the512thOfEachMethod();
        Check.sentence("CASSETTES 0 to 3");
        cassettesInside();
        cassettesOutside();
        Check.sentence("NOTES (0 to 500)");
        notesInside();
        notesOutside();
        noNotes();
        fiveHundredNotes();
        Check.sentence("a WORTH (1 to 500)");
        worthsInside();
        worthsOutside();
        worthOne();
        worthFiveHundred();
        Check.sentence("at first 30 of 5, 10, 20, 50");
        atFirst();
        Check.sentence("an amount v (0 to 2000)");
        amountsOutside();
        amountZero();
        amount2000();
        amountsNextToTheBounds();
        Check.sentence("of those that are in it");
        noMoreThanIsIn();
        Check.sentence("at most 40 together");
        fortyOfOne();
        fortyOfTwo();
        fortyOfFour();
        longerMixesDoNotCount();
        Check.sentence("the MIX with the fewest notes");
        fewestNotes();
        Check.sentence("of such the one with the most of CASSETTE 3, then of 2, then of 1");
        mostOf3();
        mostOf2();
        mostOf1();
        sameWorth();
        Check.finish();
    }

    private static void the512thPay() {
        NoteMix x = new NoteMix();
        Check.loads(x, 3, 1, 500);
        Check.loads(x, 2, 1, 500);
        for (int call = 3; call <= 511; call++) {
            Check.due("call " + call + ": pay(1, 40)", 1, () -> x.pay(1, 40));
        }
        Check.due("500 of cassette 3 and 9 of 2 were paid", 491, () -> x.cassette(2, false));
    }

    private static void the512thAfterRefusals() {
        NoteMix x = new NoteMix();
        for (int call = 1; call <= 511; call++) {
            Check.due("call " + call + ": pay(3, 40)", Check.NONE, () -> x.pay(3, 40));
        }
        Check.due("after 511 refusals: value()", 2550, x::value);
    }

    private static void the512thOfEachMethod() {
        NoteMix[] x = new NoteMix[9];
        for (int i = 0; i < x.length; i++) {
            x[i] = usedFor511Calls();
        }
        Check.due("the 512th: best(40)", 40, () -> x[0].best(40));
        Check.due("the 512th: part(40, 3)", 40, () -> x[1].part(40, 3));
        Check.due("the 512th: ways(40)", 12341, () -> x[2].ways(40));
        Check.due("the 512th: pay(40, 39)", 39, () -> x[3].pay(40, 39));
        Check.due("the 512th: next(41)", -1, () -> x[4].next(41));
        Check.due("the 512th: reach()", 41, x[5]::reach);
        Check.due("the 512th: cassette(3, false)", 500, () -> x[6].cassette(3, false));
        Check.due("the 512th: value()", 2000, x[7]::value);
        Check.loads("the 512th", Check.ILLEGAL, x[8], 0, 1, 501);
    }

    // Four loads, then the calls that have the most to go through.
    private static NoteMix usedFor511Calls() {
        NoteMix x = Check.box(1, 500, 1, 500, 1, 500, 1, 500);
        for (int call = 5; call <= 511; call += 3) {
            Check.due("call " + call + ": ways(40)", 12341, () -> x.ways(40));
            Check.due("call " + (call + 1) + ": reach()", 41, x::reach);
            Check.due("call " + (call + 2) + ": best(41)", Check.NONE, () -> x.best(41));
        }
        return x;
    }

    private static void cassettesInside() {
        NoteMix x = new NoteMix();
        for (int c = 0; c <= 3; c++) {
            int cassette = c;
            Check.due("one of each: part(85, " + c + ")", 1, () -> x.part(85, cassette));
        }
        for (int c = 0; c <= 3; c++) {
            int cassette = c;
            Check.loads(x, c, 101 + c, 201 + c);
            Check.due("cassette(" + c + ", true)", 101 + c, () -> x.cassette(cassette, true));
            Check.due("cassette(" + c + ", false)", 201 + c, () -> x.cassette(cassette, false));
        }
        Check.state("each has its own", "101x201 102x202 103x203 104x204 =83030", x);
    }

    private static void cassettesOutside() {
        NoteMix x = new NoteMix();
        for (int c : NO_CASSETTES) {
            Check.loads("no such cassette", Check.ILLEGAL, x, c, 5, 30);
            Check.due("part(85, " + c + ")", Check.ILLEGAL, () -> x.part(85, c));
            Check.due("cassette(" + c + ", true)", Check.ILLEGAL, () -> x.cassette(c, true));
            Check.due("cassette(" + c + ", false)", Check.ILLEGAL, () -> x.cassette(c, false));
        }
    }

    private static void notesInside() {
        int[] inside = {0, 1, 499, 500};
        for (int c = 0; c <= 3; c++) {
            int cassette = c;
            NoteMix x = new NoteMix();
            for (int notes : inside) {
                Check.loads(x, c, 7, notes);
                Check.due("cassette(" + c + ", false)", notes, () -> x.cassette(cassette, false));
            }
        }
    }

    private static void notesOutside() {
        for (int c = 0; c <= 3; c++) {
            int cassette = c;
            NoteMix x = new NoteMix();
            for (int notes : NO_NOTES) {
                Check.loads("no number of notes", Check.ILLEGAL, x, c, 7, notes);
                Check.due("still: cassette(" + c + ", false)", 30, () -> x.cassette(cassette, false));
            }
        }
    }

    private static void noNotes() {
        for (int c = 0; c <= 3; c++) {
            int cassette = c;
            NoteMix empty = Check.only(c, 50, 0);
            Check.noMix("an empty box", empty, 50);
            Check.due("an empty box: next(1)", -1, () -> empty.next(1));
            Check.due("an empty box: reach()", 1, empty::reach);
            NoteMix x = Check.box(50, 9, 50, 9, 50, 9, 50, 9);
            Check.loads(x, c, 50, 0);
            Check.due("of the empty cassette: part(50, " + c + ")", 0, () -> x.part(50, cassette));
            Check.due("of the three others: ways(50)", 3, () -> x.ways(50));
            Check.due("of the three others: pay(1350, 40)", 1350, () -> x.pay(1350, 40));
            Check.due("all paid: value()", 0, x::value);
            Check.due("an empty cassette's worth", 50, () -> x.cassette(cassette, true));
        }
    }

    private static void fiveHundredNotes() {
        for (int c = 0; c <= 3; c++) {
            int cassette = c;
            NoteMix x = Check.only(c, 50, 500);
            for (int left = 460; left >= 20; left -= 40) {
                Check.due("pay(2000, 40)", 2000, () -> x.pay(2000, 40));
                Check.due("cassette(" + c + ", false)", left, () -> x.cassette(cassette, false));
            }
            Check.due("20 are left: pay(2000, 40)", Check.NONE, () -> x.pay(2000, 40));
            Check.due("20 are left: pay(1000, 40)", 1000, () -> x.pay(1000, 40));
            Check.due("cassette(" + c + ", false)", 0, () -> x.cassette(cassette, false));
            Check.due("all 500 are paid: pay(50, 40)", Check.NONE, () -> x.pay(50, 40));
        }
    }

    private static void worthsInside() {
        int[] inside = {1, 2, 499, 500};
        for (int c = 0; c <= 3; c++) {
            int cassette = c;
            NoteMix x = new NoteMix();
            for (int worth : inside) {
                Check.loads(x, c, worth, 7);
                Check.due("cassette(" + c + ", true)", worth, () -> x.cassette(cassette, true));
            }
        }
    }

    private static void worthsOutside() {
        int[] atFirst = {5, 10, 20, 50};
        for (int c = 0; c <= 3; c++) {
            int cassette = c;
            NoteMix x = new NoteMix();
            for (int worth : NO_WORTHS) {
                Check.loads("no worth", Check.ILLEGAL, x, c, worth, 7);
                Check.due("still: cassette(" + c + ", true)", atFirst[c], () -> x.cassette(cassette, true));
            }
        }
    }

    private static void worthOne() {
        for (int c = 0; c <= 3; c++) {
            NoteMix x = Check.only(c, 1, 2);
            Check.due("best(1)", 1, () -> x.best(1));
            Check.due("best(2)", 2, () -> x.best(2));
            Check.noMix("two ones", x, 3);
            Check.due("0, 1, 2", 3, x::reach);
        }
    }

    private static void worthFiveHundred() {
        for (int c = 0; c <= 3; c++) {
            NoteMix x = Check.only(c, 500, 500);
            Check.due("best(500)", 1, () -> x.best(500));
            Check.due("best(2000)", 4, () -> x.best(2000));
            Check.noMix("one below", x, 499);
            Check.noMix("one above", x, 501);
            Check.due("0, 500 .. 2000", 5, x::reach);
        }
    }

    private static void atFirst() {
        int[] worths = {5, 10, 20, 50};
        Check.state("new", "5x30 10x30 20x30 50x30 =2550", new NoteMix());
        for (int c = 0; c <= 3; c++) {
            int thirty = 30 * worths[c];
            NoteMix x = new NoteMix();
            for (int other = 0; other <= 3; other++) {
                if (other != c) {
                    Check.loads(x, other, 1, 0);
                }
            }
            Check.due("all thirty: best(" + thirty + ")", 30, () -> x.best(thirty));
            Check.noMix("not thirty-one", x, thirty + worths[c]);
        }
    }

    private static void amountsOutside() {
        NoteMix x = new NoteMix();
        for (int v : NO_AMOUNTS) {
            Check.due("best(" + v + ")", Check.ILLEGAL, () -> x.best(v));
            for (int c = 0; c <= 3; c++) {
                int cassette = c;
                Check.due("part(" + v + ", " + c + ")", Check.ILLEGAL, () -> x.part(v, cassette));
            }
            Check.due("ways(" + v + ")", Check.ILLEGAL, () -> x.ways(v));
            Check.due("pay(" + v + ", 0)", Check.ILLEGAL, () -> x.pay(v, 0));
            Check.due("pay(" + v + ", 40)", Check.ILLEGAL, () -> x.pay(v, 40));
            Check.due("next(" + v + ")", Check.ILLEGAL, () -> x.next(v));
        }
    }

    private static void amountZero() {
        NoteMix[] boxes = {
            new NoteMix(), Check.only(0, 1, 0), Check.box(1, 500, 1, 500, 1, 500, 1, 500),
            Check.box(500, 500, 500, 500, 500, 500, 500, 500)};
        for (NoteMix x : boxes) {
            String before = Check.stateOf(x);
            Check.mix("the mix without notes", x, 0, 0, 0, 0, 0);
            Check.due("ways(0)", 1, () -> x.ways(0));
            Check.due("next(0)", 0, () -> x.next(0));
            Check.due("pay(0, 0)", 0, () -> x.pay(0, 0));
            Check.due("pay(0, 40)", 0, () -> x.pay(0, 40));
            Check.state("0 is paid", before, x);
        }
    }

    private static void amount2000() {
        NoteMix x = Check.box(5, 30, 10, 30, 20, 30, 500, 4);
        Check.mix("four of 500", x, 2000, 0, 0, 0, 4);
        Check.due("next(2000)", 2000, () -> x.next(2000));
        Check.due("pay(2000, 40)", 2000, () -> x.pay(2000, 40));
        Check.state("2000 is paid", "5x30 10x30 20x30 500x0 =1050", x);
        Check.noMix("an amount, if one without a mix", x, 2000);
        Check.due("an amount, if one without a mix: next(2000)", -1, () -> x.next(2000));
        Check.due("the only one: ways(2000)", 1, () -> Check.only(1, 500, 4).ways(2000));
    }

    private static void amountsNextToTheBounds() {
        NoteMix x = Check.box(1, 1, 499, 1, 500, 3, 500, 0);
        Check.mix("the one", x, 1, 1, 0, 0, 0);
        Check.mix("three of 500 and 499", x, 1999, 0, 1, 3, 0);
        Check.mix("all that is in it", x, 2000, 1, 1, 3, 0);
        Check.due("pay(1999, 40)", 1999, () -> x.pay(1999, 40));
        Check.due("pay(1, 40)", 1, () -> x.pay(1, 40));
        Check.due("value()", 0, x::value);
    }

    private static void noMoreThanIsIn() {
        int[] numbers = {1, 2, 7, 39};
        for (int c = 0; c <= 3; c++) {
            for (int notes : numbers) {
                NoteMix x = Check.only(c, 10, notes);
                int all = 10 * notes;
                Check.due("all: best(" + all + ")", notes, () -> x.best(all));
                Check.due("all: ways(" + all + ")", 1, () -> x.ways(all));
                Check.due("all: next(" + all + ")", all, () -> x.next(all));
                Check.noMix("one more", x, all + 10);
                Check.due("one more: next(" + (all + 1) + ")", -1, () -> x.next(all + 1));
                Check.due("reach()", notes + 1, x::reach);
                Check.due("all: pay(" + all + ", 40)", all, () -> x.pay(all, 40));
                Check.due("all: value()", 0, x::value);
            }
        }
    }

    private static void fortyOfOne() {
        for (int c = 0; c <= 3; c++) {
            checkForty("500 in cassette " + c, Check.only(c, 1, 500));
            checkForty("41 in cassette " + c, Check.only(c, 1, 41));
        }
    }

    private static void fortyOfTwo() {
        for (int a = 0; a <= 3; a++) {
            for (int b = a + 1; b <= 3; b++) {
                checkForty("cassettes " + a + " and " + b, Check.pair(a, 1, b, 40, 1));
                checkForty("cassettes " + a + " and " + b, Check.pair(a, 20, b, 21, 1));
                checkForty("cassettes " + a + " and " + b, Check.pair(a, 500, b, 500, 1));
            }
        }
    }

    private static void fortyOfFour() {
        NoteMix even = Check.box(1, 10, 1, 10, 1, 10, 1, 11);
        checkForty("four cassettes", even);
        NoteMix x = Check.box(1, 10, 2, 10, 4, 10, 8, 10);
        Check.mix("ten of each", x, 150, 10, 10, 10, 10);
        Check.due("ten of each: pay(150, 40)", 150, () -> x.pay(150, 40));
        Check.due("ten of each: value()", 0, x::value);
    }

    // A box of ones with 41 notes or more.
    private static void checkForty(String what, NoteMix ones) {
        Check.due(what + ": best(40)", 40, () -> ones.best(40));
        Check.noMix(what, ones, 41);
        Check.due(what + ": next(40)", 40, () -> ones.next(40));
        Check.due(what + ": next(41)", -1, () -> ones.next(41));
        Check.due(what + ": 0 to 40", 41, ones::reach);
        Check.due(what + ": pay(40, 40)", 40, () -> ones.pay(40, 40));
    }

    private static void longerMixesDoNotCount() {
        NoteMix x = Check.box(1, 500, 2, 1, 1, 0, 1, 0);
        Check.due("39 ones and a two, not 41 ones: ways(41)", 1, () -> x.ways(41));
        Check.mix("39 ones and a two", x, 41, 39, 1, 0, 0);
        Check.due("40 ones, or 38 and a two: ways(40)", 2, () -> x.ways(40));
        Check.noMix("40 ones and a two", x, 42);
        Check.due("0 to 41", 42, x::reach);
    }

    private static void fewestNotes() {
        Check.mix("before most of 3", Check.box(100, 1, 1, 0, 1, 0, 50, 9), 100, 1, 0, 0, 0);
        Check.mix("before most of 2", Check.box(100, 1, 1, 0, 50, 9, 1, 0), 100, 1, 0, 0, 0);
        Check.mix("before most of 1", Check.box(100, 1, 50, 9, 1, 0, 1, 0), 100, 1, 0, 0, 0);
        Check.mix("of cassette 1", Check.box(1, 0, 100, 1, 1, 0, 50, 9), 100, 0, 1, 0, 0);
        Check.mix("of cassette 2", Check.box(1, 0, 1, 0, 100, 1, 50, 9), 100, 0, 0, 1, 0);
        Check.mix("of cassette 3", Check.box(50, 9, 50, 9, 50, 9, 100, 1), 100, 0, 0, 0, 1);
        Check.mix("three tens before 25 and ones", Check.box(1, 30, 10, 30, 25, 30, 1, 0), 30, 0, 3, 0, 0);
        Check.mix("three notes before three of 3 and a ten", Check.box(30, 3, 10, 1, 1, 0, 25, 3), 85, 2, 0, 0, 1);
    }

    private static void mostOf3() {
        NoteMix x = Check.box(20, 9, 30, 9, 40, 9, 10, 9);
        Check.mix("10 and 40, not 20 and 30", x, 50, 0, 0, 1, 1);
        Check.mix("10 and 40 and 40, not three of 30", x, 90, 0, 0, 2, 1);
        NoteMix y = Check.box(30, 9, 30, 9, 10, 9, 20, 9);
        Check.mix("two of 3, not one of 2 and one of 1", y, 40, 0, 0, 0, 2);
    }

    private static void mostOf2() {
        NoteMix x = Check.box(30, 9, 10, 9, 20, 9, 1, 0);
        Check.mix("none of 3: two of 2, not one of 1 and one of 0", x, 40, 0, 0, 2, 0);
        NoteMix y = Check.box(20, 9, 30, 9, 10, 9, 1, 0);
        Check.mix("none of 3: one of 2 and one of 1, not two of 0", y, 40, 0, 1, 1, 0);
        NoteMix z = Check.box(30, 9, 10, 9, 20, 9, 500, 1);
        Check.mix("as many of 3: two of 2, not one of 1 and one of 0", z, 540, 0, 0, 2, 1);
    }

    // As many notes, as many of 3 and of 2: then 0 and 1 have the same worth.
    private static void mostOf1() {
        Check.mix("none of 3 and 2", Check.box(10, 9, 10, 9, 1, 0, 1, 0), 30, 0, 3, 0, 0);
        Check.mix("none of 3 and 2", Check.box(10, 9, 10, 2, 1, 0, 1, 0), 30, 1, 2, 0, 0);
        Check.mix("as many of 3 and 2", Check.box(10, 9, 10, 2, 100, 2, 500, 1), 730, 1, 2, 2, 1);
    }

    private static void sameWorth() {
        for (int a = 0; a <= 3; a++) {
            for (int b = a + 1; b <= 3; b++) {
                checkPair(a, b);
            }
        }
        NoteMix x = Check.box(10, 3, 10, 3, 10, 3, 10, 3);
        Check.mix("3 alone", x, 30, 0, 0, 0, 3);
        Check.mix("then 2", x, 40, 0, 0, 1, 3);
        Check.mix("then 1", x, 70, 0, 1, 3, 3);
        Check.mix("then 0", x, 100, 1, 3, 3, 3);
        Check.mix("all", x, 120, 3, 3, 3, 3);
    }

    private static void checkPair(int a, int b) {
        String what = "cassettes " + a + " and " + b;
        NoteMix x = Check.pair(a, 5, b, 2, 10);
        Check.due(what + ": part(20, " + b + ")", 2, () -> x.part(20, b));
        Check.due(what + ": part(20, " + a + ")", 0, () -> x.part(20, a));
        Check.due(what + ": part(30, " + b + ")", 2, () -> x.part(30, b));
        Check.due(what + ": part(30, " + a + ")", 1, () -> x.part(30, a));
        Check.due(what + ": pay(10, 1)", 10, () -> x.pay(10, 1));
        Check.due(what + ": cassette(" + b + ", false)", 1, () -> x.cassette(b, false));
        Check.due(what + ": cassette(" + a + ", false)", 5, () -> x.cassette(a, false));
        Check.due(what + ": pay(20, 2)", 20, () -> x.pay(20, 2));
        Check.due(what + ": cassette(" + b + ", false)", 0, () -> x.cassette(b, false));
        Check.due(what + ": cassette(" + a + ", false)", 4, () -> x.cassette(a, false));
    }
}
