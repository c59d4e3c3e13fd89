/** The sentences of promises 1 to 10 that name an edge, each with a test of its own. */
public final class EdgesTest {
    private static final String FRESH = "5x30 10x30 20x30 50x30 =2550";

    private EdgesTest() {
    }

    public static void main(String[] args) {
        Check.sentence("1: As said");
        newObjects();
        Check.sentence("2: in place of what it has");
        loadInPlace();
        loadAfterPay();
        Check.sentence("2: IllegalArgumentException if a number is not as said");
        loadWithWrongNumbers();
        Check.sentence("3: (0 of 0)");
        bestOfZero();
        Check.sentence("3: IllegalArgumentException if v is not 0 to 2000");
        bestAtTheBounds();
        Check.sentence("3: NoSuchElementException if it has no MIX");
        noMixOfTooSmall();
        noMixOfTooLarge();
        noMixBetween();
        noMixUntilLoaded();
        Check.sentence("4: How many of them are of CASSETTE c");
        partsMakeTheBest();
        Check.sentence("4: IllegalArgumentException also, first, if c is not 0 to 3");
        partAtTheBounds();
        Check.sentence("5: of 0 one, without notes");
        waysOfZero();
        Check.sentence("5: CASSETTES count, also if they have the same WORTH");
        waysOfSameWorth();
        Check.sentence("5: How many MIXES of v there are");
        waysOfNoMix();
        mostWays();
        Check.sentence("5: IllegalArgumentException as by best");
        waysAtTheBounds();
        Check.sentence("6: no more than jam of them (0 to 40)");
        jamsInside();
        jamsOutside();
        Check.sentence("6: CASSETTE 3 first, then 2, 1, 0 .. the others stay");
        everyJam();
        jamBetweenTwoOfACassette();
        orderIsNotByWorth();
        Check.sentence("6: what came out, as an amount");
        payToTheLastNote();
        payAgainAfterAJam();
        Check.sentence("6: IllegalArgumentException also, first, if jam is not as said; else as by best");
        payAtTheBounds();
        Check.sentence("7: from v on (v, too)");
        nextIsVItself();
        nextAfterAGap();
        Check.sentence("7: -1 if none to 2000 has");
        noNext();
        Check.sentence("7: IllegalArgumentException as by best");
        nextAtTheBounds();
        Check.sentence("8: How many amounts, 0 to 2000, have a MIX");
        reachOfTheEdges();
        Check.sentence("9: how many NOTES it has, or (worth) their WORTH");
        cassetteAtTheEdges();
        Check.sentence("9: IllegalArgumentException if c is not 0 to 3");
        cassetteAtTheBounds();
        Check.sentence("10: What all NOTES come to");
        valueAtTheEdges();
        Check.finish();
    }

    private static void newObjects() {
        NoteMix first = new NoteMix();
        NoteMix second = new NoteMix();
        Check.due("pay(1700, 40)", 1700, () -> first.pay(1700, 40));
        Check.loads(first, 0, 500, 500);
        Check.state("one made before", FRESH, second);
        Check.state("one made after", FRESH, new NoteMix());
    }

    private static void loadInPlace() {
        NoteMix x = new NoteMix();
        Check.loads(x, 2, 500, 500);
        Check.state("full", "5x30 10x30 500x500 50x30 =251950", x);
        Check.loads(x, 2, 500, 500);
        Check.state("full again, not 1000", "5x30 10x30 500x500 50x30 =251950", x);
        Check.loads(x, 2, 500, 1);
        Check.state("fewer", "5x30 10x30 500x1 50x30 =2450", x);
        Check.loads(x, 2, 1, 1);
        Check.state("another worth", "5x30 10x30 1x1 50x30 =1951", x);
        Check.loads(x, 2, 1, 0);
        Check.state("none", "5x30 10x30 1x0 50x30 =1950", x);
        Check.noMix("the one is gone", x, 1);
    }

    private static void loadAfterPay() {
        NoteMix x = new NoteMix();
        Check.due("pay(1500, 40)", 1500, () -> x.pay(1500, 40));
        Check.state("no fifties", "5x30 10x30 20x30 50x0 =1050", x);
        Check.loads(x, 3, 50, 30);
        Check.state("filled up", FRESH, x);
    }

    private static void loadWithWrongNumbers() {
        NoteMix x = new NoteMix();
        Check.loads("only the cassette", Check.ILLEGAL, x, 4, 7, 7);
        Check.loads("only the worth", Check.ILLEGAL, x, 3, 0, 7);
        Check.loads("only the worth", Check.ILLEGAL, x, 3, 501, 7);
        Check.loads("only the notes", Check.ILLEGAL, x, 3, 7, -1);
        Check.loads("only the notes", Check.ILLEGAL, x, 3, 7, 501);
        Check.loads("cassette and worth", Check.ILLEGAL, x, -1, 0, 7);
        Check.loads("cassette and notes", Check.ILLEGAL, x, -1, 7, 501);
        Check.loads("worth and notes", Check.ILLEGAL, x, 3, 501, 501);
        Check.loads("all three", Check.ILLEGAL, x, 4, 0, -1);
        Check.loads("worth 0 of no notes", Check.ILLEGAL, x, 3, 0, 0);
        Check.state("refused", FRESH, x);
    }

    private static void bestOfZero() {
        Check.due("new: best(0)", 0, () -> new NoteMix().best(0));
        Check.due("full: best(0)", 0, () -> Check.box(1, 500, 1, 500, 1, 500, 1, 500).best(0));
        NoteMix x = Check.only(0, 1, 1);
        Check.due("pay(1, 1)", 1, () -> x.pay(1, 1));
        Check.due("all paid: best(0)", 0, () -> x.best(0));
    }

    // Its notes come to 2001, so that nothing but the bound keeps that amount out.
    private static NoteMix boxOf2001() {
        return Check.box(1, 1, 500, 4, 1, 0, 1, 0);
    }

    private static void bestAtTheBounds() {
        NoteMix x = boxOf2001();
        Check.due("best(-1)", Check.ILLEGAL, () -> x.best(-1));
        Check.due("best(0)", 0, () -> x.best(0));
        Check.due("best(2000)", 4, () -> x.best(2000));
        Check.due("best(2001)", Check.ILLEGAL, () -> x.best(2001));
    }

    private static void noMixOfTooSmall() {
        NoteMix x = new NoteMix();
        Check.noMix("below the least note", x, 1);
        Check.noMix("below the least note", x, 4);
        Check.due("the least note: best(5)", 1, () -> x.best(5));
        Check.state("refused", FRESH, x);
    }

    private static void noMixOfTooLarge() {
        NoteMix x = new NoteMix();
        Check.due("forty notes: best(1700)", 40, () -> x.best(1700));
        Check.noMix("forty notes do not come to it", x, 1705);
        Check.noMix("forty notes do not come to it", x, 2000);
        NoteMix y = Check.box(5, 1, 10, 1, 20, 1, 50, 1);
        Check.due("all notes: best(85)", 4, () -> y.best(85));
        Check.noMix("all notes do not come to it", y, 90);
    }

    private static void noMixBetween() {
        Check.noMix("no note of 1 to 4", new NoteMix(), 87);
        Check.noMix("three of 500 and 499 are 1999", Check.box(499, 1, 500, 3, 1, 0, 1, 0), 1998);
        Check.noMix("a 7 and twice 3 are 13", Check.box(7, 1, 3, 2, 1, 0, 1, 0), 11);
        Check.noMix("more notes of the small one are needed", Check.box(1, 3, 5, 9, 1, 0, 1, 0), 9);
    }

    private static void noMixUntilLoaded() {
        NoteMix x = new NoteMix();
        Check.noMix("no ones", x, 86);
        Check.loads(x, 1, 1, 1);
        Check.mix("a one", x, 86, 3, 1, 1, 1);
        Check.due("pay(1, 40)", 1, () -> x.pay(1, 40));
        Check.noMix("the one is paid", x, 86);
    }

    private static void partsMakeTheBest() {
        int[] worths = {5, 10, 20, 50};
        for (int v = 0; v <= 1690; v += 5) {
            NoteMix x = new NoteMix();
            int notes = 0;
            int amount = 0;
            for (int c = 0; c <= 3; c++) {
                int part = x.part(v, c);
                notes += part;
                amount += part * worths[c];
            }
            int asked = v;
            Check.due("the parts of " + v, notes, () -> x.best(asked));
            Check.same("the parts of " + v, Integer.toString(v), Integer.toString(amount));
        }
    }

    private static void partAtTheBounds() {
        NoteMix x = boxOf2001();
        Check.due("part(2000, -1)", Check.ILLEGAL, () -> x.part(2000, -1));
        Check.due("part(2000, 0)", 0, () -> x.part(2000, 0));
        Check.due("part(2000, 1)", 4, () -> x.part(2000, 1));
        Check.due("part(2000, 3)", 0, () -> x.part(2000, 3));
        Check.due("part(2000, 4)", Check.ILLEGAL, () -> x.part(2000, 4));
        Check.due("part(-1, 1)", Check.ILLEGAL, () -> x.part(-1, 1));
        Check.due("part(0, 1)", 0, () -> x.part(0, 1));
        Check.due("part(2001, 1)", Check.ILLEGAL, () -> x.part(2001, 1));
        Check.due("no mix: part(2, 3)", Check.NONE, () -> x.part(2, 3));
        Check.due("no mix: part(2, 4)", Check.ILLEGAL, () -> x.part(2, 4));
        Check.due("no mix: part(2, -1)", Check.ILLEGAL, () -> x.part(2, -1));
    }

    private static void waysOfZero() {
        Check.due("new: ways(0)", 1, () -> new NoteMix().ways(0));
        Check.due("empty: ways(0)", 1, () -> Check.only(0, 1, 0).ways(0));
        Check.due("full: ways(0)", 1, () -> Check.box(1, 500, 1, 500, 1, 500, 1, 500).ways(0));
    }

    private static void waysOfSameWorth() {
        for (int a = 0; a <= 3; a++) {
            for (int b = a + 1; b <= 3; b++) {
                NoteMix x = Check.pair(a, 2, b, 1, 10);
                Check.due(a + " and " + b + ": ways(10)", 2, () -> x.ways(10));
                Check.due(a + " and " + b + ": ways(20)", 2, () -> x.ways(20));
                Check.due(a + " and " + b + ": ways(30)", 1, () -> x.ways(30));
                Check.due(a + " and " + b + ": ways(40)", 0, () -> x.ways(40));
            }
        }
        NoteMix x = Check.box(10, 1, 10, 1, 10, 1, 10, 1);
        int[] due = {1, 4, 6, 4, 1, 0};
        for (int notes = 0; notes < due.length; notes++) {
            int v = 10 * notes;
            Check.due("one in each: ways(" + v + ")", due[notes], () -> x.ways(v));
        }
    }

    private static void waysOfNoMix() {
        NoteMix x = new NoteMix();
        Check.due("below the least note: ways(4)", 0, () -> x.ways(4));
        Check.due("the least note: ways(5)", 1, () -> x.ways(5));
        Check.due("forty notes: ways(1700)", 1, () -> x.ways(1700));
        Check.due("not with forty: ways(1705)", 0, () -> x.ways(1705));
        Check.due("not with forty: ways(2000)", 0, () -> x.ways(2000));
    }

    // Forty notes of four cassettes: 43 * 42 * 41 / 6; thirty-nine: 42 * 41 * 40 / 6.
    private static void mostWays() {
        NoteMix ones = Check.box(1, 40, 1, 40, 1, 40, 1, 40);
        Check.due("forty: ways(40)", 12341, () -> ones.ways(40));
        Check.due("thirty-nine: ways(39)", 11480, () -> ones.ways(39));
        Check.loads(ones, 3, 1, 39);
        Check.due("all but forty of cassette 3: ways(40)", 12340, () -> ones.ways(40));
        NoteMix fifties = Check.box(50, 500, 50, 500, 50, 500, 50, 500);
        Check.due("forty: ways(2000)", 12341, () -> fifties.ways(2000));
    }

    private static void waysAtTheBounds() {
        NoteMix x = boxOf2001();
        Check.due("ways(-1)", Check.ILLEGAL, () -> x.ways(-1));
        Check.due("ways(0)", 1, () -> x.ways(0));
        Check.due("ways(2000)", 1, () -> x.ways(2000));
        Check.due("ways(2001)", Check.ILLEGAL, () -> x.ways(2001));
    }

    private static void jamsInside() {
        NoteMix x = Check.only(1, 50, 100);
        Check.due("pay(2000, 0)", 0, () -> x.pay(2000, 0));
        Check.due("cassette(1, false)", 100, () -> x.cassette(1, false));
        Check.due("pay(2000, 1)", 50, () -> x.pay(2000, 1));
        Check.due("cassette(1, false)", 99, () -> x.cassette(1, false));
        Check.due("pay(2000, 39)", 1950, () -> x.pay(2000, 39));
        Check.due("cassette(1, false)", 60, () -> x.cassette(1, false));
        Check.due("pay(2000, 40)", 2000, () -> x.pay(2000, 40));
        Check.due("cassette(1, false)", 20, () -> x.cassette(1, false));
    }

    private static void jamsOutside() {
        NoteMix x = new NoteMix();
        int[] noJams = {-1, 41, Integer.MIN_VALUE, Integer.MAX_VALUE};
        for (int jam : noJams) {
            Check.due("pay(0, " + jam + ")", Check.ILLEGAL, () -> x.pay(0, jam));
            Check.due("pay(85, " + jam + ")", Check.ILLEGAL, () -> x.pay(85, jam));
        }
        Check.state("refused", FRESH, x);
    }

    private static void everyJam() {
        int[] order = {50, 50, 20, 20, 10, 5};
        String[] left = {
            "5x4 10x4 20x2 50x2 =200", "5x4 10x4 20x2 50x1 =150", "5x4 10x4 20x2 50x0 =100",
            "5x4 10x4 20x1 50x0 =80", "5x4 10x4 20x0 50x0 =60", "5x4 10x3 20x0 50x0 =50",
            "5x3 10x3 20x0 50x0 =45"};
        int paid = 0;
        for (int j = 0; j <= order.length; j++) {
            int jam = j;
            NoteMix x = Check.box(5, 4, 10, 4, 20, 2, 50, 2);
            Check.due("pay(155, " + jam + ")", paid, () -> x.pay(155, jam));
            Check.state("pay(155, " + jam + ")", left[j], x);
            paid += j < order.length ? order[j] : 0;
        }
        NoteMix x = Check.box(5, 4, 10, 4, 20, 2, 50, 2);
        Check.due("a note more than the six: pay(155, 7)", 155, () -> x.pay(155, 7));
        Check.state("a note more than the six", left[6], x);
    }

    private static void jamBetweenTwoOfACassette() {
        for (int c = 0; c <= 3; c++) {
            int cassette = c;
            NoteMix x = Check.only(c, 7, 3);
            Check.due("pay(21, 2)", 14, () -> x.pay(21, 2));
            Check.due("cassette(" + c + ", false)", 1, () -> x.cassette(cassette, false));
        }
    }

    private static void orderIsNotByWorth() {
        NoteMix x = Check.box(500, 1, 100, 1, 20, 1, 1, 1);
        Check.due("of 3: pay(621, 1)", 1, () -> x.pay(621, 1));
        Check.due("of 2: pay(620, 1)", 20, () -> x.pay(620, 1));
        Check.due("of 1: pay(600, 1)", 100, () -> x.pay(600, 1));
        Check.due("of 0: pay(500, 1)", 500, () -> x.pay(500, 1));
        Check.state("all paid", "500x0 100x0 20x0 1x0 =0", x);
    }

    private static void payToTheLastNote() {
        NoteMix x = Check.box(5, 1, 10, 1, 20, 1, 50, 1);
        Check.due("pay(85, 40)", 85, () -> x.pay(85, 40));
        Check.state("all paid", "5x0 10x0 20x0 50x0 =0", x);
        Check.noMix("all paid", x, 85);
        Check.noMix("all paid", x, 5);
        Check.due("all paid: pay(0, 40)", 0, () -> x.pay(0, 40));
    }

    private static void payAgainAfterAJam() {
        NoteMix x = Check.box(5, 30, 10, 30, 20, 30, 50, 1);
        Check.due("the only fifty: pay(60, 1)", 50, () -> x.pay(60, 1));
        Check.mix("without it", x, 60, 0, 0, 3, 0);
        Check.due("without it: pay(60, 2)", 40, () -> x.pay(60, 2));
        Check.due("without it: pay(60, 40)", 60, () -> x.pay(60, 40));
        Check.state("what stays", "5x30 10x30 20x25 50x0 =950", x);
    }

    private static void payAtTheBounds() {
        NoteMix x = boxOf2001();
        Check.due("pay(-1, 40)", Check.ILLEGAL, () -> x.pay(-1, 40));
        Check.due("pay(2001, 40)", Check.ILLEGAL, () -> x.pay(2001, 40));
        Check.due("pay(2000, -1)", Check.ILLEGAL, () -> x.pay(2000, -1));
        Check.due("pay(2000, 41)", Check.ILLEGAL, () -> x.pay(2000, 41));
        Check.due("no mix: pay(2, -1)", Check.ILLEGAL, () -> x.pay(2, -1));
        Check.due("no mix: pay(2, 41)", Check.ILLEGAL, () -> x.pay(2, 41));
        Check.due("no mix: pay(2, 0)", Check.NONE, () -> x.pay(2, 0));
        Check.due("no mix: pay(2, 40)", Check.NONE, () -> x.pay(2, 40));
        Check.state("refused", "1x1 500x4 1x0 1x0 =2001", x);
        Check.due("pay(0, 40)", 0, () -> x.pay(0, 40));
        Check.due("pay(2000, 0)", 0, () -> x.pay(2000, 0));
        Check.due("pay(2000, 40)", 2000, () -> x.pay(2000, 40));
        Check.state("paid", "1x1 500x0 1x0 1x0 =1", x);
    }

    private static void nextIsVItself() {
        NoteMix x = new NoteMix();
        Check.due("next(0)", 0, () -> x.next(0));
        Check.due("next(5)", 5, () -> x.next(5));
        Check.due("next(1700)", 1700, () -> x.next(1700));
        Check.due("next(2000)", 2000, () -> Check.only(2, 500, 4).next(2000));
    }

    private static void nextAfterAGap() {
        NoteMix x = Check.box(499, 1, 500, 4, 1, 0, 1, 0);
        Check.due("next(1)", 499, () -> x.next(1));
        Check.due("next(501)", 999, () -> x.next(501));
        Check.due("next(1501)", 1999, () -> x.next(1501));
        Check.due("next(1999)", 1999, () -> x.next(1999));
        Check.due("next(2000)", 2000, () -> x.next(2000));
    }

    private static void noNext() {
        NoteMix x = new NoteMix();
        Check.due("next(1701)", -1, () -> x.next(1701));
        Check.due("next(2000)", -1, () -> x.next(2000));
        NoteMix y = Check.only(3, 499, 500);
        Check.due("four of 499: next(1996)", 1996, () -> y.next(1996));
        Check.due("five of 499 are above 2000: next(1997)", -1, () -> y.next(1997));
        NoteMix empty = Check.only(3, 499, 0);
        Check.due("empty: next(0)", 0, () -> empty.next(0));
        Check.due("empty: next(1)", -1, () -> empty.next(1));
    }

    private static void nextAtTheBounds() {
        NoteMix x = boxOf2001();
        Check.due("next(-1)", Check.ILLEGAL, () -> x.next(-1));
        Check.due("next(0)", 0, () -> x.next(0));
        Check.due("next(2000)", 2000, () -> x.next(2000));
        Check.due("next(2001)", Check.ILLEGAL, () -> x.next(2001));
    }

    private static void reachOfTheEdges() {
        Check.due("only 0", 1, () -> Check.only(0, 1, 0).reach());
        Check.due("0 and 500", 2, () -> Check.only(0, 500, 1).reach());
        Check.due("0, 500 .. 2000", 5, () -> Check.only(0, 500, 4).reach());
        Check.due("not 2500", 5, () -> Check.only(0, 500, 5).reach());
        Check.due("0, 1 .. 1500, 1501, 2000, not 2001", 9, () -> Check.box(1, 1, 500, 4, 1, 0, 1, 0).reach());
        Check.due("0, 499 .. 1996", 5, () -> Check.only(0, 499, 500).reach());
        Check.due("0 to 40", 41, () -> Check.only(0, 1, 500).reach());
        Check.due("0 to 160 by fours", 41, () -> Check.only(0, 4, 500).reach());
        Check.due("0 to 2000 by fifties", 41, () -> Check.only(0, 50, 500).reach());
        Check.due("all", 2001, () -> Check.box(1, 9, 10, 9, 100, 9, 500, 3).reach());
        Check.due("all but 9, 19 .. 1999", 1801, () -> Check.box(1, 8, 10, 9, 100, 9, 500, 3).reach());
    }

    private static void cassetteAtTheEdges() {
        NoteMix x = Check.box(1, 0, 500, 500, 1, 500, 500, 0);
        Check.due("cassette(0, true)", 1, () -> x.cassette(0, true));
        Check.due("cassette(0, false)", 0, () -> x.cassette(0, false));
        Check.due("cassette(1, true)", 500, () -> x.cassette(1, true));
        Check.due("cassette(1, false)", 500, () -> x.cassette(1, false));
        Check.due("cassette(2, true)", 1, () -> x.cassette(2, true));
        Check.due("cassette(2, false)", 500, () -> x.cassette(2, false));
        Check.due("cassette(3, true)", 500, () -> x.cassette(3, true));
        Check.due("cassette(3, false)", 0, () -> x.cassette(3, false));
        Check.due("pay(1500, 2)", 1000, () -> x.pay(1500, 2));
        Check.due("two fewer: cassette(1, false)", 498, () -> x.cassette(1, false));
        Check.due("the same worth: cassette(1, true)", 500, () -> x.cassette(1, true));
    }

    private static void cassetteAtTheBounds() {
        NoteMix x = new NoteMix();
        Check.due("cassette(-1, true)", Check.ILLEGAL, () -> x.cassette(-1, true));
        Check.due("cassette(-1, false)", Check.ILLEGAL, () -> x.cassette(-1, false));
        Check.due("cassette(0, true)", 5, () -> x.cassette(0, true));
        Check.due("cassette(3, true)", 50, () -> x.cassette(3, true));
        Check.due("cassette(4, true)", Check.ILLEGAL, () -> x.cassette(4, true));
        Check.due("cassette(4, false)", Check.ILLEGAL, () -> x.cassette(4, false));
    }

    private static void valueAtTheEdges() {
        Check.due("no notes", 0, () -> Check.box(500, 0, 500, 0, 500, 0, 500, 0).value());
        Check.due("the least note", 1, () -> Check.only(2, 1, 1).value());
        Check.due("all full", 1000000, () -> Check.box(500, 500, 500, 500, 500, 500, 500, 500).value());
        for (int c = 0; c <= 3; c++) {
            NoteMix x = Check.only(c, 500, 500);
            Check.due("cassette " + c + " full", 250000, x::value);
            Check.due("pay(2000, 40)", 2000, () -> x.pay(2000, 40));
            Check.due("less 2000", 248000, x::value);
        }
        Check.due("more than forty notes", 41, () -> Check.only(1, 1, 41).value());
        Check.due("more than 2000", 2001, () -> Check.box(1, 1, 500, 4, 1, 0, 1, 0).value());
    }
}
