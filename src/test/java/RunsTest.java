/** Runs of several calls on one object, worked out by hand, in which each answer hangs on the loads and pays before it. */
public final class RunsTest {
    private RunsTest() {
    }

    public static void main(String[] args) {
        Check.sentence("README.md, Use");
        theRunOfTheReadme();
        Check.sentence("2: CASSETTE c gets so many NOTES of a WORTH, in place of what it has");
        everyQuestionAfterALoad();
        aLoadTurnsTheChoice();
        Check.sentence("6: The BEST of v is paid out");
        everyQuestionAfterAPay();
        eachPayTakesAWay();
        payUntilNothingIsLeft();
        Check.sentence("6: no more than jam of them (the others stay)");
        everyQuestionAfterAJam();
        aJamOfZeroChangesNothing();
        Check.sentence("1: As said");
        twoObjectsInTurns();
        Check.finish();
    }

    private static void theRunOfTheReadme() {
        NoteMix box = new NoteMix();
        Check.loads(box, 3, 100, 12);
        Check.due("best(135)", 4, () -> box.best(135));
        Check.due("part(135, 3)", 1, () -> box.part(135, 3));
        Check.due("ways(10)", 2, () -> box.ways(10));
        Check.due("pay(135, 40)", 135, () -> box.pay(135, 40));
        Check.due("pay(135, 1)", 100, () -> box.pay(135, 1));
        Check.due("next(136)", 140, () -> box.next(136));
        Check.due("reach()", 319, box::reach);
        Check.due("cassette(3, false)", 10, () -> box.cassette(3, false));
        Check.due("cassette(3, true)", 100, () -> box.cassette(3, true));
        Check.due("value()", 2015, box::value);
        Check.due("best(3)", Check.NONE, () -> box.best(3));
        Check.due("best(2001)", Check.ILLEGAL, () -> box.best(2001));
    }

    private static void everyQuestionAfterALoad() {
        NoteMix x = Check.box(1, 0, 1, 0, 7, 2, 100, 1);
        Check.mix("7, 7, 100", x, 107, 0, 0, 1, 1);
        Check.due("7, 7, 100: ways(107)", 1, () -> x.ways(107));
        Check.due("7, 7, 100: next(15)", 100, () -> x.next(15));
        Check.due("0, 7, 14, 100, 107, 114", 6, x::reach);
        Check.state("7, 7, 100", "1x0 1x0 7x2 100x1 =114", x);
        Check.loads(x, 1, 107, 1);
        Check.mix("and 107", x, 107, 0, 1, 0, 0);
        Check.due("and 107: ways(107)", 2, () -> x.ways(107));
        Check.due("and 107: next(115)", 121, () -> x.next(115));
        Check.due("also 121, 207, 214, 221", 10, x::reach);
        Check.state("and 107", "1x0 107x1 7x2 100x1 =221", x);
        Check.loads(x, 3, 8, 1);
        Check.mix("8 in place of 100", x, 15, 0, 0, 1, 1);
        Check.due("8 in place of 100: ways(107)", 1, () -> x.ways(107));
        Check.due("8 in place of 100: next(23)", 107, () -> x.next(23));
        Check.due("0, 7, 8, 14, 15, 22 and 107 more", 12, x::reach);
        Check.state("8 in place of 100", "1x0 107x1 7x2 8x1 =129", x);
        Check.noMix("8 in place of 100", x, 100);
    }

    private static void aLoadTurnsTheChoice() {
        NoteMix x = Check.box(5, 30, 10, 30, 30, 2, 50, 30);
        Check.mix("50 and 10, not 30 and 30", x, 60, 0, 1, 0, 1);
        Check.loads(x, 3, 50, 0);
        Check.mix("without the fifties", x, 60, 0, 0, 2, 0);
        Check.loads(x, 2, 30, 1);
        Check.mix("with a single 30", x, 60, 0, 3, 1, 0);
        Check.loads(x, 0, 60, 1);
        Check.mix("with a 60", x, 60, 1, 0, 0, 0);
        Check.loads(x, 3, 60, 1);
        Check.mix("with a 60 in cassette 3 too", x, 60, 0, 0, 0, 1);
    }

    private static void everyQuestionAfterAPay() {
        NoteMix x = new NoteMix();
        Check.loads(x, 2, 30, 1);
        Check.mix("with the 30", x, 30, 0, 0, 1, 0);
        Check.due("with the 30: ways(30)", 5, () -> x.ways(30));
        Check.due("30 of 50, the 30, 9 of 10: next(1616)", 1620, () -> x.next(1616));
        Check.due("0 to 1620 by fives", 325, x::reach);
        Check.state("with the 30", "5x30 10x30 30x1 50x30 =1980", x);
        Check.due("pay(30, 40)", 30, () -> x.pay(30, 40));
        Check.mix("the 30 is paid", x, 30, 0, 3, 0, 0);
        Check.due("the 30 is paid: ways(30)", 4, () -> x.ways(30));
        Check.due("30 of 50, 10 of 10: next(1596)", 1600, () -> x.next(1596));
        Check.due("the 30 is paid: next(1601)", -1, () -> x.next(1601));
        Check.due("0 to 1600 by fives", 321, x::reach);
        Check.state("the 30 is paid", "5x30 10x30 30x0 50x30 =1950", x);
        Check.due("tens now: pay(30, 40)", 30, () -> x.pay(30, 40));
        Check.state("tens are paid", "5x30 10x27 30x0 50x30 =1920", x);
    }

    private static void eachPayTakesAWay() {
        NoteMix x = Check.box(10, 3, 10, 3, 1, 0, 1, 0);
        for (int ways = 4; ways >= 1; ways--) {
            int left = ways;
            Check.due(left + " are left: ways(30)", left, () -> x.ways(30));
            Check.due(left + " are left: best(30)", 3, () -> x.best(30));
            Check.due(left + " are left: part(30, 1)", left - 1, () -> x.part(30, 1));
            Check.due(left + " are left: pay(10, 40)", 10, () -> x.pay(10, 40));
        }
        Check.noMix("two tens", x, 30);
        Check.due("0, 10, 20", 3, x::reach);
        Check.state("two tens", "10x2 10x0 1x0 1x0 =20", x);
    }

    private static void payUntilNothingIsLeft() {
        NoteMix x = Check.box(1, 1, 2, 1, 4, 1, 8, 1);
        int[] amounts = {8, 4, 2, 1};
        int reach = 16;
        for (int v : amounts) {
            int reached = reach;
            Check.due("before pay(" + v + ", 40): reach()", reached, x::reach);
            Check.due("before pay(" + v + ", 40): value()", reached - 1, x::value);
            Check.due("before pay(" + v + ", 40): next(" + (reached - 1) + ")", reached - 1, () -> x.next(reached - 1));
            Check.due("before pay(" + v + ", 40): next(" + reached + ")", -1, () -> x.next(reached));
            Check.due("pay(" + v + ", 40)", v, () -> x.pay(v, 40));
            Check.noMix("after pay(" + v + ", 40)", x, v);
            reach /= 2;
        }
        Check.due("only 0", 1, x::reach);
        Check.state("all paid", "1x0 2x0 4x0 8x0 =0", x);
    }

    private static void everyQuestionAfterAJam() {
        NoteMix x = Check.box(1, 0, 1, 0, 7, 2, 100, 1);
        Check.due("the 100 alone: pay(114, 1)", 100, () -> x.pay(114, 1));
        Check.noMix("7, 7", x, 114);
        Check.mix("7, 7", x, 14, 0, 0, 2, 0);
        Check.due("7, 7: ways(7)", 1, () -> x.ways(7));
        Check.due("7, 7: next(8)", 14, () -> x.next(8));
        Check.due("7, 7: next(15)", -1, () -> x.next(15));
        Check.due("0, 7, 14", 3, x::reach);
        Check.state("7, 7", "1x0 1x0 7x2 100x0 =14", x);
        Check.due("one of the two: pay(14, 1)", 7, () -> x.pay(14, 1));
        Check.noMix("a 7", x, 14);
        Check.due("a 7: next(8)", -1, () -> x.next(8));
        Check.due("0, 7", 2, x::reach);
        Check.state("a 7", "1x0 1x0 7x1 100x0 =7", x);
    }

    private static void aJamOfZeroChangesNothing() {
        NoteMix x = Check.box(5, 2, 10, 1, 20, 1, 50, 1);
        for (int v = 0; v <= 40; v += 5) {
            int low = v;
            int high = 50 + v;
            Check.due("pay(" + low + ", 0)", 0, () -> x.pay(low, 0));
            Check.due("pay(" + high + ", 0)", 0, () -> x.pay(high, 0));
        }
        Check.noMix("neither 40 and a 5 nor a 50", x, 45);
        Check.mix("all that is in it", x, 90, 2, 1, 1, 1);
        Check.due("two of 5 or a 10: ways(10)", 2, () -> x.ways(10));
        Check.due("0 to 90 by fives, but 45", 18, x::reach);
        Check.state("nothing came out", "5x2 10x1 20x1 50x1 =90", x);
    }

    private static void twoObjectsInTurns() {
        NoteMix x = new NoteMix();
        NoteMix y = Check.box(3, 30, 10, 30, 20, 30, 50, 30);
        Check.mix("fives", x, 85, 1, 1, 1, 1);
        Check.mix("threes", y, 83, 1, 1, 1, 1);
        Check.due("fives: pay(85, 40)", 85, () -> x.pay(85, 40));
        Check.due("threes: pay(83, 2)", 70, () -> y.pay(83, 2));
        Check.state("fives", "5x29 10x29 20x29 50x29 =2465", x);
        Check.state("threes", "3x30 10x30 20x29 50x29 =2420", y);
        Check.due("fives: next(1)", 5, () -> x.next(1));
        Check.due("threes: next(1)", 3, () -> y.next(1));
        Check.due("fives: next(7)", 10, () -> x.next(7));
        Check.due("threes: next(7)", 9, () -> y.next(7));
    }
}
