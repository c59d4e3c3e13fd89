import java.util.NoSuchElementException;
import java.util.Random;

/** Long runs of calls beside a slow reference that goes through all mixes as the document words them. */
public final class ReferenceTest {
    private static final int RUNS = 60;
    // Nothing is promised after 512 calls, and the state at a run's end takes nine.
    private static final int CALLS = 512 - 9;
    private static final int[] WORTHS = {1, 2, 3, 5, 7, 10, 20, 25, 49, 50, 51, 100, 499, 500};
    private static final int[] NOTES = {0, 1, 2, 3, 8, 15, 16, 31, 32, 39, 40, 41, 499, 500};

    private ReferenceTest() {
    }

    public static void main(String[] args) {
        for (int seed = 1; seed <= RUNS; seed++) {
            run(seed);
        }
        Check.finish();
    }

    private static void run(int seed) {
        Random random = new Random(seed);
        NoteMix x = new NoteMix();
        Reference y = new Reference();
        for (int call = 1; call <= CALLS; call++) {
            step("run " + seed + ", call " + call + ": ", random, x, y);
        }
        Check.same("run " + seed + ": state", y.state(), Check.stateOf(x));
    }

    private static void step(String at, Random random, NoteMix x, Reference y) {
        int v = amount(random, y);
        int c = random.nextInt(20) == 0 ? random.nextInt(8) - 2 : random.nextInt(4);
        int jam = random.nextInt(20) == 0 ? random.nextInt(60) - 10 : random.nextInt(41);
        boolean worth = random.nextBoolean();
        switch (random.nextInt(9)) {
            case 0 -> both(at + "best(" + v + ")", () -> x.best(v), () -> y.best(v));
            case 1 -> both(at + "part(" + v + ", " + c + ")", () -> x.part(v, c), () -> y.part(v, c));
            case 2 -> both(at + "ways(" + v + ")", () -> x.ways(v), () -> y.ways(v));
            case 3 -> both(at + "pay(" + v + ", " + jam + ")", () -> x.pay(v, jam), () -> y.pay(v, jam));
            case 4 -> both(at + "next(" + v + ")", () -> x.next(v), () -> y.next(v));
            case 5 -> both(at + "reach()", x::reach, y::reach);
            case 6 -> both(at + "cassette(" + c + ", " + worth + ")",
                () -> x.cassette(c, worth), () -> y.cassette(c, worth));
            case 7 -> both(at + "value()", x::value, y::value);
            default -> load(at, c, random, x, y);
        }
    }

    private static void load(String at, int c, Random random, NoteMix x, Reference y) {
        int worth = random.nextInt(3) == 0 ? random.nextInt(520) - 5 : WORTHS[random.nextInt(WORTHS.length)];
        int notes = random.nextInt(3) == 0 ? random.nextInt(520) - 5 : NOTES[random.nextInt(NOTES.length)];
        String name = at + "load(" + c + ", " + worth + ", " + notes + ")";
        both(name, () -> {
            x.load(c, worth, notes);
            return 0;
        }, () -> y.load(c, worth, notes));
    }

    // Mostly amounts that have a mix, since most others answer alike.
    private static int amount(Random random, Reference y) {
        int v = random.nextInt(2040) - 20;
        if (random.nextInt(4) != 0 && v >= 0 && v <= 2000) {
            int reached = y.next(v);
            return reached < 0 ? y.next(random.nextInt(v + 1)) : reached;
        }
        return v;
    }

    private static void both(String name, Check.Call call, Check.Call reference) {
        Check.due(name, Check.answerOf(reference), call);
    }

    /** All mixes at once: how many each amount has, and its best. */
    private static final class Reference {
        private final int[] worth = {5, 10, 20, 50};
        private final int[] notes = {30, 30, 30, 30};
        private final int[] ways = new int[2001];
        private final int[][] best = new int[2001][];
        private boolean stale = true;

        int load(int c, int newWorth, int newNotes) {
            need(c >= 0 && c <= 3 && newWorth >= 1 && newWorth <= 500 && newNotes >= 0 && newNotes <= 500);
            worth[c] = newWorth;
            notes[c] = newNotes;
            stale = true;
            return 0;
        }

        int best(int v) {
            return sizeOf(bestOf(v));
        }

        int part(int v, int c) {
            need(c >= 0 && c <= 3);
            return bestOf(v)[c];
        }

        int ways(int v) {
            needAmount(v);
            return ways[v];
        }

        int pay(int v, int jam) {
            need(jam >= 0 && jam <= 40);
            int[] left = bestOf(v).clone();
            int paid = 0;
            int c = 3;
            for (int out = 0; out < jam && c >= 0;) {
                if (left[c] == 0) {
                    c--;
                } else {
                    left[c]--;
                    notes[c]--;
                    paid += worth[c];
                    out++;
                }
            }
            stale = true;
            return paid;
        }

        int next(int v) {
            needAmount(v);
            int amount = v;
            while (amount <= 2000 && ways[amount] == 0) {
                amount++;
            }
            return amount <= 2000 ? amount : -1;
        }

        int reach() {
            refresh();
            int reached = 0;
            for (int count : ways) {
                reached += count > 0 ? 1 : 0;
            }
            return reached;
        }

        int cassette(int c, boolean ofWorth) {
            need(c >= 0 && c <= 3);
            return ofWorth ? worth[c] : notes[c];
        }

        int value() {
            return worth[0] * notes[0] + worth[1] * notes[1] + worth[2] * notes[2] + worth[3] * notes[3];
        }

        String state() {
            StringBuilder text = new StringBuilder();
            for (int c = 0; c < 4; c++) {
                text.append(worth[c]).append('x').append(notes[c]).append(' ');
            }
            return text.append('=').append(value()).toString();
        }

        private static void need(boolean asSaid) {
            if (!asSaid) {
                throw new IllegalArgumentException();
            }
        }

        private void needAmount(int v) {
            need(v >= 0 && v <= 2000);
            refresh();
        }

        private int[] bestOf(int v) {
            needAmount(v);
            if (best[v] == null) {
                throw new NoSuchElementException();
            }
            return best[v];
        }

        private static int sizeOf(int[] mix) {
            return mix[0] + mix[1] + mix[2] + mix[3];
        }

        private void refresh() {
            if (!stale) {
                return;
            }
            java.util.Arrays.fill(ways, 0);
            java.util.Arrays.fill(best, null);
            for (int a = 0; a <= notes[0] && a <= 40; a++) {
                for (int b = 0; b <= notes[1] && a + b <= 40; b++) {
                    for (int c = 0; c <= notes[2] && a + b + c <= 40; c++) {
                        for (int d = 0; d <= notes[3] && a + b + c + d <= 40; d++) {
                            add(a, b, c, d);
                        }
                    }
                }
            }
            stale = false;
        }

        private void add(int a, int b, int c, int d) {
            int v = a * worth[0] + b * worth[1] + c * worth[2] + d * worth[3];
            if (v > 2000) {
                return;
            }
            ways[v]++;
            int[] mix = {a, b, c, d};
            if (best[v] == null || isBetter(mix, best[v])) {
                best[v] = mix;
            }
        }

        private static boolean isBetter(int[] mix, int[] than) {
            if (sizeOf(mix) != sizeOf(than)) {
                return sizeOf(mix) < sizeOf(than);
            }
            for (int c = 3; c >= 0; c--) {
                if (mix[c] != than[c]) {
                    return mix[c] > than[c];
                }
            }
            return false;
        }
    }
}
