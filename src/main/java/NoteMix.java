import java.util.Arrays;
import java.util.NoSuchElementException;

/** A box of notes in four cassettes: amounts that are made up of them, as few as may be, and paid out. */
public final class NoteMix {
    private static final int LAST_CASSETTE = 3;
    private static final int MAX_AMOUNT = 2000;
    private static final int MAX_WORTH = 500;
    private static final int MAX_NOTES = 500;
    private static final int MAX_IN_MIX = 40;
    private static final int NO_MIX = MAX_IN_MIX + 1;

    private final int[] worthOf;
    private final int[] notesIn;

    // What the last survey found. These and the row below are made once and
    // used again, so that no call makes an array.
    private final int[] bestMix;
    private int bestSize;
    private int mixCount;

    // The fewest notes that come to each amount, NO_MIX where none do.
    private final int[] fewest;

    public NoteMix() {
        worthOf = new int[] {5, 10, 20, 50};
        notesIn = new int[] {30, 30, 30, 30};
        bestMix = new int[LAST_CASSETTE + 1];
        bestSize = 0;
        mixCount = 0;
        fewest = new int[MAX_AMOUNT + 1];
    }

    public void load(int c, int worth, int notes) throws IllegalArgumentException {
        requireRange(c, 0, LAST_CASSETTE);
        requireRange(worth, 1, MAX_WORTH);
        requireRange(notes, 0, MAX_NOTES);
        worthOf[c] = worth;
        notesIn[c] = notes;
    }

    public int best(int v) throws IllegalArgumentException, NoSuchElementException {
        findBest(v);
        return bestSize;
    }

    public int part(int v, int c) throws IllegalArgumentException, NoSuchElementException {
        requireRange(c, 0, LAST_CASSETTE);
        findBest(v);
        return bestMix[c];
    }

    public int ways(int v) throws IllegalArgumentException {
        requireRange(v, 0, MAX_AMOUNT);
        survey(v);
        return mixCount;
    }

    public int pay(int v, int jam) throws IllegalArgumentException, NoSuchElementException {
        requireRange(jam, 0, MAX_IN_MIX);
        findBest(v);
        int left = jam;
        int paid = 0;
        for (int c = LAST_CASSETTE; c >= 0; c--) {
            int out = Math.min(bestMix[c], left);
            notesIn[c] -= out;
            left -= out;
            paid += out * worthOf[c];
        }
        return paid;
    }

    public int next(int v) throws IllegalArgumentException {
        requireRange(v, 0, MAX_AMOUNT);
        fillFewest();
        for (int amount = v; amount <= MAX_AMOUNT; amount++) {
            if (fewest[amount] < NO_MIX) {
                return amount;
            }
        }
        return -1;
    }

    public int reach() {
        fillFewest();
        int reached = 0;
        for (int amount = 0; amount <= MAX_AMOUNT; amount++) {
            if (fewest[amount] < NO_MIX) {
                reached++;
            }
        }
        return reached;
    }

    public int cassette(int c, boolean worth) throws IllegalArgumentException {
        requireRange(c, 0, LAST_CASSETTE);
        return worth ? worthOf[c] : notesIn[c];
    }

    public int value() {
        int sum = 0;
        for (int c = 0; c <= LAST_CASSETTE; c++) {
            sum += notesIn[c] * worthOf[c];
        }
        return sum;
    }

    private static void requireRange(int number, int least, int most) {
        if (number < least || number > most) {
            throw new IllegalArgumentException();
        }
    }

    private void findBest(int v) {
        requireRange(v, 0, MAX_AMOUNT);
        survey(v);
        if (mixCount == 0) {
            throw new NoSuchElementException();
        }
    }

    // Goes through every mix of v. Three cassettes are counted through; what
    // is then left fixes the notes of cassette 0.
    private void survey(int v) {
        mixCount = 0;
        bestSize = NO_MIX;
        int most3 = mostNotes(3, v, MAX_IN_MIX);
        for (int n3 = 0; n3 <= most3; n3++) {
            int rest3 = v - n3 * worthOf[3];
            int room3 = MAX_IN_MIX - n3;
            int most2 = mostNotes(2, rest3, room3);
            for (int n2 = 0; n2 <= most2; n2++) {
                int rest2 = rest3 - n2 * worthOf[2];
                int room2 = room3 - n2;
                int most1 = mostNotes(1, rest2, room2);
                for (int n1 = 0; n1 <= most1; n1++) {
                    int rest1 = rest2 - n1 * worthOf[1];
                    int n0 = mostNotes(0, rest1, room2 - n1);
                    if (n0 * worthOf[0] == rest1) {
                        keepMix(n0, n1, n2, n3);
                    }
                }
            }
        }
    }

    // No worth is below 1: the constructor and load see to that. Here it
    // divides, so it is looked at here too.
    private int mostNotes(int c, int amount, int room) {
        int worth = Math.max(worthOf[c], 1);
        return Math.min(Math.min(notesIn[c], room), amount / worth);
    }

    // The survey counts upwards, so of equally short mixes the later one has
    // more of cassette 3, then of 2, then of 1: it takes the earlier's place.
    private void keepMix(int n0, int n1, int n2, int n3) {
        mixCount++;
        int size = n0 + n1 + n2 + n3;
        if (size <= bestSize) {
            bestSize = size;
            bestMix[0] = n0;
            bestMix[1] = n1;
            bestMix[2] = n2;
            bestMix[3] = n3;
        }
    }

    // An amount has a mix if its fewest notes are no more than a mix may have.
    private void fillFewest() {
        Arrays.fill(fewest, NO_MIX);
        fewest[0] = 0;
        for (int c = 0; c <= LAST_CASSETTE; c++) {
            addCassette(c);
        }
    }

    // Bundles of 1, 2, 4 .. notes and the remainder, each taken or not, make
    // every number of notes up to their sum with far fewer passes than notes.
    private void addCassette(int c) {
        int left = Math.min(notesIn[c], MAX_IN_MIX);
        for (int size = 1; size <= MAX_IN_MIX && left > 0; size *= 2) {
            int bundle = Math.min(size, left);
            addBundle(bundle, bundle * worthOf[c]);
            left -= bundle;
        }
    }

    // Downwards, so that the bundle is not taken twice.
    private void addBundle(int size, int amount) {
        for (int v = MAX_AMOUNT; v >= amount; v--) {
            fewest[v] = Math.min(fewest[v], fewest[v - amount] + size);
        }
    }
}
