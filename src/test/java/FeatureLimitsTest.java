/** "Terms": which features are listed, and which bit of which word is told first. */
public final class FeatureLimitsTest {
    private static final int RIGHT = FieldRows.RIGHT;
    private static final int[] RIGHT_WORDS = {36, 66, 3};
    private static final int[] LISTED = {1 << 2 | 1 << 5, 1 << 1 | 1 << 2 | 1 << 6, 1 | 1 << 1};
    private static final int ALL_BITS = -1;

    public static void main(String[] args) {
        listedBits();
        theFirstBitOfAWordIsTold();
        theFirstWordIsTold();
        neededOnesMustBeSet();
        unlistedNeededOnesComeBeforeThoseThatLack();
        onlyThenComesTheThirdWord();
        whatIsBeforeAndBehind();
        Due.end();
    }

    private static FieldRows with(int compatible, int needed, int forWriting) {
        FieldRows x = new FieldRows();
        x.put(0, 92, 4, compatible);
        x.put(0, 96, 4, needed);
        x.put(0, 100, 4, forWriting);
        // What the compatible ones ask for elsewhere is there, so that only the features can be wrong.
        x.put(0, 224, 4, (compatible & 4) != 0 ? 8 : 0);
        x.put(0, 252, 1, (compatible & 32) != 0 ? 1 : 0);
        return x;
    }

    private static void fault(int compatible, int needed, int forWriting, long want) {
        FieldRows x = with(compatible, needed, forWriting);
        Due.is("fault(0) with features " + compatible + ", " + needed + ", " + forWriting, x.fault(0), want);
        Due.is("fault(1) without them", x.fault(1), RIGHT);
        Due.is("groups()", x.groups(), want == RIGHT ? 4 : FieldRows.BAD);
    }

    private static void faultOfWord(int word, int features, long want) {
        int[] words = RIGHT_WORDS.clone();
        words[word] = features;
        fault(words[0], words[1], words[2], want);
    }

    private static boolean isListed(int word, int bit) {
        return (LISTED[word] >>> bit & 1) == 1;
    }

    private static int told(int word, int bit) {
        return 2000 + 32 * word + bit;
    }

    /** "Listed features are bits 2 and 5 of the compatible ones, 1, 2 and 6 of the needed ones, 0 and 1 .." */
    private static void listedBits() {
        for (int word = 0; word < 3; word++) {
            for (int bit = 0; bit < 32; bit++) {
                faultOfWord(word, RIGHT_WORDS[word] | 1 << bit, isListed(word, bit) ? RIGHT : told(word, bit));
            }
        }
        for (int compatible : new int[] {0, 4, 32, 36}) {
            for (int needed : new int[] {66, 70}) {
                for (int forWriting = 0; forWriting < 4; forWriting++) {
                    fault(compatible, needed, forWriting, RIGHT);
                }
            }
        }
    }

    /** "the place of its first such bit" */
    private static void theFirstBitOfAWordIsTold() {
        for (int word = 0; word < 3; word++) {
            for (int low = 0; low < 32; low++) {
                for (int high = low + 1; high < 32; high++) {
                    int bits = RIGHT_WORDS[word] | 1 << low | 1 << high;
                    if (!isListed(word, low)) {
                        faultOfWord(word, bits, told(word, low));
                    } else {
                        faultOfWord(word, bits, isListed(word, high) ? RIGHT : told(word, high));
                    }
                }
            }
            faultOfWord(word, Integer.MIN_VALUE, told(word, 31));
        }
        faultOfWord(0, ALL_BITS, 2000);
        faultOfWord(1, ALL_BITS, 2032);
        faultOfWord(2, ALL_BITS, 2066);
        faultOfWord(0, Integer.MAX_VALUE, 2000);
        faultOfWord(1, Integer.MAX_VALUE, 2032);
        faultOfWord(2, Integer.MAX_VALUE, 2066);
    }

    /** "The three words (0, 1, 2) are looked at one behind the other" */
    private static void theFirstWordIsTold() {
        // The last bit of an earlier word is told before the first one of a later.
        fault(1 << 31, 1, 4, 2031);
        fault(1 << 31, 0, 4, 2031);
        fault(1 << 31, 66, ALL_BITS, 2031);
        fault(36, 1 << 31 | 66, 4, 2063);
        fault(36, 66, 1 << 31 | 3, 2095);
        fault(ALL_BITS, ALL_BITS, ALL_BITS, 2000);
        fault(36, ALL_BITS, ALL_BITS, 2032);
        fault(36, 66, ALL_BITS, 2066);
    }

    /** "whether their bits 1 and 6 are set: if not both, the fault is 96" */
    private static void neededOnesMustBeSet() {
        for (int bits = 0; bits < 8; bits++) {
            int needed = (bits & 1) << 1 | (bits >> 1 & 1) << 2 | (bits >> 2 & 1) << 6;
            boolean both = (bits & 5) == 5;
            for (int compatible : new int[] {0, 4, 32, 36}) {
                fault(compatible, needed, 3, both ? RIGHT : 96);
            }
        }
    }

    /** "each first for bits that are not listed ..; behind that of the needed ones, whether .." */
    private static void unlistedNeededOnesComeBeforeThoseThatLack() {
        for (int bit = 0; bit < 32; bit++) {
            for (int set : new int[] {0, 2, 4, 64, 66}) {
                int needed = set | 1 << bit;
                if (!isListed(1, bit)) {
                    fault(36, needed, 3, told(1, bit));
                } else {
                    fault(36, needed, 3, (needed & 66) == 66 ? RIGHT : 96);
                }
            }
        }
    }

    /** "only then comes the third word" */
    private static void onlyThenComesTheThirdWord() {
        for (int bit = 0; bit < 32; bit++) {
            fault(36, 2, 1 << bit, 96);
            fault(36, 64, 1 << bit, 96);
            fault(36, 66, 1 << bit, isListed(2, bit) ? RIGHT : told(2, bit));
        }
    }

    /** "92, 96, 100: see below" stands behind 90 and before 224. */
    private static void whatIsBeforeAndBehind() {
        int[][] wrong = {{1, 66, 3, 2000}, {36, 67, 3, 2032}, {36, 64, 3, 96}, {36, 66, 7, 2066}};
        for (int[] words : wrong) {
            FieldRows x = with(words[0], words[1], words[2]);
            x.put(0, 254, 2, 1);
            x.poke(0, 252, 2);
            x.put(0, 232, 4, ALL_BITS);
            x.put(0, 224, 4, 9);
            Due.is("fault(0), wrong from 224 on, too", x.fault(0), words[3]);
            x.put(0, 90, 2, 4);
            Due.is("fault(0), wrong at 90, too", x.fault(0), 90);
        }
    }
}
