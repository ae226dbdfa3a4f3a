/**
 * A shop's house that puts up things by who took what.
 *
 * A set of things is an int in which thing x counts 2 to the x. All rows are made with the object and
 * used again, so that no call makes an object of its own.
 */
public final class BasketHouse {
    public static final int NONE = -1;

    // Where -1 could be a true answer (a kin, a score), this number says that there is none.
    private static final int NO_NUMBER = NONE - 1000000;

    private static final int MOST_THINGS = 12;
    private static final int SORTS = 4;
    private static final int PERSONS = 8;
    private static final int MOST_BASKETS = 60;
    private static final int LONGEST_LIST = 5;

    private static final int LAST_DAY = 9999;
    private static final int NEW_DAYS = 10;
    private static final int BASKET_DAYS = 28;
    private static final int TIRED_DAYS = 7;

    private static final int GROUP = 0;
    private static final int SPREAD = 1;
    private static final int SHARE = 2;
    private static final int LIMIT = 3;
    private static final int SETTINGS = 4;
    private static final int[] FIRST_SETTINGS = {2, 2, 3, 3};
    private static final int[] GREATEST_SETTINGS = {4, 5, 9, 9};

    private int today;
    private final int[] settings;

    private int things;
    private int stocked;
    private final int[] cameOn;
    private final int[] sortSets;
    private final int[] foes;

    private int baskets;
    private final int[] owners;
    private final int[] boughtOn;
    private final int[] contents;

    private final int[] showings;
    private final int[][] timesShown;
    private final int[][] tiredUntil;

    // One number for each thing, written anew by each call that ranks things.
    private final int[] points;

    public BasketHouse() {
        settings = FIRST_SETTINGS.clone();
        cameOn = new int[MOST_THINGS];
        sortSets = new int[SORTS];
        foes = new int[MOST_THINGS];
        owners = new int[MOST_BASKETS];
        boughtOn = new int[MOST_BASKETS];
        contents = new int[MOST_BASKETS];
        showings = new int[PERSONS];
        timesShown = new int[PERSONS][MOST_THINGS];
        tiredUntil = new int[PERSONS][MOST_THINGS];
        points = new int[MOST_THINGS];
    }

    public int thing(int sort) {
        if (sort < 0 || sort >= SORTS || things >= MOST_THINGS) {
            return NONE;
        }
        int x = things;
        things++;
        cameOn[x] = today;
        sortSets[sort] |= 1 << x;
        stocked |= 1 << x;
        return x;
    }

    public boolean stock(int x, boolean is) {
        if (!isThing(x) || has(stocked, x) == is) {
            return false;
        }
        stocked ^= 1 << x;
        return true;
    }

    public boolean set(int what, int v) {
        if (what < 0 || what >= SETTINGS || v < 1 || v > GREATEST_SETTINGS[what]) {
            return false;
        }
        settings[what] = v;
        return true;
    }

    public boolean apart(int a, int b, boolean is) {
        if (!areTwoThings(a, b) || has(foes[a], b) == is) {
            return false;
        }
        foes[a] ^= 1 << b;
        foes[b] ^= 1 << a;
        return true;
    }

    public int basket(int p, int set) {
        if (!isPerson(p) || !isSetOfThings(set) || set == 0 || baskets >= MOST_BASKETS) {
            return NONE;
        }
        int i = baskets;
        baskets++;
        owners[i] = p;
        boughtOn[i] = today;
        contents[i] = set;
        clearShown(p, set);
        return i;
    }

    public boolean drop(int i) {
        if (!isBasket(i)) {
            return false;
        }
        removeBasket(i);
        return true;
    }

    public int forget(int p) {
        if (!isPerson(p)) {
            return NONE;
        }
        int before = baskets;
        // From the last to the first: a basket that goes renumbers only those behind it.
        for (int i = before - 1; i >= 0; i--) {
            if (owners[i] == p) {
                removeBasket(i);
            }
        }
        showings[p] = 0;
        clearShown(p, allThings());
        return before - baskets;
    }

    public int day() {
        if (today >= LAST_DAY) {
            return NONE;
        }
        today++;
        removeOldBaskets();
        return today;
    }

    public int look(int what) {
        switch (what) {
            case 0:
                return today;
            case 1:
                return things;
            case 2:
                return baskets;
            case 3:
                return settings[GROUP];
            case 4:
                return settings[SPREAD];
            case 5:
                return settings[SHARE];
            case 6:
                return settings[LIMIT];
            case 7:
                return stocked;
            case 8:
                return newThings();
            default:
                return NONE;
        }
    }

    public int of(int i, int what) {
        if (!isBasket(i)) {
            return NONE;
        }
        switch (what) {
            case 0:
                return owners[i];
            case 1:
                return boughtOn[i];
            case 2:
                return contents[i];
            default:
                return NONE;
        }
    }

    public int count(int a, int b, int what) {
        if (!isThing(a) || !isThing(b)) {
            return NONE;
        }
        switch (what) {
            case 0:
                return basketsWith(a, b);
            case 1:
                return peopleWith(a, b);
            default:
                return NONE;
        }
    }

    public int kin(int a, int b) {
        return areTwoThings(a, b) ? kinOf(a, b) : NO_NUMBER;
    }

    public int near(int a, int i) {
        if (!isThing(a) || i < 0 || i >= things - 1) {
            return NONE;
        }
        int others = allThings() & ~(1 << a);
        writeKin(a, others);
        int left = others;
        int nearest = bestByPoints(left);
        for (int n = 0; n < i; n++) {
            left &= ~(1 << nearest);
            nearest = bestByPoints(left);
        }
        return nearest;
    }

    public int taken(int p) {
        return isPerson(p) ? takenBy(p) : NONE;
    }

    public int score(int p, int x) {
        return isPerson(p) && isThing(x) ? scoreOf(takenBy(p), x) : NO_NUMBER;
    }

    public int may(int p) {
        return isPerson(p) ? mayPutUp(p) : NONE;
    }

    public int list(int p, int k, int what) {
        if (!canList(p, k) || what < 0 || what > 1) {
            return NO_NUMBER;
        }
        int best = bestList(p, k);
        return what == 0 ? best : sumOfPoints(best);
    }

    public int show(int p, int k) {
        if (!canList(p, k)) {
            return NONE;
        }
        int best = bestList(p, k);
        showings[p]++;
        for (int x = 0; x < things; x++) {
            if (has(best, x)) {
                showOnce(p, x);
            }
        }
        return best;
    }

    public int shown(int p, int x, int what) {
        if (!isPerson(p)) {
            return NONE;
        }
        if (what == 2) {
            return x == -1 ? showings[p] : NONE;
        }
        if (!isThing(x)) {
            return NONE;
        }
        switch (what) {
            case 0:
                return timesShown[p][x];
            case 1:
                return daysTired(p, x);
            default:
                return NONE;
        }
    }

    public int why(int p, int x, int what) {
        if (!isPerson(p) || !isThing(x)) {
            return NO_NUMBER;
        }
        int others = takenBy(p) & ~(1 << x);
        if (others == 0) {
            return NO_NUMBER;
        }
        writeKin(x, others);
        int reason = bestByPoints(others);
        switch (what) {
            case 0:
                return reason;
            case 1:
                return kinOf(x, reason);
            case 2:
                return basketsWith(x, reason);
            default:
                return NO_NUMBER;
        }
    }

    private boolean isThing(int x) {
        return x >= 0 && x < things;
    }

    private boolean areTwoThings(int a, int b) {
        return isThing(a) && isThing(b) && a != b;
    }

    private boolean isSetOfThings(int set) {
        return (set & ~allThings()) == 0;
    }

    private boolean isBasket(int i) {
        return i >= 0 && i < baskets;
    }

    private boolean canList(int p, int k) {
        return isPerson(p) && k >= 1 && k <= LONGEST_LIST;
    }

    private static boolean isPerson(int p) {
        return p >= 0 && p < PERSONS;
    }

    private static boolean has(int set, int x) {
        return (set >> x & 1) == 1;
    }

    private int allThings() {
        return (1 << things) - 1;
    }

    private int newThings() {
        int fresh = 0;
        for (int x = 0; x < things; x++) {
            if (today - cameOn[x] < NEW_DAYS) {
                fresh |= 1 << x;
            }
        }
        return fresh;
    }

    private void removeBasket(int i) {
        baskets--;
        for (int n = i; n < baskets; n++) {
            owners[n] = owners[n + 1];
            boughtOn[n] = boughtOn[n + 1];
            contents[n] = contents[n + 1];
        }
    }

    private void removeOldBaskets() {
        for (int i = baskets - 1; i >= 0; i--) {
            if (today - boughtOn[i] >= BASKET_DAYS) {
                removeBasket(i);
            }
        }
    }

    private int basketsWith(int a, int b) {
        int pair = 1 << a | 1 << b;
        int found = 0;
        for (int i = 0; i < baskets; i++) {
            if ((contents[i] & pair) == pair) {
                found++;
            }
        }
        return found;
    }

    private int peopleWith(int a, int b) {
        int pair = 1 << a | 1 << b;
        int persons = 0;
        for (int i = 0; i < baskets; i++) {
            if ((contents[i] & pair) == pair) {
                persons |= 1 << owners[i];
            }
        }
        return Integer.bitCount(persons);
    }

    private int kinOf(int a, int b) {
        if (peopleWith(a, b) < settings[GROUP]) {
            return 0;
        }
        int byChance = basketsWith(a, a) * basketsWith(b, b);
        if (byChance == 0) {
            return 0;
        }
        return 1000 * basketsWith(a, b) * baskets / byChance - 1000;
    }

    private int takenBy(int p) {
        int all = 0;
        for (int i = 0; i < baskets; i++) {
            if (owners[i] == p) {
                all |= contents[i];
            }
        }
        return all;
    }

    private int scoreOf(int takenSet, int x) {
        int sum = 0;
        for (int t = 0; t < things; t++) {
            if (t != x && has(takenSet, t)) {
                sum += kinOf(x, t);
            }
        }
        return sum;
    }

    private void writeKin(int a, int others) {
        for (int x = 0; x < things; x++) {
            if (has(others, x)) {
                points[x] = kinOf(a, x);
            }
        }
    }

    private void writeScores(int p, int candidates) {
        int takenSet = takenBy(p);
        for (int x = 0; x < things; x++) {
            if (has(candidates, x)) {
                points[x] = scoreOf(takenSet, x);
            }
        }
    }

    // The least thing with the most points; of an empty set it is thing 0, which no caller asks for.
    private int bestByPoints(int set) {
        int best = 0;
        boolean found = false;
        for (int x = 0; x < things; x++) {
            if (has(set, x) && (!found || points[x] > points[best])) {
                best = x;
                found = true;
            }
        }
        return best;
    }

    private int sumOfPoints(int set) {
        int sum = 0;
        for (int x = 0; x < things; x++) {
            if (has(set, x)) {
                sum += points[x];
            }
        }
        return sum;
    }

    private int mayPutUp(int p) {
        int rested = stocked & ~takenBy(p);
        for (int x = 0; x < things; x++) {
            if (daysTired(p, x) > 0) {
                rested &= ~(1 << x);
            }
        }
        return rested;
    }

    private boolean isTurnOfNew(int p) {
        int share = settings[SHARE];
        return share > 0 && (showings[p] + 1) % share == 0;
    }

    private boolean keepsRules(int set) {
        for (int sort = 0; sort < SORTS; sort++) {
            if (Integer.bitCount(set & sortSets[sort]) > settings[SPREAD]) {
                return false;
            }
        }
        for (int x = 0; x < things; x++) {
            if (has(set, x) && (set & foes[x]) != 0) {
                return false;
            }
        }
        return true;
    }

    // Leaves the scores of all candidates in the points, so that the caller can sum up the answer.
    private int bestList(int p, int k) {
        int candidates = mayPutUp(p);
        int wanted = isTurnOfNew(p) ? candidates & newThings() : 0;
        writeScores(p, candidates);
        int best = 0;
        int bestSize = 0;
        int bestSum = 0;
        int set = 0;
        int subsets = 1 << Integer.bitCount(candidates);
        for (int n = 1; n < subsets; n++) {
            // This step goes to the next greater subset, so of equal sets the least comes first and stays.
            set = (set - candidates) & candidates;
            int size = Integer.bitCount(set);
            boolean fits = size <= k && size >= bestSize && (wanted == 0 || (set & wanted) != 0);
            if (fits && keepsRules(set)) {
                int sum = sumOfPoints(set);
                if (size > bestSize || sum > bestSum) {
                    best = set;
                    bestSize = size;
                    bestSum = sum;
                }
            }
        }
        return best;
    }

    private int daysTired(int p, int x) {
        return Math.max(0, tiredUntil[p][x] - today);
    }

    private void showOnce(int p, int x) {
        timesShown[p][x]++;
        // Not only when equal: the limit may have been set below what was counted before.
        if (timesShown[p][x] >= settings[LIMIT]) {
            timesShown[p][x] = 0;
            tiredUntil[p][x] = today + TIRED_DAYS;
        }
    }

    private void clearShown(int p, int set) {
        for (int x = 0; x < things; x++) {
            if (has(set, x)) {
                timesShown[p][x] = 0;
                tiredUntil[p][x] = 0;
            }
        }
    }
}
