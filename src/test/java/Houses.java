import java.util.ArrayList;
import java.util.List;
import java.util.function.Consumer;

/** Houses for the tests, and what can be seen of one. */
final class Houses {
    static final int NO_NUMBER = -1000001;
    static final int THINGS_OF_BUSY = 5;
    static final int BASKETS_OF_BUSY = 4;

    private Houses() { }

    static BasketHouse with(int... sorts) {
        BasketHouse house = new BasketHouse();
        for (int sort : sorts) {
            house.thing(sort);
        }
        return house;
    }

    static void days(BasketHouse house, int many) {
        for (int n = 0; n < many; n++) {
            house.day();
        }
    }

    static void baskets(BasketHouse house, int p, int... sets) {
        for (int set : sets) {
            house.basket(p, set);
        }
    }

    /** As many baskets as there may be, of the persons in turn. */
    static void fill(BasketHouse house, int set) {
        for (int n = 0; n < 60; n++) {
            house.basket(n % 8, set);
        }
    }

    /** Numbers just beside first .. last and far away from it, also such as are like one of it in their low bits. */
    static int[] outside(int first, int last) {
        return new int[] {
            first - 1, first - 2, last + 1, last + 2, first - 32, last + 32, first + 64, first + 256, last + 65536,
            Integer.MIN_VALUE, Integer.MIN_VALUE + last, Integer.MAX_VALUE};
    }

    /** Something of everything: old and new things, out of stock, apart, taken, shown and tired ones. */
    static void makeBusy(BasketHouse x) {
        x.thing(0);
        x.thing(1);
        x.thing(2);
        days(x, 10);
        x.thing(3);
        x.thing(0);
        x.set(0, 1);
        x.set(1, 3);
        x.set(2, 4);
        x.set(3, 2);
        x.apart(0, 3, true);
        x.stock(2, false);
        baskets(x, 1, 3);
        x.day();
        baskets(x, 2, 9, 17);
        baskets(x, 7, 4);
        x.show(0, 1);
        x.show(0, 2);
        x.show(7, 3);
        x.show(7, 1);
        x.show(1, 1);
    }

    /** All that can be seen without changing anything, in 413 calls at most. */
    static List<String> seen(BasketHouse x) {
        List<String> all = new ArrayList<>();
        for (int what = 0; what < 9; what++) {
            all.add("look(" + what + ") = " + x.look(what));
        }
        int baskets = x.look(2);
        for (int i = 0; i < baskets; i++) {
            all.add("basket " + i + " = " + x.of(i, 0) + ", " + x.of(i, 1) + ", " + x.of(i, 2));
        }
        int things = x.look(1);
        for (int p = 0; p < 8; p++) {
            all.add("taken(" + p + ") = " + x.taken(p));
            all.add("may(" + p + ") = " + x.may(p));
            all.add("list(" + p + ", 5, 0) = " + x.list(p, 5, 0));
            all.add("showings of " + p + " = " + x.shown(p, -1, 2));
            for (int t = 0; t < things; t++) {
                all.add("shown(" + p + ", " + t + ") = " + x.shown(p, t, 0) + ", tired " + x.shown(p, t, 1));
            }
        }
        return all;
    }

    /** Two houses of one past, of which one is asked more, look alike afterwards. */
    static void nothingIsDone(Check check, Consumer<BasketHouse> past, Consumer<BasketHouse> more) {
        BasketHouse asked = new BasketHouse();
        BasketHouse quiet = new BasketHouse();
        past.accept(asked);
        past.accept(quiet);
        more.accept(asked);
        List<String> want = seen(quiet);
        List<String> got = seen(asked);
        check.due("how much there is to see", got.size(), want.size());
        for (int n = 0; n < Math.min(got.size(), want.size()); n++) {
            check.due("nothing is done: " + got.get(n) + ", not " + want.get(n), got.get(n).equals(want.get(n)), true);
        }
    }
}
