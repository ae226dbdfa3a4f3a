/** One test or more for each promise of the document: ordinary inputs, the edges it names, wrong inputs. */
public final class PromisesTest {
    private static final int NO_NUMBER = Houses.NO_NUMBER;
    private static final int LEAST = Integer.MIN_VALUE;
    private static final int GREATEST = Integer.MAX_VALUE;
    private static final int[] NO_PERSONS = {-1, 8, LEAST, GREATEST};

    private static final Check check = new Check("PromisesTest");

    public static void main(String[] args) {
        newObject();
        thing();
        stock();
        set();
        apart();
        basket();
        basketsFull();
        drop();
        dropAmongDays();
        forget();
        forgetInFullHouse();
        day();
        lastDay();
        look();
        of();
        count();
        kin();
        kinOfSmallGroups();
        near();
        nearThingZero();
        taken();
        score();
        may();
        listBySizeSumAndNumber();
        listOfThingZero();
        listKeepsRules();
        listWithShareOfNew();
        listOfWrongInputs();
        show();
        shown();
        shownAndLimit();
        shownAndBaskets();
        why();
        check.finish();
    }

    // Promise 1
    private static void newObject() {
        BasketHouse x = new BasketHouse();
        check.due("NONE", BasketHouse.NONE, -1);
        int[] first = {0, 0, 0, 2, 2, 3, 3, 0, 0};
        for (int what = 0; what < first.length; what++) {
            check.due("new look(" + what + ")", x.look(what), first[what]);
        }
        check.due("new near", x.near(0, 0), -1);
        check.due("new of", x.of(0, 0), -1);
        for (int p = 0; p < 8; p++) {
            check.due("new taken", x.taken(p), 0);
            check.due("new may", x.may(p), 0);
            check.due("new list", x.list(p, 1, 0), 0);
            check.due("new list sum", x.list(p, 5, 1), 0);
            check.due("new showings", x.shown(p, -1, 2), 0);
        }
    }

    // Promise 2
    private static void thing() {
        BasketHouse x = new BasketHouse();
        for (int sort : new int[] {-1, 4, LEAST, GREATEST}) {
            check.due("thing of sort " + sort, x.thing(sort), -1);
        }
        check.due("things after wrong sorts", x.look(1), 0);
        for (int n = 0; n < 12; n++) {
            check.due("thing " + n, x.thing(n % 4), n);
            check.due("things", x.look(1), n + 1);
            check.due("in stock at first", x.look(7), (1 << n + 1) - 1);
        }
        check.due("thing 12", x.thing(0), -1);
        check.due("things at most", x.look(1), 12);
        check.due("stock at most", x.look(7), 4095);
        check.due("new at most", x.look(8), 4095);
    }

    // Promise 3
    private static void stock() {
        BasketHouse x = Houses.with(0, 1);
        check.due("stock, it was in", x.stock(0, true), false);
        check.due("stock out", x.stock(0, false), true);
        check.due("stock, it was out", x.stock(0, false), false);
        check.due("the stock", x.look(7), 2);
        check.due("stock in again", x.stock(0, true), true);
        check.due("the stock again", x.look(7), 3);
        for (int none : new int[] {-1, 2, 11, 12, 32, LEAST, GREATEST}) {
            check.due("stock of none in", x.stock(none, true), false);
            check.due("stock of none out", x.stock(none, false), false);
        }
        check.due("the stock untouched", x.look(7), 3);
    }

    // Promise 4
    private static void set() {
        BasketHouse x = new BasketHouse();
        int[] most = {4, 5, 9, 9};
        for (int what = 0; what < 4; what++) {
            check.due("set " + what + " to the most", x.set(what, most[what]), true);
            check.due("look at the most", x.look(3 + what), most[what]);
            check.due("set the same", x.set(what, most[what]), true);
            for (int v : new int[] {0, -1, most[what] + 1, LEAST, GREATEST}) {
                check.due("set " + what + " to " + v, x.set(what, v), false);
                check.due("look after a wrong set", x.look(3 + what), most[what]);
            }
            check.due("set " + what + " to 1", x.set(what, 1), true);
            check.due("look at 1", x.look(3 + what), 1);
        }
        for (int what : new int[] {-1, 4, LEAST, GREATEST}) {
            check.due("set of what " + what, x.set(what, 2), false);
        }
        for (int what = 3; what < 7; what++) {
            check.due("look after wrong whats", x.look(what), 1);
        }
    }

    // Promise 5
    private static void apart() {
        BasketHouse x = Houses.with(0, 1, 2);
        check.due("apart, it was not", x.apart(0, 1, false), false);
        check.due("apart", x.apart(0, 1, true), true);
        check.due("apart, it was so", x.apart(0, 1, true), false);
        check.due("apart turned, it was so", x.apart(1, 0, true), false);
        check.due("the pair does not stand together", x.list(0, 3, 0), 5);
        check.due("together again, turned", x.apart(1, 0, false), true);
        check.due("together, it was so", x.apart(0, 1, false), false);
        check.due("all stand together", x.list(0, 3, 0), 7);
        check.due("apart of the same", x.apart(2, 2, true), false);
        check.due("together of the same", x.apart(2, 2, false), false);
        for (int none : new int[] {-1, 3, 12, LEAST, GREATEST}) {
            check.due("apart of none and 0", x.apart(none, 0, true), false);
            check.due("apart of 0 and none", x.apart(0, none, true), false);
        }
        check.due("nothing was done", x.list(0, 3, 0), 7);
    }

    // Promise 6
    private static void basket() {
        BasketHouse x = Houses.with(0, 1, 2);
        check.due("basket", x.basket(7, 5), 0);
        check.due("basket of the same", x.basket(7, 5), 1);
        x.stock(1, false);
        check.due("basket of a thing that is out of stock", x.basket(0, 2), 2);
        for (int p : NO_PERSONS) {
            check.due("basket of person " + p, x.basket(p, 1), -1);
        }
        for (int none : new int[] {0, 8, 9, 4096, -1, LEAST, GREATEST}) {
            check.due("basket of set " + none, x.basket(0, none), -1);
        }
        check.due("all baskets", x.look(2), 3);
        check.due("taken by 7", x.taken(7), 5);
        check.due("taken by 0", x.taken(0), 2);
    }

    private static void basketsFull() {
        BasketHouse x = Houses.with(0, 1);
        for (int n = 0; n < 60; n++) {
            check.due("basket " + n, x.basket(n % 8, 1), n);
        }
        x.show(1, 1);
        check.due("shown before", x.shown(1, 1, 0), 1);
        check.due("basket 60", x.basket(1, 2), -1);
        check.due("shown after a refused basket", x.shown(1, 1, 0), 1);
        check.due("all at most", x.look(2), 60);
        check.due("the last", x.of(59, 0), 3);
        x.drop(0);
        check.due("room again", x.basket(1, 2), 59);
    }

    // Promise 7
    private static void drop() {
        BasketHouse x = Houses.with(0, 1, 2, 3);
        check.due("drop of none", x.drop(0), false);
        Houses.baskets(x, 3, 1, 2, 4, 8);
        for (int none : new int[] {-1, 4, 60, LEAST, GREATEST}) {
            check.due("drop " + none, x.drop(none), false);
        }
        check.due("all", x.look(2), 4);
        check.due("drop 1", x.drop(1), true);
        check.due("all less one", x.look(2), 3);
        check.due("before it", x.of(0, 2), 1);
        check.due("behind it", x.of(1, 2), 4);
        check.due("the last", x.of(2, 2), 8);
        check.due("no more", x.of(3, 2), -1);
        check.due("taken", x.taken(3), 13);
        check.due("drop the last", x.drop(2), true);
        check.due("taken", x.taken(3), 5);
        check.due("drop behind the last", x.drop(2), false);
    }

    private static void dropAmongDays() {
        BasketHouse x = Houses.with(0, 1);
        Houses.baskets(x, 0, 3);
        x.day();
        Houses.baskets(x, 1, 3);
        x.day();
        Houses.baskets(x, 2, 3);
        x.drop(0);
        check.due("day of 0", x.of(0, 1), 1);
        check.due("day of 1", x.of(1, 1), 2);
        check.due("both", x.count(0, 1, 0), 2);
        check.due("people", x.count(0, 1, 1), 2);
        x.drop(1);
        check.due("both less the last", x.count(0, 1, 0), 1);
        check.due("people less the last", x.count(0, 1, 1), 1);
        check.due("nothing taken by 2", x.taken(2), 0);
        Houses.days(x, 26);
        check.due("it stays up to its last day", x.look(2), 1);
        x.day();
        check.due("it is too old", x.look(2), 0);
        check.due("both of none", x.count(0, 1, 0), 0);
    }

    // Promise 8
    private static void forget() {
        BasketHouse x = Houses.with(0, 1, 2, 3);
        x.set(3, 2);
        Houses.baskets(x, 1, 1);
        Houses.baskets(x, 2, 1);
        Houses.baskets(x, 1, 2, 2);
        Houses.baskets(x, 3, 4);
        x.show(1, 1);
        x.show(1, 1);
        x.show(1, 2);
        x.show(2, 1);
        check.due("shown before", x.shown(1, 3, 0), 1);
        check.due("tired before", x.shown(1, 2, 1), 7);
        check.due("showings before", x.shown(1, -1, 2), 3);
        check.due("forget 1", x.forget(1), 3);
        check.due("all", x.look(2), 2);
        check.due("first left", x.of(0, 0), 2);
        check.due("second left", x.of(1, 0), 3);
        check.due("taken by 1", x.taken(1), 0);
        check.due("shown as at first", x.shown(1, 3, 0), 0);
        check.due("not tired as at first", x.shown(1, 2, 1), 0);
        check.due("may as at first", x.may(1), 15);
        check.due("showings as at first", x.shown(1, -1, 2), 0);
        check.due("shown of another", x.shown(2, 1, 0), 1);
        check.due("showings of another", x.shown(2, -1, 2), 1);
        check.due("forget again", x.forget(1), 0);
        for (int p : NO_PERSONS) {
            check.due("forget " + p, x.forget(p), -1);
        }
        check.due("all untouched", x.look(2), 2);
    }

    private static void forgetInFullHouse() {
        BasketHouse x = Houses.with(0, 1);
        for (int n = 0; n < 60; n++) {
            x.basket(n < 30 ? 0 : 1, 3);
        }
        check.due("both", x.count(0, 1, 0), 60);
        check.due("forget the later half", x.forget(1), 30);
        check.due("both of half", x.count(0, 1, 0), 30);
        check.due("forget it again", x.forget(1), 0);
        check.due("all", x.look(2), 30);
        check.due("forget the other half", x.forget(0), 30);
        check.due("none is left", x.look(2), 0);
        check.due("a new one is the first", x.basket(1, 1), 0);
    }

    // Promise 9
    private static void day() {
        BasketHouse x = Houses.with(0, 1);
        Houses.baskets(x, 0, 1);
        check.due("day", x.day(), 1);
        Houses.baskets(x, 1, 2);
        Houses.days(x, 26);
        check.due("all on day 27", x.look(2), 2);
        check.due("taken on day 27", x.taken(0), 1);
        check.due("day 28", x.day(), 28);
        check.due("the first is too old", x.look(2), 1);
        check.due("the second is the first now", x.of(0, 0), 1);
        check.due("taken on day 28", x.taken(0), 0);
        check.due("day 29", x.day(), 29);
        check.due("none is left", x.look(2), 0);
    }

    // More calls than the document promises for one object; the last day can't be reached otherwise.
    private static void lastDay() {
        BasketHouse x = Houses.with(0);
        Houses.days(x, 9998);
        Houses.baskets(x, 0, 1);
        check.due("the last day", x.day(), 9999);
        x.set(3, 1);
        check.due("show on the last day", x.show(1, 1), 1);
        check.due("behind the last day", x.day(), -1);
        check.due("still the last day", x.look(0), 9999);
        check.due("tired still", x.shown(1, 0, 1), 7);
        check.due("the basket stays", x.look(2), 1);
    }

    // Promise 10
    private static void look() {
        BasketHouse x = Houses.with(0, 1);
        Houses.days(x, 4);
        x.thing(2);
        x.stock(0, false);
        Houses.baskets(x, 5, 3, 1);
        x.set(0, 3);
        x.set(1, 4);
        x.set(2, 5);
        x.set(3, 6);
        int[] want = {4, 3, 2, 3, 4, 5, 6, 6, 7};
        for (int what = 0; what < want.length; what++) {
            check.due("look " + what, x.look(what), want[what]);
        }
        for (int what : new int[] {-1, 9, LEAST, GREATEST}) {
            check.due("look " + what, x.look(what), -1);
        }
        Houses.days(x, 5);
        check.due("new on the tenth day", x.look(8), 7);
        x.day();
        check.due("new on the eleventh day", x.look(8), 4);
        Houses.days(x, 3);
        check.due("the later one on its tenth day", x.look(8), 4);
        x.day();
        check.due("none is new", x.look(8), 0);
    }

    // Promise 11
    private static void of() {
        BasketHouse x = Houses.with(0, 1, 2);
        Houses.baskets(x, 6, 5);
        Houses.days(x, 2);
        Houses.baskets(x, 4, 2);
        check.due("person", x.of(0, 0), 6);
        check.due("day", x.of(0, 1), 0);
        check.due("set", x.of(0, 2), 5);
        check.due("person of 1", x.of(1, 0), 4);
        check.due("day of 1", x.of(1, 1), 2);
        check.due("set of 1", x.of(1, 2), 2);
        for (int none : new int[] {-1, 3, LEAST, GREATEST}) {
            check.due("of what " + none, x.of(0, none), -1);
        }
        for (int none : new int[] {-1, 2, 60, LEAST, GREATEST}) {
            check.due("of basket " + none, x.of(none, 0), -1);
        }
    }

    // Promise 12
    private static void count() {
        BasketHouse x = Houses.with(0, 1, 2);
        Houses.baskets(x, 0, 3, 3, 1);
        Houses.baskets(x, 1, 3, 2, 5);
        check.due("both 0 1", x.count(0, 1, 0), 3);
        check.due("both 1 0", x.count(1, 0, 0), 3);
        check.due("people 0 1", x.count(0, 1, 1), 2);
        check.due("both 0 2", x.count(0, 2, 0), 1);
        check.due("people 0 2", x.count(0, 2, 1), 1);
        check.due("both 1 2", x.count(1, 2, 0), 0);
        check.due("people 1 2, in two baskets of one", x.count(1, 2, 1), 0);
        check.due("have 0", x.count(0, 0, 0), 5);
        check.due("have 1", x.count(1, 1, 0), 4);
        check.due("people with 0", x.count(0, 0, 1), 2);
        check.due("people with 2", x.count(2, 2, 1), 1);
        for (int none : new int[] {-1, 3, 12, LEAST, GREATEST}) {
            check.due("count none 0", x.count(none, 0, 0), -1);
            check.due("count 0 none", x.count(0, none, 1), -1);
        }
        for (int what : new int[] {-1, 2, LEAST, GREATEST}) {
            check.due("count what " + what, x.count(0, 1, what), -1);
        }
    }

    // Promise 13
    private static void kin() {
        BasketHouse x = Houses.with(0, 1, 2, 3);
        Houses.baskets(x, 0, 3, 3, 1, 4);
        Houses.baskets(x, 1, 3, 2, 4);
        check.due("1000 * 3 * 7 / (4 * 4) - 1000", x.kin(0, 1), 312);
        check.due("turned", x.kin(1, 0), 312);
        check.due("never together", x.kin(0, 2), 0);
        check.due("one is in no basket", x.kin(0, 3), 0);
        Houses.baskets(x, 2, 1, 1, 1, 1, 2, 2, 2, 2, 2);
        check.due("1000 * 3 * 16 / (8 * 9) - 1000", x.kin(0, 1), -334);
        check.due("the same", x.kin(2, 2), NO_NUMBER);
        for (int none : new int[] {-1, 4, 12, LEAST, GREATEST}) {
            check.due("kin none 0", x.kin(none, 0), NO_NUMBER);
            check.due("kin 0 none", x.kin(0, none), NO_NUMBER);
        }
    }

    private static void kinOfSmallGroups() {
        BasketHouse x = Houses.with(0, 1, 2);
        Houses.baskets(x, 0, 3, 3, 3, 4);
        check.due("one person only", x.kin(0, 1), 0);
        x.set(0, 1);
        check.due("one is enough", x.kin(0, 1), 333);
        x.set(0, 4);
        Houses.baskets(x, 1, 3);
        Houses.baskets(x, 2, 3);
        check.due("three are too few", x.kin(0, 1), 0);
        Houses.baskets(x, 3, 3);
        check.due("four are enough", x.kin(0, 1), 166);
    }

    // Promise 14
    private static void near() {
        BasketHouse x = Houses.with(0, 1, 2, 3, 0);
        x.set(0, 1);
        Houses.baskets(x, 0, 1 + 8, 1 + 2, 2, 2, 2, 2);
        // Kin to 0: of 1 it is -400, of 2 and 4 it is 0, of 3 it is 2000.
        check.due("kin 0 1", x.kin(0, 1), -400);
        check.due("kin 0 3", x.kin(0, 3), 2000);
        int[] want = {3, 2, 4, 1, -1};
        for (int i = 0; i < want.length; i++) {
            check.due("near 0 " + i, x.near(0, i), want[i]);
        }
        check.due("near 3 0", x.near(3, 0), 0);
        check.due("near 3 1", x.near(3, 1), 1);
        check.due("near 4 0", x.near(4, 0), 0);
        for (int none : new int[] {-1, 5, 11, LEAST, GREATEST}) {
            check.due("near 0 " + none, x.near(0, none), -1);
            check.due("near " + none + " 0", x.near(none, 0), -1);
        }
        check.due("near of the only thing", Houses.with(0).near(0, 0), -1);
    }

    private static void nearThingZero() {
        BasketHouse x = Houses.with(0, 1, 2);
        x.set(0, 1);
        Houses.baskets(x, 0, 1 + 4, 1, 1, 4);
        check.due("kin 2 0", x.kin(2, 0), -334);
        check.due("0 is not the nearest", x.near(2, 0), 1);
        check.due("0 is the last", x.near(2, 1), 0);
    }

    // Promise 15
    private static void taken() {
        BasketHouse x = Houses.with(0, 1, 2, 3);
        Houses.baskets(x, 0, 1, 4, 5);
        Houses.baskets(x, 7, 8);
        check.due("taken by 0", x.taken(0), 5);
        check.due("taken by 7", x.taken(7), 8);
        check.due("taken by 1", x.taken(1), 0);
        for (int p : NO_PERSONS) {
            check.due("taken by " + p, x.taken(p), -1);
        }
    }

    // Promise 16
    private static void score() {
        BasketHouse x = Houses.with(0, 1, 2, 3);
        x.set(0, 1);
        Houses.baskets(x, 0, 1 + 2);
        Houses.baskets(x, 1, 1 + 4, 2 + 4, 2 + 4, 8);
        check.due("kin 2 0", x.kin(2, 0), -167);
        check.due("kin 2 1", x.kin(2, 1), 111);
        check.due("sum", x.score(0, 2), -56);
        check.due("of a taken one the others", x.score(0, 0), x.kin(0, 1));
        check.due("no kin", x.score(0, 3), 0);
        check.due("nothing taken", x.score(2, 0), 0);
        for (int p : NO_PERSONS) {
            check.due("score of person " + p, x.score(p, 0), NO_NUMBER);
        }
        for (int none : new int[] {-1, 4, 12, LEAST, GREATEST}) {
            check.due("score of thing " + none, x.score(0, none), NO_NUMBER);
        }
    }

    // Promise 17
    private static void may() {
        BasketHouse x = Houses.with(0, 1, 2, 3);
        check.due("all", x.may(0), 15);
        x.stock(1, false);
        check.due("not what is out of stock", x.may(0), 13);
        Houses.baskets(x, 0, 4);
        check.due("not what is taken", x.may(0), 9);
        x.set(3, 1);
        check.due("show", x.show(0, 1), 1);
        check.due("not what is tired", x.may(0), 8);
        check.due("of another", x.may(1), 13);
        x.drop(0);
        check.due("what was taken back", x.may(0), 12);
        Houses.days(x, 7);
        check.due("what is tired no more", x.may(0), 13);
        for (int p : NO_PERSONS) {
            check.due("may of person " + p, x.may(p), -1);
        }
    }

    // Promise 18
    private static void listBySizeSumAndNumber() {
        BasketHouse x = Houses.with(0, 1, 2, 3, 0);
        x.set(0, 1);
        Houses.baskets(x, 0, 1);
        Houses.baskets(x, 1, 1 + 16, 1 + 2, 2, 2, 2, 2);
        // Scores for person 0: of 1 it is -534, of 2 and 3 it is 0, of 4 it is 1333.
        check.due("score 1", x.score(0, 1), -534);
        check.due("score 4", x.score(0, 4), 1333);
        int[] sets = {16, 16 + 4, 16 + 4 + 8, 2 + 4 + 8 + 16, 2 + 4 + 8 + 16};
        int[] sums = {1333, 1333, 1333, 799, 799};
        for (int k = 1; k <= 5; k++) {
            check.due("list of " + k, x.list(0, k, 0), sets[k - 1]);
            check.due("sum of " + k, x.list(0, k, 1), sums[k - 1]);
        }
        x.stock(4, false);
        x.stock(3, false);
        x.stock(2, false);
        check.due("a thing below chance, too", x.list(0, 1, 0), 2);
        check.due("a sum below 0", x.list(0, 1, 1), -534);
        x.stock(1, false);
        check.due("an empty list", x.list(0, 5, 0), 0);
        check.due("an empty sum", x.list(0, 5, 1), 0);
        BasketHouse y = Houses.with(0, 1, 2, 3, 0, 1, 2, 3, 0, 1, 2, 3);
        check.due("at most five", y.list(0, 5, 0), 31);
        check.due("showings are not counted by list", y.shown(0, -1, 2), 0);
        check.due("shown is not counted by list", y.shown(0, 0, 0), 0);
    }

    private static void listOfThingZero() {
        BasketHouse x = Houses.with(0, 1, 2);
        x.set(0, 1);
        Houses.baskets(x, 0, 4);
        Houses.baskets(x, 1, 1 + 4, 1, 1);
        check.due("score 0", x.score(0, 0), -334);
        check.due("0 is below 1", x.list(0, 1, 0), 2);
        check.due("both", x.list(0, 2, 0), 3);
        check.due("the sum with 0", x.list(0, 2, 1), -334);
    }

    private static void listKeepsRules() {
        BasketHouse x = Houses.with(0, 0, 0, 0, 0, 1);
        check.due("two of a sort at first", x.list(0, 5, 0), 3 + 32);
        x.set(1, 1);
        check.due("one of a sort", x.list(0, 5, 0), 1 + 32);
        x.set(1, 5);
        check.due("five of a sort", x.list(0, 5, 0), 31);
        x.set(1, 4);
        check.due("four of a sort", x.list(0, 5, 0), 15 + 32);
        for (int b = 1; b < 6; b++) {
            x.apart(0, b, true);
        }
        check.due("the most things come first", x.list(0, 5, 0), 62);
        check.due("of one the least", x.list(0, 1, 0), 1);
        BasketHouse y = Houses.with(0, 1, 2);
        y.set(0, 1);
        Houses.baskets(y, 0, 1);
        Houses.baskets(y, 1, 1 + 4, 2, 2);
        y.apart(1, 2, true);
        check.due("of two apart the better", y.list(0, 2, 0), 4);
        y.apart(1, 2, false);
        check.due("both", y.list(0, 2, 0), 6);
    }

    private static void listWithShareOfNew() {
        BasketHouse x = Houses.with(0, 1, 2);
        Houses.days(x, 10);
        x.thing(3);
        check.due("first showing", x.show(0, 1), 1);
        check.due("second showing", x.show(0, 2), 3);
        check.due("third has a new one", x.list(0, 1, 0), 8);
        check.due("third has a new one among two", x.list(0, 2, 0), 9);
        check.due("not for another person", x.list(1, 1, 0), 1);
        x.apart(3, 0, true);
        x.apart(3, 1, true);
        x.apart(3, 2, true);
        check.due("a new one before the most things", x.list(0, 3, 0), 8);
        x.stock(3, false);
        check.due("the new one is out of stock", x.list(0, 3, 0), 7);
        x.stock(3, true);
        Houses.baskets(x, 0, 8);
        check.due("the new one is taken", x.list(0, 3, 0), 7);
        x.drop(0);
        check.due("it is not, again", x.show(0, 1), 8);
        check.due("fourth showing", x.list(0, 1, 0), 1);
        x.set(2, 4);
        check.due("four goes into the fourth", x.list(0, 1, 0), 8);
        x.set(2, 2);
        check.due("two goes into the fourth", x.list(0, 1, 0), 8);
        x.set(2, 1);
        check.due("one goes into all", x.list(1, 1, 0), 8);
        Houses.days(x, 9);
        check.due("the new one on its tenth day", x.list(1, 1, 0), 8);
        x.day();
        check.due("it is new no more", x.list(1, 1, 0), 1);
    }

    private static void listOfWrongInputs() {
        BasketHouse x = Houses.with(0, 1);
        for (int p : NO_PERSONS) {
            check.due("list of person " + p, x.list(p, 1, 0), NO_NUMBER);
        }
        for (int k : new int[] {0, 6, -1, LEAST, GREATEST}) {
            check.due("list of at most " + k, x.list(0, k, 0), NO_NUMBER);
        }
        for (int what : new int[] {-1, 2, LEAST, GREATEST}) {
            check.due("list, what " + what, x.list(0, 1, what), NO_NUMBER);
        }
    }

    // Promise 19
    private static void show() {
        BasketHouse x = Houses.with(0, 1);
        check.due("show", x.show(0, 1), 1);
        check.due("shown", x.shown(0, 0, 0), 1);
        check.due("not shown", x.shown(0, 1, 0), 0);
        check.due("not shown to another", x.shown(1, 0, 0), 0);
        check.due("showings", x.shown(0, -1, 2), 1);
        check.due("show two", x.show(0, 5), 3);
        check.due("shown twice", x.shown(0, 0, 0), 2);
        check.due("shown once", x.shown(0, 1, 0), 1);
        for (int p : NO_PERSONS) {
            check.due("show to person " + p, x.show(p, 1), -1);
        }
        for (int k : new int[] {0, 6, -1, LEAST, GREATEST}) {
            check.due("show at most " + k, x.show(0, k), -1);
        }
        check.due("showings after wrong inputs", x.shown(0, -1, 2), 2);
        check.due("shown after wrong inputs", x.shown(0, 0, 0), 2);
        BasketHouse y = new BasketHouse();
        check.due("an empty list", y.show(4, 3), 0);
        check.due("is a showing, too", y.shown(4, -1, 2), 1);
    }

    // Promise 20
    private static void shown() {
        BasketHouse x = Houses.with(0, 1);
        x.set(2, 9);
        x.show(0, 1);
        x.show(0, 1);
        check.due("shown twice", x.shown(0, 0, 0), 2);
        check.due("not tired", x.shown(0, 0, 1), 0);
        x.day();
        check.due("still shown twice", x.shown(0, 0, 0), 2);
        x.show(0, 1);
        check.due("shown anew", x.shown(0, 0, 0), 0);
        for (int left = 7; left > 0; left--) {
            check.due("days still", x.shown(0, 0, 1), left);
            check.due("may, tired", x.may(0), 2);
            x.day();
        }
        check.due("rested", x.shown(0, 0, 1), 0);
        x.day();
        check.due("rested still", x.shown(0, 0, 1), 0);
        check.due("showings", x.shown(0, -1, 2), 3);
        for (int none : new int[] {-1, 2, 12, LEAST, GREATEST}) {
            check.due("shown of thing " + none, x.shown(0, none, 0), -1);
            check.due("tired of thing " + none, x.shown(0, none, 1), -1);
        }
        for (int notAlone : new int[] {0, 1, 2, -2, LEAST, GREATEST}) {
            check.due("showings with thing " + notAlone, x.shown(0, notAlone, 2), -1);
        }
        for (int what : new int[] {-1, 3, LEAST, GREATEST}) {
            check.due("shown, what " + what, x.shown(0, 0, what), -1);
            check.due("shown alone, what " + what, x.shown(0, -1, what), -1);
        }
        for (int p : NO_PERSONS) {
            check.due("shown to person " + p, x.shown(p, 0, 0), -1);
            check.due("showings of person " + p, x.shown(p, -1, 2), -1);
        }
    }

    private static void shownAndLimit() {
        BasketHouse x = Houses.with(0, 1);
        x.set(2, 9);
        x.show(0, 2);
        x.show(0, 2);
        x.set(3, 1);
        check.due("not tired by another limit", x.shown(0, 0, 1), 0);
        check.due("shown as before", x.shown(0, 0, 0), 2);
        x.show(0, 1);
        check.due("tired by the next showing", x.shown(0, 0, 1), 7);
        check.due("shown anew", x.shown(0, 0, 0), 0);
        check.due("what was not in that showing is not tired", x.shown(0, 1, 1), 0);
        check.due("and as often shown", x.shown(0, 1, 0), 2);
        x.set(3, 9);
        check.due("tired still with another limit", x.shown(0, 0, 1), 7);
        for (int n = 3; n <= 8; n++) {
            x.show(0, 1);
            check.due("shown up to the limit", x.shown(0, 1, 0), n);
        }
        x.show(0, 1);
        check.due("the limit", x.shown(0, 1, 1), 7);
    }

    private static void shownAndBaskets() {
        BasketHouse x = Houses.with(0, 1, 2);
        x.set(2, 9);
        x.set(3, 2);
        x.show(0, 2);
        x.show(1, 2);
        x.show(0, 1);
        check.due("tired", x.shown(0, 0, 1), 7);
        Houses.baskets(x, 0, 3);
        check.due("tired no more", x.shown(0, 0, 1), 0);
        check.due("shown anew", x.shown(0, 1, 0), 0);
        check.due("shown to another", x.shown(1, 1, 0), 1);
        check.due("showings stay", x.shown(0, -1, 2), 2);
        x.show(0, 1);
        Houses.baskets(x, 0, 1);
        check.due("a thing outside of the basket", x.shown(0, 2, 0), 1);
        x.drop(0);
        check.due("taken back, and not tired", x.may(0), 6);
        check.due("taken back, and not shown", x.shown(0, 1, 0), 0);
    }

    // Promise 21
    private static void why() {
        BasketHouse x = Houses.with(0, 1, 2, 3);
        x.set(0, 1);
        Houses.baskets(x, 0, 1 + 2);
        Houses.baskets(x, 1, 1 + 4, 2 + 4, 2 + 4, 8);
        check.due("its number", x.why(0, 2, 0), 1);
        check.due("kin", x.why(0, 2, 1), 111);
        check.due("both", x.why(0, 2, 2), 2);
        check.due("of several the least", x.why(0, 3, 0), 0);
        check.due("kin of several", x.why(0, 3, 1), 0);
        check.due("both of several", x.why(0, 3, 2), 0);
        check.due("of a taken one the other", x.why(0, 0, 0), 1);
        check.due("kin of a taken one", x.why(0, 0, 1), x.kin(0, 1));
        Houses.baskets(x, 3, 8);
        check.due("only the thing itself is taken", x.why(3, 3, 0), NO_NUMBER);
        check.due("another thing for the same person", x.why(3, 0, 0), 3);
        for (int what = 0; what < 3; what++) {
            check.due("nothing is taken", x.why(2, 0, what), NO_NUMBER);
        }
        for (int p : NO_PERSONS) {
            check.due("why of person " + p, x.why(p, 0, 0), NO_NUMBER);
        }
        for (int none : new int[] {-1, 4, 12, LEAST, GREATEST}) {
            check.due("why of thing " + none, x.why(0, none, 0), NO_NUMBER);
        }
        for (int what : new int[] {-1, 3, LEAST, GREATEST}) {
            check.due("why, what " + what, x.why(0, 2, what), NO_NUMBER);
        }
        BasketHouse y = Houses.with(0, 1, 2);
        y.set(0, 1);
        Houses.baskets(y, 0, 1 + 2);
        Houses.baskets(y, 1, 1, 1, 2);
        check.due("the only kin, below chance", y.why(0, 1, 1), -334);
        check.due("its number", y.why(0, 1, 0), 0);
    }
}
