/** The document's Terms: for each sentence or half of one that names an edge, a test of its own. */
public final class TermsTest {
    private static final Check check = new Check("TermsTest");

    public static void main(String[] args) {
        useOfAnObject();
        things();
        baskets();
        counts();
        kinAndScores();
        putUp();
        lists();
        showings();
        check.finish();
    }

    private static void useOfAnObject() {
        callsOfOneObject();
        objectsAreApart();
    }

    private static void things() {
        thingsAreNumbered();
        sorts();
        stockAtFirst();
        newForTenDays();
        persons();
        daysFromZero();
    }

    private static void baskets() {
        sixtyBaskets();
        roomAgain();
        setsOfThings();
        basketsAreNumbered();
        takenBackMakesLess();
        forgottenMakesLess();
        oldMakesLess();
        oldOnTheTwentyEighthDay();
        dayOfABasketIsItsOwn();
    }

    private static void counts() {
        all();
        both();
        people();
    }

    private static void kinAndScores() {
        kinIsDividedDownwards();
        kinAtItsEnds();
        kinThatLooksLikeNone();
        kinOfFewerThanGroup();
        kinOfOneInNoBasket();
        groupOneToFour();
        takenOfAllBaskets();
        scoreIsASum();
        scoreWithoutTaken();
        scoreOfATakenOne();
        scoreAtItsEnd();
    }

    private static void putUp() {
        onlyInStock();
        notTaken();
        notTired();
        pairsApart();
        spreadOfASort();
        spreadOfEachSort();
        shareGoesInto();
        shareOfEachPerson();
        newOnlyIfItMayBePutUp();
    }

    private static void lists() {
        listOfAtMost();
        mostThings();
        greatestSum();
        leastNumber();
        newIfTold();
        neverEmptyIfTold();
    }

    private static void showings() {
        shownOnceMore();
        shownSinceTaken();
        shownSinceTired();
        limitOneToNine();
        tiredForSevenDays();
        tiredForThatPerson();
        basketSetsShownToZero();
        basketEndsTired();
    }

    private static void callsOfOneObject() {
        check.about("An object is used for at most 512 calls");
        BasketHouse x = Houses.with(0, 1, 2, 3, 0, 1, 2, 3, 0, 1, 2, 3);
        x.set(2, 1);
        for (int n = 0; n < 498; n++) {
            x.show(n % 8, 5);
        }
        check.due("showings of 498 by eight persons", x.shown(1, -1, 2), 63);
        BasketHouse y = new BasketHouse();
        Houses.days(y, 511);
        check.due("the 512th call", y.day(), 512);
    }

    private static void objectsAreApart() {
        check.about("No THINGS, DAY 0");
        BasketHouse busy = new BasketHouse();
        Houses.makeBusy(busy);
        BasketHouse fresh = new BasketHouse();
        check.due("a second object's things", fresh.look(1), 0);
        check.due("a second object's group", fresh.look(3), 2);
        fresh.set(0, 4);
        check.due("the first one's group", busy.look(3), 1);
        check.due("a third one's group", new BasketHouse().look(3), 2);
    }

    private static void thingsAreNumbered() {
        check.about("THINGS 0 .. 11, numbered as they come");
        BasketHouse x = new BasketHouse();
        for (int n = 0; n < 12; n++) {
            check.due("there is no thing yet", x.count(n, n, 0), -1);
            check.due("thing", x.thing(n % 2), n);
            check.due("there is one", x.count(n, n, 0), 0);
        }
        check.due("thing 12", x.thing(0), -1);
        check.due("there is no thing 12", x.count(12, 12, 0), -1);
    }

    private static void sorts() {
        check.about("a SORT 0 .. 3");
        for (int sort = 0; sort < 4; sort++) {
            check.due("sort " + sort, new BasketHouse().thing(sort), 0);
        }
        for (int none : Houses.outside(0, 3)) {
            check.due("sort " + none, new BasketHouse().thing(none), -1);
        }
    }

    private static void stockAtFirst() {
        check.about("in STOCK (at first) or not");
        BasketHouse x = Houses.with(0, 1);
        check.due("at first", x.look(7), 3);
        x.stock(1, false);
        check.due("not", x.look(7), 1);
        x.thing(2);
        check.due("a later one at first", x.look(7), 5);
    }

    private static void newForTenDays() {
        check.about("NEW for 10 DAYS (that of coming and nine more)");
        BasketHouse x = Houses.with(0);
        check.due("the day of coming", x.look(8), 1);
        for (int day = 1; day <= 9; day++) {
            x.day();
            check.due("day " + day, x.look(8), 1);
        }
        x.thing(1);
        x.day();
        check.due("ten days after the first", x.look(8), 2);
        Houses.days(x, 8);
        check.due("nine days after the second", x.look(8), 2);
        x.day();
        check.due("ten days after the second", x.look(8), 0);
    }

    private static void persons() {
        check.about("PERSONS 0 .. 7");
        BasketHouse x = Houses.with(0, 1);
        for (int p = 0; p < 8; p++) {
            check.due("basket of " + p, x.basket(p, 1), p);
            check.due("taken by " + p, x.taken(p), 1);
            check.due("may of " + p, x.may(p), 2);
            check.due("score of " + p, x.score(p, 1), 0);
            check.due("list of " + p, x.list(p, 1, 0), 2);
            check.due("show to " + p, x.show(p, 1), 2);
            check.due("shown to " + p, x.shown(p, 1, 0), 1);
            check.due("showings of " + p, x.shown(p, -1, 2), 1);
            check.due("why of " + p, x.why(p, 1, 0), 0);
        }
        for (int p = 0; p < 8; p++) {
            check.due("forget " + p, x.forget(p), 1);
        }
        for (int none : Houses.outside(0, 7)) {
            check.due("basket of " + none, x.basket(none, 1), -1);
            check.due("taken by " + none, x.taken(none), -1);
            check.due("may of " + none, x.may(none), -1);
            check.due("score of " + none, x.score(none, 1), Houses.NO_NUMBER);
            check.due("list of " + none, x.list(none, 1, 0), Houses.NO_NUMBER);
            check.due("show to " + none, x.show(none, 1), -1);
            check.due("shown to " + none, x.shown(none, 1, 0), -1);
            check.due("showings of " + none, x.shown(none, -1, 2), -1);
            check.due("why of " + none, x.why(none, 1, 0), Houses.NO_NUMBER);
            check.due("forget " + none, x.forget(none), -1);
        }
    }

    private static void daysFromZero() {
        check.about("DAYS 0 .. 9999 (0 at first)");
        BasketHouse x = new BasketHouse();
        check.due("at first", x.look(0), 0);
        // Beyond the 512 calls of the document: the last day can't be seen otherwise.
        for (int day = 1; day <= 9999; day++) {
            check.due("day", x.day(), day);
        }
        check.due("behind the last", x.day(), -1);
        check.due("the last", x.look(0), 9999);
    }

    private static void sixtyBaskets() {
        check.about("BASKETS (60 at most at once)");
        BasketHouse x = Houses.with(0, 1);
        Houses.fill(x, 1);
        check.due("sixty", x.look(2), 60);
        check.due("the last of them", x.of(59, 2), 1);
        check.due("one more", x.basket(0, 1), -1);
        check.due("one more of another thing and person", x.basket(5, 2), -1);
        check.due("sixty still", x.look(2), 60);
        check.due("none behind them", x.of(60, 0), -1);
    }

    private static void roomAgain() {
        check.about("60 at most at once");
        BasketHouse dropped = Houses.with(0);
        Houses.fill(dropped, 1);
        dropped.drop(59);
        check.due("after one was taken back", dropped.basket(0, 1), 59);
        check.due("full again", dropped.basket(0, 1), -1);
        BasketHouse forgotten = Houses.with(0);
        Houses.fill(forgotten, 1);
        forgotten.forget(7);
        check.due("after a person was forgotten", forgotten.basket(0, 1), 53);
        BasketHouse old = Houses.with(0);
        Houses.fill(old, 1);
        Houses.days(old, 27);
        check.due("before they are too old", old.basket(0, 1), -1);
        old.day();
        check.due("after they were too old", old.basket(0, 1), 0);
    }

    private static void setsOfThings() {
        check.about("a set of THINGS (THING x counts 2 to the x; not empty)");
        BasketHouse x = Houses.with(0, 1, 2);
        for (int set = 1; set < 8; set++) {
            x.basket(0, set);
            check.due("the set", x.of(set - 1, 2), set);
        }
        check.due("have thing 2", x.count(2, 2, 0), 4);
        check.due("have 0 and 2", x.count(0, 2, 0), 2);
        check.due("empty", x.basket(0, 0), -1);
        for (int none : Houses.outside(0, 7)) {
            check.due("set " + none, x.basket(0, none), -1);
        }
        for (int bit = 3; bit < 32; bit++) {
            check.due("a thing that has not come, with one that has", x.basket(0, 1 | 1 << bit), -1);
        }
        BasketHouse full = Houses.with(0, 0, 0, 0, 0, 0, 0, 0, 0, 0, 0, 0);
        check.due("all twelve", full.basket(0, 4095), 0);
        check.due("thirteen", full.basket(0, 8191), -1);
        check.due("a thirteenth alone", full.basket(0, 4096), -1);
    }

    private static void basketsAreNumbered() {
        check.about("they are numbered 0, 1, .. as they come");
        BasketHouse x = Houses.with(0, 1, 2);
        check.due("first", x.basket(5, 1), 0);
        check.due("second", x.basket(3, 2), 1);
        x.day();
        check.due("third, on another day", x.basket(5, 4), 2);
        check.due("the first's person", x.of(0, 0), 5);
        check.due("the second's person", x.of(1, 0), 3);
        check.due("the second's set", x.of(1, 2), 2);
        check.due("the third's day", x.of(2, 1), 1);
    }

    private static void takenBackMakesLess() {
        check.about("one that goes (taken back) makes those behind it less by one");
        int[][] left = {{2, 4, 8}, {1, 4, 8}, {1, 2, 8}, {1, 2, 4}};
        for (int gone = 0; gone < 4; gone++) {
            BasketHouse x = Houses.with(0, 1, 2, 3);
            for (int n = 0; n < 4; n++) {
                x.basket(n, 1 << n);
                x.day();
            }
            x.drop(gone);
            for (int i = 0; i < 3; i++) {
                int came = Integer.numberOfTrailingZeros(left[gone][i]);
                check.due("set of " + i + " without " + gone, x.of(i, 2), left[gone][i]);
                check.due("person of " + i + " without " + gone, x.of(i, 0), came);
                check.due("day of " + i + " without " + gone, x.of(i, 1), came);
            }
            check.due("no fourth", x.of(3, 2), -1);
        }
    }

    private static void forgottenMakesLess() {
        check.about("one that goes (forgotten) makes those behind it less by one");
        BasketHouse x = Houses.with(0, 1, 2, 3, 0, 1, 2);
        int[] owners = {1, 1, 2, 1, 3, 2, 1};
        for (int n = 0; n < owners.length; n++) {
            x.basket(owners[n], 1 << n);
        }
        x.forget(1);
        int[] left = {4, 16, 32};
        for (int i = 0; i < left.length; i++) {
            check.due("set of " + i, x.of(i, 2), left[i]);
        }
        check.due("no fourth", x.of(3, 2), -1);
        check.due("the next one's number", x.basket(1, 1), 3);
    }

    private static void oldMakesLess() {
        check.about("one that goes (older than 28 DAYS) makes those behind it less by one");
        BasketHouse x = Houses.with(0, 1, 2);
        Houses.baskets(x, 0, 1, 1);
        x.day();
        Houses.baskets(x, 1, 2);
        x.day();
        Houses.baskets(x, 2, 4);
        Houses.days(x, 26);
        check.due("set of 0, two gone", x.of(0, 2), 2);
        check.due("set of 1, two gone", x.of(1, 2), 4);
        check.due("no third", x.of(2, 2), -1);
        x.day();
        check.due("set of 0, three gone", x.of(0, 2), 4);
        check.due("its day", x.of(0, 1), 2);
        check.due("the next one's number", x.basket(0, 1), 1);
    }

    private static void oldOnTheTwentyEighthDay() {
        check.about("as the 28th DAY behind its own begins");
        BasketHouse x = Houses.with(0);
        Houses.days(x, 3);
        x.basket(6, 1);
        Houses.days(x, 27);
        check.due("the 27th day behind", x.look(2), 1);
        check.due("taken on the 27th", x.taken(6), 1);
        check.due("the 28th begins", x.day(), 31);
        check.due("the 28th day behind", x.look(2), 0);
        check.due("taken on the 28th", x.taken(6), 0);
        check.due("may on the 28th", x.may(6), 1);
        check.due("counted on the 28th", x.count(0, 0, 0), 0);
    }

    private static void dayOfABasketIsItsOwn() {
        check.about("BASKETS: a PERSON, the DAY");
        BasketHouse x = Houses.with(0, 1);
        x.basket(0, 1);
        Houses.days(x, 5);
        x.drop(0);
        x.basket(0, 1);
        Houses.days(x, 27);
        check.due("27 days behind the second", x.look(2), 1);
        x.day();
        check.due("28 days behind the second", x.look(2), 0);
    }

    private static void all() {
        check.about("ALL is how many BASKETS there are");
        BasketHouse x = Houses.with(0);
        check.due("none", x.look(2), 0);
        Houses.baskets(x, 0, 1, 1, 1);
        check.due("three alike", x.look(2), 3);
        x.basket(0, 0);
        check.due("a refused one", x.look(2), 3);
        x.drop(0);
        x.drop(0);
        x.drop(0);
        check.due("all gone", x.look(2), 0);
    }

    private static void both() {
        check.about("BOTH is how many have both (a, a: how many have a)");
        BasketHouse x = Houses.with(0, 1, 2, 3);
        Houses.baskets(x, 0, 1, 2, 3, 3, 7, 4);
        check.due("both", x.count(0, 1, 0), 3);
        check.due("both turned", x.count(1, 0, 0), 3);
        check.due("one of them in each", x.count(0, 2, 0), 1);
        check.due("have 0", x.count(0, 0, 0), 4);
        check.due("have 2", x.count(2, 2, 0), 2);
        check.due("have 3", x.count(3, 3, 0), 0);
        check.due("have 3 and 0", x.count(3, 0, 0), 0);
    }

    private static void people() {
        check.about("PEOPLE of a, b: how many PERSONS have a BASKET that has both");
        BasketHouse x = Houses.with(0, 1, 2);
        Houses.baskets(x, 0, 1, 2);
        check.due("one each in two baskets of a person", x.count(0, 1, 1), 0);
        Houses.baskets(x, 0, 3, 3);
        check.due("one person twice", x.count(0, 1, 1), 1);
        for (int p = 1; p < 8; p++) {
            x.basket(p, 7);
            check.due("one person more", x.count(0, 1, 1), p + 1);
            check.due("turned", x.count(1, 0, 1), p + 1);
        }
        check.due("of 2 and 2", x.count(2, 2, 1), 7);
        check.due("of 0 and 0", x.count(0, 0, 1), 8);
        x.forget(7);
        check.due("a person less", x.count(0, 1, 1), 7);
        x.drop(2);
        check.due("one of two baskets less", x.count(0, 1, 1), 7);
        x.drop(2);
        check.due("the second of them less", x.count(0, 1, 1), 6);
    }

    private static void kinIsDividedDownwards() {
        check.about("divided downwards, less 1000");
        BasketHouse x = Houses.with(0, 1);
        x.set(0, 1);
        Houses.baskets(x, 0, 3, 3, 1, 2);
        check.due("4000 * 2 / 9 = 888.9", x.kin(0, 1), -112);
        x.drop(3);
        check.due("3000 * 2 / 6", x.kin(0, 1), 0);
        x.drop(2);
        check.due("2000 * 2 / 4", x.kin(0, 1), 0);
        Houses.baskets(x, 0, 3);
        x.thing(2);
        Houses.baskets(x, 0, 4, 1);
        check.due("5000 * 3 / 12", x.kin(0, 1), 250);
        Houses.baskets(x, 0, 4, 1, 2);
        check.due("8000 * 3 / 20", x.kin(0, 1), 200);
        Houses.baskets(x, 0, 1);
        check.due("9000 * 3 / 24", x.kin(0, 1), 125);
        Houses.baskets(x, 0, 2, 2);
        check.due("11000 * 3 / 36 = 916.7", x.kin(0, 1), -84);
    }

    private static void kinAtItsEnds() {
        check.about("1000 BOTH ALL by (count of a times count of b)");
        BasketHouse greatest = Houses.with(0, 1, 2);
        greatest.set(0, 1);
        greatest.basket(0, 3);
        Houses.fill(greatest, 4);
        check.due("sixty baskets", greatest.look(2), 60);
        check.due("60000 / 1", greatest.kin(0, 1), 59000);
        BasketHouse least = Houses.with(0, 1);
        least.set(0, 1);
        least.basket(0, 3);
        for (int n = 0; n < 59; n++) {
            least.basket(1, n < 29 ? 1 : 2);
        }
        check.due("60000 / (30 * 31) = 64.5", least.kin(0, 1), -936);
        BasketHouse full = Houses.with(0, 1);
        Houses.fill(full, 3);
        check.due("3600000 / 3600", full.kin(0, 1), 0);
    }

    /** 34 baskets of both, 5 and 7 of one alone, 1 of neither: just below chance. */
    private static void kinThatLooksLikeNone() {
        check.about("divided downwards, less 1000 (-1 is a KIN, too)");
        BasketHouse x = Houses.with(0, 1, 2);
        x.set(0, 1);
        for (int n = 0; n < 47; n++) {
            x.basket(1, n < 34 ? 3 : n < 39 ? 1 : n < 46 ? 2 : 4);
        }
        check.due("34000 * 47 / (39 * 41) = 999.4", x.kin(0, 1), -1);
        check.due("near: one without kin before it", x.near(0, 0), 2);
        check.due("near: it", x.near(0, 1), 1);
        // One of the baskets is now another person's: the counts stay as they were.
        x.drop(38);
        x.basket(0, 1);
        check.due("a score of -1", x.score(0, 1), -1);
        check.due("a list's sum of -1", x.list(0, 2, 1), -1);
        check.due("why -1", x.why(0, 1, 1), -1);
        check.due("why, both", x.why(0, 1, 2), 34);
    }

    private static void kinOfFewerThanGroup() {
        check.about("0 if PEOPLE are fewer than GROUP");
        for (int group = 1; group <= 4; group++) {
            BasketHouse x = Houses.with(0, 1, 2);
            x.set(0, group);
            x.basket(7, 4);
            for (int p = 0; p < group; p++) {
                check.due(p + " of " + group, x.kin(0, 1), 0);
                check.due("turned", x.kin(1, 0), 0);
                x.basket(p, 3);
                Houses.baskets(x, 0, p == 0 ? 3 : 4);
            }
            int all = x.look(2);
            int both = x.count(0, 1, 0);
            check.due(group + " of " + group, x.kin(0, 1), 1000 * all / both - 1000);
            check.due("turned", x.kin(1, 0), 1000 * all / both - 1000);
            x.set(0, group % 4 + 1);
            check.due("another group", x.kin(0, 1), group == 4 ? 1000 * all / both - 1000 : 0);
        }
    }

    private static void kinOfOneInNoBasket() {
        check.about("or one is in no BASKET");
        BasketHouse x = Houses.with(0, 1, 2);
        x.set(0, 1);
        check.due("both in none", x.kin(0, 1), 0);
        x.basket(0, 1);
        check.due("the second in none", x.kin(0, 1), 0);
        check.due("the first in none", x.kin(1, 0), 0);
        x.basket(0, 3);
        check.due("it was in one", x.kin(0, 1), 0);
        x.basket(1, 4);
        check.due("none of both in another", x.kin(0, 1), 500);
        x.drop(1);
        check.due("it is in none again", x.kin(0, 1), 0);
    }

    private static void groupOneToFour() {
        check.about("GROUP (1 .. 4, 2 at first)");
        setting(0, 2, 4);
        BasketHouse x = Houses.with(0, 1, 2);
        x.basket(2, 4);
        x.basket(0, 3);
        check.due("one person is too few at first", x.kin(0, 1), 0);
        x.basket(1, 3);
        check.due("two are enough at first", x.kin(0, 1), 500);
    }

    /** From 1 to the most all can be, nothing else can, and there is one at first. */
    private static void setting(int what, int first, int most) {
        BasketHouse x = new BasketHouse();
        check.due("at first", x.look(3 + what), first);
        for (int v = 1; v <= most; v++) {
            check.due("set " + v, x.set(what, v), true);
            check.due("it is " + v, x.look(3 + what), v);
        }
        for (int none : Houses.outside(1, most)) {
            check.due("set " + none, x.set(what, none), false);
            check.due("it is as it was", x.look(3 + what), most);
        }
    }

    private static void takenOfAllBaskets() {
        check.about("A PERSON's TAKEN: all THINGS of their BASKETS");
        BasketHouse x = Houses.with(0, 1, 2, 3);
        check.due("no basket", x.taken(4), 0);
        Houses.baskets(x, 4, 1, 3, 8);
        Houses.baskets(x, 5, 4);
        check.due("three baskets", x.taken(4), 11);
        check.due("of another", x.taken(5), 4);
        x.drop(0);
        check.due("what is in another basket, too, stays", x.taken(4), 11);
        x.drop(0);
        check.due("what is in none goes", x.taken(4), 8);
        x.stock(3, false);
        check.due("out of stock, and taken", x.taken(4), 8);
    }

    private static void scoreIsASum() {
        check.about("SCORE of a THING for a PERSON: the sum of its KIN to each of the TAKEN ones");
        BasketHouse x = Houses.with(0, 1, 2, 3);
        x.set(0, 1);
        Houses.baskets(x, 0, 1, 2, 2);
        Houses.baskets(x, 1, 5, 6, 4, 8);
        int toZero = x.kin(2, 0);
        int toOne = x.kin(2, 1);
        check.due("kin to 0: 7000 / 6", toZero, 166);
        check.due("kin to 1: 7000 / 9", toOne, -223);
        check.due("the sum, each taken thing once", x.score(0, 2), -57);
        check.due("of a thing without kin", x.score(0, 3), 0);
        x.drop(0);
        check.due("one taken thing less", x.score(0, 2), x.kin(2, 1));
    }

    private static void scoreWithoutTaken() {
        check.about("0 without any");
        BasketHouse x = Houses.with(0, 1, 2);
        x.set(0, 1);
        Houses.baskets(x, 1, 3, 4);
        check.due("kin", x.kin(0, 1), 1000);
        check.due("nothing taken", x.score(0, 0), 0);
        x.basket(0, 2);
        check.due("something taken", x.score(0, 0) != 0, true);
        x.forget(0);
        check.due("nothing taken again", x.score(0, 0), 0);
    }

    private static void scoreOfATakenOne() {
        check.about("of one that is TAKEN itself the others");
        BasketHouse x = Houses.with(0, 1, 2);
        x.set(0, 1);
        Houses.baskets(x, 0, 1);
        Houses.baskets(x, 1, 4, 2);
        check.due("it alone is taken", x.score(0, 0), 0);
        Houses.baskets(x, 0, 3);
        check.due("the other one: 4000 / 4", x.score(0, 0), 0);
        Houses.baskets(x, 1, 4);
        check.due("the other one: 5000 / 4", x.score(0, 0), 250);
        check.due("and the other way", x.score(0, 1), 250);
    }

    private static void scoreAtItsEnd() {
        check.about("the sum of its KIN to each of the TAKEN ones");
        BasketHouse x = Houses.with(0, 0, 0, 0, 0, 0, 0, 0, 0, 0, 0, 0);
        x.set(0, 1);
        x.basket(0, 2047);
        Houses.fill(x, 2048);
        check.due("ten times 59000", x.score(0, 10), 590000);
        check.due("of the one that stands alone", x.score(0, 11), 0);
    }

    private static void onlyInStock() {
        check.about("A THING may be PUT UP for a PERSON: it is in STOCK");
        BasketHouse x = Houses.with(0, 1);
        check.due("in stock", x.may(3), 3);
        x.stock(0, false);
        check.due("out of stock", x.may(3), 2);
        check.due("the list without it", x.list(3, 5, 0), 2);
        x.stock(1, false);
        check.due("all out of stock", x.may(3), 0);
        x.stock(0, true);
        check.due("in stock again", x.may(3), 1);
        check.due("the list with it", x.list(3, 5, 0), 1);
    }

    private static void notTaken() {
        check.about("not TAKEN");
        BasketHouse x = Houses.with(0, 1);
        x.basket(3, 1);
        check.due("taken", x.may(3), 2);
        check.due("the list without it", x.list(3, 5, 0), 2);
        check.due("taken by another", x.may(4), 3);
        x.basket(3, 2);
        check.due("all taken", x.may(3), 0);
        x.drop(0);
        check.due("taken back", x.may(3), 1);
    }

    private static void notTired() {
        check.about("not TIRED");
        BasketHouse x = Houses.with(0, 1);
        x.set(3, 1);
        x.show(3, 1);
        check.due("tired", x.may(3), 2);
        check.due("the list without it", x.list(3, 5, 0), 2);
        x.show(3, 1);
        check.due("all tired", x.may(3), 0);
        Houses.days(x, 7);
        check.due("rested", x.may(3), 3);
    }

    private static void pairsApart() {
        check.about("some pairs of THINGS may not stand together");
        BasketHouse x = Houses.with(0, 1, 2, 3);
        x.apart(0, 3, true);
        check.due("the pair is parted", x.list(0, 5, 0), 7);
        x.apart(1, 0, true);
        x.apart(2, 0, true);
        check.due("one apart from all others", x.list(0, 5, 0), 14);
        check.due("it may stand alone", x.list(0, 1, 0), 1);
        x.apart(3, 1, true);
        x.apart(2, 1, true);
        x.apart(3, 2, true);
        check.due("all are apart", x.list(0, 5, 0), 1);
        x.apart(2, 3, false);
        check.due("a pair again", x.list(0, 5, 0), 12);
        check.due("may be put up all the same", x.may(0), 15);
    }

    private static void spreadOfASort() {
        check.about("of one SORT there may be SPREAD (1 .. 5, 2 at first) at most");
        setting(1, 2, 5);
        BasketHouse x = Houses.with(3, 3, 3, 3, 3, 3);
        check.due("two at first", x.list(0, 5, 0), 3);
        for (int spread = 1; spread <= 5; spread++) {
            x.set(1, spread);
            check.due("spread " + spread, x.list(0, 5, 0), (1 << spread) - 1);
            check.due("and a shorter list", x.list(0, 2, 0), spread == 1 ? 1 : 3);
        }
    }

    private static void spreadOfEachSort() {
        check.about("of one SORT");
        BasketHouse x = Houses.with(0, 0, 1, 1, 2, 2, 3, 3);
        x.set(1, 1);
        check.due("one of each", x.list(0, 5, 0), 1 + 4 + 16 + 64);
        x.set(1, 2);
        check.due("two of each", x.list(0, 5, 0), 31);
        for (int sort = 0; sort < 4; sort++) {
            BasketHouse alone = Houses.with(sort, sort, sort);
            check.due("two of sort " + sort, alone.list(0, 5, 0), 3);
        }
    }

    private static void shareGoesInto() {
        check.about("if SHARE (1 .. 9, 3 at first) goes into the number of the next one (1, 2, ..)");
        setting(2, 3, 9);
        for (int share = 0; share <= 9; share++) {
            BasketHouse x = Houses.with(0);
            Houses.days(x, 10);
            x.thing(1);
            if (share > 0) {
                x.set(2, share);
            }
            int due = share == 0 ? 3 : share;
            for (int n = 1; n <= 20; n++) {
                check.due("showing " + n + " with share " + due, x.show(0, 1), n % due == 0 ? 2 : 1);
                // A basket that comes and is taken back: nothing becomes tired.
                x.basket(0, 3);
                x.drop(0);
            }
        }
    }

    private static void shareOfEachPerson() {
        check.about("Each PERSON has had so many SHOWINGS");
        BasketHouse x = Houses.with(0);
        Houses.days(x, 10);
        x.thing(1);
        x.set(2, 2);
        x.show(0, 1);
        check.due("the second of person 0", x.list(0, 1, 0), 2);
        check.due("the first of person 1", x.list(1, 1, 0), 1);
        x.show(1, 1);
        check.due("the second of person 1", x.list(1, 1, 0), 2);
        x.forget(0);
        check.due("forgotten: the first again", x.list(0, 1, 0), 1);
        check.due("the other one's second", x.list(1, 1, 0), 2);
    }

    private static void newOnlyIfItMayBePutUp() {
        check.about("if some NEW THING may be PUT UP");
        BasketHouse x = Houses.with(0);
        Houses.days(x, 10);
        x.thing(1);
        x.set(2, 1);
        check.due("it may", x.list(0, 1, 0), 2);
        x.stock(1, false);
        check.due("out of stock", x.list(0, 1, 0), 1);
        x.stock(1, true);
        x.basket(0, 2);
        check.due("taken", x.list(0, 1, 0), 1);
        x.drop(0);
        x.set(3, 1);
        check.due("shown", x.show(0, 1), 2);
        check.due("tired", x.list(0, 1, 0), 1);
        check.due("not for another", x.list(1, 1, 0), 2);
        Houses.days(x, 7);
        check.due("rested, and new still", x.list(0, 1, 0), 2);
        Houses.days(x, 3);
        check.due("none is new", x.list(0, 1, 0), 1);
    }

    private static void listOfAtMost() {
        check.about("LIST of at most k (1 .. 5)");
        BasketHouse x = Houses.with(0, 1, 2, 3, 0, 1);
        for (int k = 1; k <= 5; k++) {
            check.due("at most " + k, x.list(0, k, 0), (1 << k) - 1);
            check.due("show at most " + k, x.show(k, k), (1 << k) - 1);
        }
        for (int none : Houses.outside(1, 5)) {
            check.due("at most " + none, x.list(0, none, 0), Houses.NO_NUMBER);
            check.due("show at most " + none, x.show(0, none), -1);
        }
        BasketHouse few = Houses.with(0, 1);
        check.due("fewer than at most", few.list(0, 5, 0), 3);
        check.due("none at all", new BasketHouse().list(0, 5, 0), 0);
    }

    /** Kin to thing 0, which person 0 took: 900 of 1, -620 of 2, 266 each of 3 and 4. */
    private static BasketHouse scored() {
        BasketHouse x = Houses.with(0, 1, 2, 3, 0);
        x.set(0, 1);
        Houses.baskets(x, 0, 1);
        Houses.baskets(x, 1, 3, 2, 9, 8, 8, 17, 16, 16, 5, 4, 4, 4, 4, 4, 4, 4, 4, 4);
        return x;
    }

    private static void mostThings() {
        check.about("those with the most THINGS");
        BasketHouse x = scored();
        x.stock(4, false);
        x.apart(1, 2, true);
        x.apart(1, 3, true);
        check.due("score of 1", x.score(0, 1), 900);
        check.due("two below 0 in sum before one above", x.list(0, 2, 0), 12);
        check.due("their sum", x.list(0, 2, 1), -354);
        check.due("of one at most", x.list(0, 1, 0), 2);
        check.due("its sum", x.list(0, 1, 1), 900);
    }

    private static void greatestSum() {
        check.about("of these with the greatest sum of SCORES");
        BasketHouse x = scored();
        check.due("of all pairs", x.list(0, 2, 0), 10);
        check.due("its sum", x.list(0, 2, 1), 1166);
        x.apart(1, 3, true);
        x.apart(1, 4, true);
        check.due("the best thing is not in the best pair", x.list(0, 2, 0), 24);
        check.due("the pair's sum", x.list(0, 2, 1), 532);
        x.apart(3, 4, true);
        check.due("now it is", x.list(0, 2, 0), 6);
        check.due("its sum now", x.list(0, 2, 1), 280);
        x.apart(1, 2, true);
        check.due("a sum below 0", x.list(0, 2, 0), 12);
        check.due("below 0", x.list(0, 2, 1), -354);
        BasketHouse first = Houses.with(0, 1, 2);
        first.set(0, 1);
        Houses.baskets(first, 0, 4);
        Houses.baskets(first, 1, 5, 1, 1);
        check.due("thing 0, too, has a score", first.list(0, 1, 0), 2);
        check.due("and is summed up", first.list(0, 2, 1), -334);
    }

    private static void leastNumber() {
        check.about("of these the least as a number");
        BasketHouse x = scored();
        x.stock(1, false);
        check.due("one of two alike", x.list(0, 1, 0), 8);
        x.stock(2, false);
        x.thing(1);
        x.thing(2);
        check.due("two of four", x.list(0, 2, 0), 24);
        check.due("three: the least of two that add 0", x.list(0, 3, 0), 56);
        x.apart(3, 5, true);
        check.due("three without a pair", x.list(0, 3, 0), 88);
        x.apart(3, 4, true);
        check.due("two that have one of the alike each", x.list(0, 2, 0), 48);
        BasketHouse y = Houses.with(0, 0, 0, 1);
        check.due("nothing taken", y.list(0, 3, 0), 7 - 4 + 8);
        y.apart(0, 1, true);
        check.due("the lesser number, not the least thing's company", y.list(0, 2, 0), 5);
        y.apart(0, 2, true);
        check.due("6 before 9", y.list(0, 2, 0), 6);
    }

    private static void newIfTold() {
        check.about("and have a NEW one if told");
        BasketHouse x = scored();
        Houses.days(x, 10);
        x.thing(1);
        x.thing(2);
        check.due("not told", x.list(0, 1, 0), 2);
        x.set(2, 1);
        check.due("told: the least new one", x.list(0, 1, 0), 32);
        check.due("its sum", x.list(0, 1, 1), 0);
        check.due("the best old one beside it", x.list(0, 2, 0), 34);
        x.apart(1, 5, true);
        check.due("the other new one beside the best", x.list(0, 2, 0), 66);
        x.apart(1, 6, true);
        check.due("the best that may stand beside a new one", x.list(0, 2, 0), 40);
        for (int old = 2; old < 5; old++) {
            x.apart(old, 5, true);
            x.apart(old, 6, true);
        }
        check.due("two new ones alone before three old ones", x.list(0, 3, 0), 96);
        x.set(2, 2);
        check.due("not told: the three", x.list(0, 3, 0), 26);
    }

    /** A new thing alone keeps all rules, so the document's case of none cannot come about. */
    private static void neverEmptyIfTold() {
        check.about("(If none has a NEW one and is told to, it is empty.)");
        BasketHouse x = Houses.with(0, 0, 0);
        Houses.days(x, 10);
        x.thing(0);
        x.set(1, 1);
        x.set(2, 1);
        for (int old = 0; old < 3; old++) {
            x.apart(old, 3, true);
        }
        for (int k = 1; k <= 5; k++) {
            check.due("the new one alone", x.list(0, k, 0), 8);
        }
        x.stock(3, false);
        check.due("not told without one", x.list(0, 5, 0), 1);
        x.stock(0, false);
        x.stock(1, false);
        x.stock(2, false);
        check.due("nothing at all", x.list(0, 5, 0), 0);
    }

    private static void shownOnceMore() {
        check.about("each THING of it was SHOWN once more to that PERSON");
        BasketHouse x = Houses.with(0, 1, 2);
        x.show(0, 2);
        x.show(0, 1);
        x.show(6, 3);
        int[] toZero = {2, 1, 0};
        for (int t = 0; t < 3; t++) {
            check.due("thing " + t + " to 0", x.shown(0, t, 0), toZero[t]);
            check.due("thing " + t + " to 6", x.shown(6, t, 0), 1);
            check.due("thing " + t + " to 1", x.shown(1, t, 0), 0);
        }
        x.list(0, 3, 0);
        check.due("a list is not shown", x.shown(0, 2, 0), 0);
        x.day();
        check.due("on the next day", x.shown(0, 0, 0), 2);
        x.stock(0, false);
        x.stock(0, true);
        check.due("it was out of stock meanwhile", x.shown(0, 0, 0), 2);
    }

    private static void shownSinceTaken() {
        check.about("(since it was TAKEN last)");
        BasketHouse x = Houses.with(0);
        x.set(3, 3);
        x.show(0, 1);
        x.show(0, 1);
        x.basket(0, 1);
        x.drop(0);
        check.due("taken, and taken back", x.shown(0, 0, 0), 0);
        x.show(0, 1);
        x.show(0, 1);
        check.due("twice since then", x.shown(0, 0, 0), 2);
        check.due("not tired", x.shown(0, 0, 1), 0);
        x.show(0, 1);
        check.due("three times since then", x.shown(0, 0, 1), 7);
    }

    private static void shownSinceTired() {
        check.about("(since it was TIRED last), and its SHOWN is 0");
        BasketHouse x = Houses.with(0);
        x.set(3, 2);
        x.show(0, 1);
        x.show(0, 1);
        check.due("tired, shown", x.shown(0, 0, 0), 0);
        check.due("tired", x.shown(0, 0, 1), 7);
        check.due("an empty showing", x.show(0, 1), 0);
        check.due("tired, shown still", x.shown(0, 0, 0), 0);
        Houses.days(x, 7);
        check.due("rested, shown", x.shown(0, 0, 0), 0);
        x.show(0, 1);
        check.due("once since then", x.shown(0, 0, 0), 1);
        check.due("not tired by one", x.shown(0, 0, 1), 0);
        x.show(0, 1);
        check.due("tired by two", x.shown(0, 0, 1), 7);
    }

    private static void limitOneToNine() {
        check.about("One that was SHOWN as often as LIMIT (1 .. 9, 3 at first) is TIRED");
        setting(3, 3, 9);
        for (int limit = 0; limit <= 9; limit++) {
            BasketHouse x = Houses.with(0);
            if (limit > 0) {
                x.set(3, limit);
            }
            int due = limit == 0 ? 3 : limit;
            for (int n = 1; n < due; n++) {
                x.show(0, 1);
                check.due("shown " + n + " of " + due, x.shown(0, 0, 0), n);
                check.due("not tired by " + n + " of " + due, x.shown(0, 0, 1), 0);
            }
            x.show(0, 1);
            check.due("tired by " + due, x.shown(0, 0, 1), 7);
            check.due("may not be put up", x.may(0), 0);
        }
    }

    private static void tiredForSevenDays() {
        check.about("for 7 DAYS (this one and six more)");
        BasketHouse x = Houses.with(0);
        Houses.days(x, 2);
        x.set(3, 1);
        x.show(0, 1);
        for (int left = 7; left > 0; left--) {
            check.due("days still", x.shown(0, 0, 1), left);
            check.due("may", x.may(0), 0);
            x.day();
        }
        check.due("rested", x.shown(0, 0, 1), 0);
        check.due("may again", x.may(0), 1);
        check.due("show again", x.show(0, 1), 1);
        check.due("tired anew", x.shown(0, 0, 1), 7);
    }

    private static void tiredForThatPerson() {
        check.about("is TIRED for that PERSON");
        BasketHouse x = Houses.with(0, 1);
        x.set(3, 1);
        x.show(2, 1);
        for (int p = 0; p < 8; p++) {
            check.due("tired for " + p, x.shown(p, 0, 1), p == 2 ? 7 : 0);
            check.due("may for " + p, x.may(p), p == 2 ? 2 : 3);
        }
        check.due("the other thing", x.shown(2, 1, 1), 0);
    }

    private static void basketSetsShownToZero() {
        check.about("A BASKET of the PERSON sets the SHOWN of all its THINGS to 0");
        BasketHouse x = Houses.with(0, 1, 2);
        x.show(0, 3);
        x.show(1, 3);
        x.basket(0, 5);
        check.due("a thing of it", x.shown(0, 0, 0), 0);
        check.due("a thing not of it", x.shown(0, 1, 0), 1);
        check.due("another thing of it", x.shown(0, 2, 0), 0);
        check.due("of another person", x.shown(1, 0, 0), 1);
        check.due("showings", x.shown(0, -1, 2), 1);
    }

    private static void basketEndsTired() {
        check.about("and they are no more TIRED");
        BasketHouse x = Houses.with(0, 1, 2);
        x.set(3, 1);
        x.show(0, 3);
        x.show(1, 3);
        x.basket(0, 5);
        check.due("a thing of it", x.shown(0, 0, 1), 0);
        check.due("a thing not of it", x.shown(0, 1, 1), 7);
        check.due("another thing of it", x.shown(0, 2, 1), 0);
        check.due("of another person", x.shown(1, 0, 1), 7);
        x.drop(0);
        check.due("taken back: rested still", x.may(0), 5);
    }
}
