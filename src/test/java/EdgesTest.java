import java.util.function.Consumer;

/** Promises 1 to 21: for each sentence or half of one that names an edge or a refusal, a test of its own. */
public final class EdgesTest {
    private static final int NO_NUMBER = Houses.NO_NUMBER;
    private static final int[] NO_THINGS = Houses.outside(0, Houses.THINGS_OF_BUSY - 1);
    private static final int[] NO_BASKETS = Houses.outside(0, Houses.BASKETS_OF_BUSY - 1);
    private static final int[] NO_PERSONS = Houses.outside(0, 7);

    private static final Check check = new Check("EdgesTest");

    public static void main(String[] args) {
        busyHouseIsBusy();
        none();
        newObject();
        things();
        settings();
        basketsComeAndGo();
        daysGoBy();
        asking();
        kinOfThings();
        persons();
        listsAndShowings();
        explaining();
        check.finish();
    }

    private static void things() {
        noThingOfSuchASort();
        noThirteenthThing();
        stockOfNone();
        stockThatWasSo();
    }

    private static void settings() {
        setWhatIsNone();
        setWhatCannotBe();
        setTheSame();
        nobodyBecomesTiredByALimit();
        nextShowingCounts();
        apartOfNone();
        apartOfTheSame();
        apartThatWasSo();
    }

    private static void basketsComeAndGo() {
        basketThatCannotBe();
        basketInAFullHouse();
        dropOfNone();
        dropOfTheLastOne();
        forgetBaskets();
        forgetShowings();
        forgetLeavesOthers();
        forgetNone();
    }

    private static void daysGoBy() {
        dayAnswersTheNewOne();
        noDayBehindTheLast();
    }

    private static void asking() {
        lookAtAnother();
        lookAtStockAndNew();
        ofNone();
        ofAnother();
        countOfNone();
        countOfAnother();
        askingDoesNothing();
    }

    private static void kinOfThings() {
        kinOfNone();
        kinOfTheSame();
        nearGreatestFirst();
        nearOfLikeOnes();
        nearLeavesOutItself();
        nearOfNone();
    }

    private static void persons() {
        takenOfNone();
        scoreOfNone();
        mayOfNone();
    }

    private static void listsAndShowings() {
        listThatCannotBe();
        listSumOfAnEmptyOne();
        listIsWhatIsShown();
        showThatCannotBe();
        emptyListIsAShowing();
        shownStill();
        showingsOfPersonAlone();
        shownThatCannotBe();
    }

    private static void explaining() {
        whyGreatestKin();
        whyLeastOfSeveral();
        whyNothingTaken();
        whyItselfTaken();
        whyNone();
        whyAnother();
    }

    private static BasketHouse busy() {
        BasketHouse x = new BasketHouse();
        Houses.makeBusy(x);
        return x;
    }

    /** In a house full of life, each number as argument makes the call answer the same refusal and do nothing. */
    private static void refused(String call, int[] numbers, int answer, Call made) {
        for (int number : numbers) {
            check.due(call + " with " + number, made.by(busy(), number), answer);
        }
        Houses.nothingIsDone(check, Houses::makeBusy, x -> {
            for (int number : numbers) {
                made.by(x, number);
            }
        });
    }

    private interface Call {
        int by(BasketHouse house, int number);
    }

    private static int told(boolean answer) {
        return answer ? 1 : 0;
    }

    /** What the other tests build upon: nothing of it is as at first. */
    private static void busyHouseIsBusy() {
        check.about("a busy house");
        int[] look = {11, Houses.THINGS_OF_BUSY, Houses.BASKETS_OF_BUSY, 1, 3, 4, 2, 27, 24};
        BasketHouse x = busy();
        for (int what = 0; what < look.length; what++) {
            check.due("look " + what, x.look(what), look[what]);
        }
        check.due("tired", x.shown(0, 0, 1), 7);
        check.due("shown", x.shown(0, 1, 0), 1);
        check.due("showings", x.shown(0, -1, 2), 2);
    }

    private static void none() {
        check.about("`NONE = -1`");
        check.due("none", BasketHouse.NONE, -1);
    }

    private static void newObject() {
        check.about("Promise 1: No THINGS, DAY 0.");
        BasketHouse x = new BasketHouse();
        int[] first = {0, 0, 0, 2, 2, 3, 3, 0, 0};
        for (int what = 0; what < first.length; what++) {
            check.due("look " + what, x.look(what), first[what]);
        }
        check.due("stock", x.stock(0, false), false);
        check.due("apart", x.apart(0, 1, true), false);
        check.due("basket", x.basket(0, 1), -1);
        check.due("drop", x.drop(0), false);
        check.due("count", x.count(0, 0, 0), -1);
        check.due("kin", x.kin(0, 1), NO_NUMBER);
        check.due("near", x.near(0, 0), -1);
        check.due("score", x.score(0, 0), NO_NUMBER);
        check.due("shown", x.shown(0, 0, 0), -1);
        check.due("why", x.why(0, 0, 0), NO_NUMBER);
        for (int p = 0; p < 8; p++) {
            check.due("taken", x.taken(p), 0);
            check.due("may", x.may(p), 0);
            check.due("list", x.list(p, 5, 0), 0);
            check.due("forget", x.forget(p), 0);
            check.due("showings", x.shown(p, -1, 2), 0);
        }
    }

    private static void noThingOfSuchASort() {
        check.about("Promise 2: NONE, and nothing is done, if that can't be");
        refused("thing", Houses.outside(0, 3), -1, BasketHouse::thing);
        BasketHouse x = busy();
        x.thing(4);
        check.due("the next one's number", x.thing(3), Houses.THINGS_OF_BUSY);
    }

    private static void noThirteenthThing() {
        check.about("Promise 2: or there are 12");
        Consumer<BasketHouse> twelve = x -> {
            for (int n = 0; n < 12; n++) {
                x.thing(n % 4);
            }
            Houses.days(x, 10);
            x.stock(0, false);
            x.basket(0, 4095);
        };
        BasketHouse x = new BasketHouse();
        twelve.accept(x);
        check.due("twelve there may be", x.look(1), 12);
        for (int sort = -1; sort <= 4; sort++) {
            check.due("a thirteenth of sort " + sort, x.thing(sort), -1);
        }
        Houses.nothingIsDone(check, twelve, y -> y.thing(0));
    }

    private static void stockOfNone() {
        check.about("Promise 3: false if there is none such");
        refused("stock in", NO_THINGS, 0, (x, none) -> told(x.stock(none, true)));
        refused("stock out", NO_THINGS, 0, (x, none) -> told(x.stock(none, false)));
    }

    private static void stockThatWasSo() {
        check.about("Promise 3: or it was so");
        BasketHouse x = Houses.with(0, 1);
        check.due("in at first", x.stock(1, true), false);
        check.due("in still", x.look(7), 3);
        check.due("out", x.stock(1, false), true);
        check.due("is out", x.look(7), 1);
        check.due("it was out", x.stock(1, false), false);
        check.due("out still", x.look(7), 1);
        check.due("in", x.stock(1, true), true);
        check.due("is in", x.look(7), 3);
        check.due("it was in", x.stock(1, true), false);
    }

    private static void setWhatIsNone() {
        check.about("Promise 4: false, and nothing is done, if one can't be (the what)");
        // Two numbers: whatever a setting is in the busy house, one of them is another.
        refused("set to 1", Houses.outside(0, 3), 0, (x, what) -> told(x.set(what, 1)));
        refused("set to 2", Houses.outside(0, 3), 0, (x, what) -> told(x.set(what, 2)));
    }

    private static void setWhatCannotBe() {
        check.about("Promise 4: false, and nothing is done, if one can't be (the number)");
        int[] most = {4, 5, 9, 9};
        for (int what = 0; what < 4; what++) {
            int setting = what;
            refused("set " + what, Houses.outside(1, most[what]), 0, (x, v) -> told(x.set(setting, v)));
        }
    }

    private static void setTheSame() {
        check.about("Promise 4: What 0 GROUP, 1 SPREAD, 2 SHARE, 3 LIMIT is v: true");
        int[] first = {2, 2, 3, 3};
        for (int what = 0; what < 4; what++) {
            BasketHouse x = new BasketHouse();
            check.due("what it is already", x.set(what, first[what]), true);
            check.due("another", x.set(what, 1), true);
            for (int other = 0; other < 4; other++) {
                check.due("only that one", x.look(3 + other), other == what ? 1 : first[other]);
            }
        }
    }

    private static void nobodyBecomesTiredByALimit() {
        check.about("Promise 4: (Nobody becomes TIRED by another LIMIT");
        BasketHouse x = Houses.with(0, 1);
        x.show(0, 1);
        x.show(0, 1);
        for (int limit = 1; limit <= 2; limit++) {
            x.set(3, limit);
            check.due("not tired", x.shown(0, 0, 1), 0);
            check.due("shown as before", x.shown(0, 0, 0), 2);
            check.due("may be put up", x.may(0), 3);
        }
        x.set(3, 3);
        x.show(0, 1);
        check.due("tired by the third", x.shown(0, 0, 1), 7);
        x.set(3, 9);
        check.due("and not rested by another limit", x.shown(0, 0, 1), 7);
    }

    private static void nextShowingCounts() {
        check.about("Promise 4: the next SHOWING counts.)");
        for (int limit = 1; limit <= 3; limit++) {
            BasketHouse lower = Houses.with(0, 1);
            lower.show(0, 2);
            lower.show(0, 1);
            lower.set(3, limit);
            check.due("shown still", lower.show(0, 1), 1);
            check.due("tired by the next showing, limit " + limit, lower.shown(0, 0, 1), 7);
            check.due("shown", lower.shown(0, 0, 0), 0);
            check.due("what was not in it is not tired", lower.shown(0, 1, 1), 0);
        }
        BasketHouse higher = Houses.with(0, 1);
        higher.show(0, 1);
        higher.show(0, 1);
        higher.set(3, 4);
        higher.show(0, 1);
        check.due("not tired by the third", higher.shown(0, 0, 1), 0);
        check.due("shown three times", higher.shown(0, 0, 0), 3);
        higher.set(2, 9);
        higher.show(0, 1);
        check.due("tired by the fourth", higher.shown(0, 0, 1), 7);
    }

    private static void apartOfNone() {
        check.about("Promise 5: false, and nothing is done: none such");
        refused("apart of none and 1", NO_THINGS, 0, (x, none) -> told(x.apart(none, 1, true)));
        refused("apart of 1 and none", NO_THINGS, 0, (x, none) -> told(x.apart(1, none, true)));
        refused("together of none and 0", NO_THINGS, 0, (x, none) -> told(x.apart(none, 0, false)));
        refused("together of 0 and none", NO_THINGS, 0, (x, none) -> told(x.apart(0, none, false)));
        refused("apart of none and none", NO_THINGS, 0, (x, none) -> told(x.apart(none, none, true)));
        BasketHouse later = Houses.with(0, 1);
        later.apart(0, 2, true);
        later.thing(2);
        check.due("nothing was done for one that came later", later.list(0, 3, 0), 7);
    }

    private static void apartOfTheSame() {
        check.about("Promise 5: the same");
        BasketHouse x = Houses.with(0, 1);
        for (int same = 0; same < 2; same++) {
            check.due("apart from itself", x.apart(same, same, true), false);
            check.due("together with itself", x.apart(same, same, false), false);
        }
        check.due("nothing is done", x.list(0, 2, 0), 3);
    }

    private static void apartThatWasSo() {
        check.about("Promise 5: or it was so");
        BasketHouse x = Houses.with(0, 1, 2);
        check.due("together at first", x.apart(2, 0, false), false);
        check.due("apart", x.apart(2, 0, true), true);
        check.due("it was", x.apart(2, 0, true), false);
        check.due("it was, turned", x.apart(0, 2, true), false);
        check.due("apart still", x.list(0, 3, 0), 3);
        check.due("another pair was not", x.apart(2, 1, false), false);
        check.due("together, turned", x.apart(0, 2, false), true);
        check.due("they were", x.apart(2, 0, false), false);
        check.due("together still", x.list(0, 3, 0), 7);
    }

    private static void basketThatCannotBe() {
        check.about("Promise 6: NONE, and nothing is done, if one can't be");
        refused("basket of person", NO_PERSONS, -1, (x, none) -> x.basket(none, 2));
        refused("basket of set", Houses.outside(1, 31), -1, (x, none) -> x.basket(0, none));
        refused("basket with a thing that has not come", new int[] {2 + 32, 2 + 2048, 2 + 4096}, -1,
            (x, none) -> x.basket(0, none));
        BasketHouse out = Houses.with(0);
        out.stock(0, false);
        check.due("out of stock it can be", out.basket(0, 1), 0);
    }

    private static void basketInAFullHouse() {
        check.about("Promise 6: or there are 60");
        Consumer<BasketHouse> full = x -> {
            x.thing(0);
            x.thing(1);
            x.thing(2);
            Houses.fill(x, 4);
            x.set(3, 2);
            x.show(0, 2);
            x.show(0, 1);
        };
        BasketHouse x = new BasketHouse();
        full.accept(x);
        check.due("the sixty-first", x.basket(0, 3), -1);
        Houses.nothingIsDone(check, full, y -> y.basket(0, 3));
    }

    private static void dropOfNone() {
        check.about("Promise 7: false if there is none such");
        refused("drop", NO_BASKETS, 0, (x, none) -> told(x.drop(none)));
    }

    private static void dropOfTheLastOne() {
        check.about("Promise 7: BASKET i is taken back: true");
        BasketHouse x = Houses.with(0);
        x.basket(0, 1);
        check.due("the only one", x.drop(0), true);
        check.due("there is none now", x.drop(0), false);
        Houses.fill(x, 1);
        check.due("the sixtieth", x.drop(59), true);
        check.due("there is none such now", x.drop(59), false);
        check.due("the first", x.drop(0), true);
        check.due("all", x.look(2), 58);
        check.due("the first now is of person 1", x.of(0, 0), 1);
    }

    private static void forgetBaskets() {
        check.about("Promise 8: all their BASKETS go: how many BASKETS");
        BasketHouse x = Houses.with(0, 1);
        check.due("of one without any", x.forget(3), 0);
        Houses.fill(x, 3);
        check.due("of person 3", x.forget(3), 8);
        check.due("of person 7", x.forget(7), 7);
        check.due("again", x.forget(7), 0);
        check.due("all", x.look(2), 45);
        check.due("taken", x.taken(3), 0);
        check.due("people", x.count(0, 1, 1), 6);
        for (int i = 0; i < 45; i++) {
            check.due("of neither", x.of(i, 0) == 3 || x.of(i, 0) == 7, false);
        }
        BasketHouse alone = Houses.with(0);
        for (int n = 0; n < 60; n++) {
            alone.basket(0, 1);
        }
        check.due("all sixty", alone.forget(0), 60);
        check.due("none is left", alone.look(2), 0);
    }

    private static void forgetShowings() {
        check.about("Promise 8: SHOWINGS, SHOWN, TIRED are as at first");
        BasketHouse x = busy();
        check.due("how many", x.forget(0), 0);
        check.due("showings", x.shown(0, -1, 2), 0);
        for (int t = 0; t < Houses.THINGS_OF_BUSY; t++) {
            check.due("shown", x.shown(0, t, 0), 0);
            check.due("tired", x.shown(0, t, 1), 0);
        }
        check.due("may be put up", x.may(0), 27);
        check.due("the other person's", x.shown(7, -1, 2), 2);
        BasketHouse told = Houses.with(0);
        Houses.days(told, 10);
        told.thing(1);
        told.set(2, 2);
        told.show(0, 1);
        told.forget(0);
        check.due("the first showing again", told.show(0, 1), 1);
        check.due("and the second", told.show(0, 1), 2);
    }

    private static void forgetLeavesOthers() {
        check.about("Promise 8: PERSON p is forgotten");
        Houses.nothingIsDone(check, Houses::makeBusy, x -> {
            for (int p = 3; p < 7; p++) {
                x.forget(p);
            }
        });
        BasketHouse x = busy();
        check.due("how many of 2", x.forget(2), 2);
        check.due("shown to 0", x.shown(0, 1, 0), 1);
        check.due("tired for 0", x.shown(0, 0, 1), 7);
        check.due("taken by 1", x.taken(1), 3);
        check.due("taken by 7", x.taken(7), 4);
    }

    private static void forgetNone() {
        check.about("Promise 8: NONE if there is none such");
        refused("forget", NO_PERSONS, -1, BasketHouse::forget);
    }

    private static void dayAnswersTheNewOne() {
        check.about("Promise 9: A DAY goes by: the new one");
        BasketHouse x = new BasketHouse();
        check.due("the first", x.day(), 1);
        check.due("the second", x.day(), 2);
        check.due("it is", x.look(0), 2);
    }

    /** Beyond the 512 calls of the document: the last day can't be seen otherwise. */
    private static void noDayBehindTheLast() {
        check.about("Promise 9: NONE, and nothing is done, on the last");
        Consumer<BasketHouse> last = x -> {
            Houses.days(x, 9999 - 27);
            x.thing(0);
            x.basket(0, 1);
            Houses.days(x, 18);
            x.thing(1);
            Houses.days(x, 9);
            x.set(3, 1);
            x.show(1, 2);
        };
        BasketHouse x = new BasketHouse();
        last.accept(x);
        check.due("the last", x.look(0), 9999);
        check.due("behind it", x.day(), -1);
        check.due("behind it again", x.day(), -1);
        check.due("a basket on its last day stays", x.look(2), 1);
        check.due("new on its last day stays", x.look(8), 2);
        check.due("tired as before", x.shown(1, 0, 1), 7);
        Houses.nothingIsDone(check, last, y -> Houses.days(y, 9));
    }

    private static void lookAtAnother() {
        check.about("Promise 10: NONE for another what");
        refused("look", Houses.outside(0, 8), -1, BasketHouse::look);
    }

    private static void lookAtStockAndNew() {
        check.about("Promise 10: 7 the set of THINGS in STOCK, 8 that of NEW ones");
        BasketHouse x = Houses.with(0, 1);
        x.stock(0, false);
        check.due("in stock", x.look(7), 2);
        check.due("new, also out of stock", x.look(8), 3);
        x.basket(0, 2);
        check.due("new, also taken", x.look(8), 3);
        Houses.days(x, 10);
        check.due("in stock, also old", x.look(7), 2);
        check.due("none is new", x.look(8), 0);
        x.stock(1, false);
        check.due("none is in stock", x.look(7), 0);
    }

    private static void ofNone() {
        check.about("Promise 11: NONE if there is none such");
        for (int what = 0; what < 3; what++) {
            int asked = what;
            refused("of what " + what, NO_BASKETS, -1, (x, none) -> x.of(none, asked));
        }
        BasketHouse x = Houses.with(0);
        x.basket(0, 1);
        x.drop(0);
        check.due("one that is gone", x.of(0, 2), -1);
    }

    private static void ofAnother() {
        check.about("Promise 11: or another what");
        refused("of", Houses.outside(0, 2), -1, (x, what) -> x.of(0, what));
    }

    private static void countOfNone() {
        check.about("Promise 12: NONE if there are none such");
        for (int what = 0; what < 2; what++) {
            int asked = what;
            refused("count of none and 0", NO_THINGS, -1, (x, none) -> x.count(none, 0, asked));
            refused("count of 0 and none", NO_THINGS, -1, (x, none) -> x.count(0, none, asked));
            refused("count of none and none", NO_THINGS, -1, (x, none) -> x.count(none, none, asked));
        }
    }

    private static void countOfAnother() {
        check.about("Promise 12: or another what");
        refused("count", Houses.outside(0, 1), -1, (x, what) -> x.count(0, 1, what));
    }

    private static void askingDoesNothing() {
        check.about("Not promised: Nothing is promised beyond the answers and state changes described above");
        Houses.nothingIsDone(check, Houses::makeBusy, x -> {
            for (int n = 0; n < 5; n++) {
                x.look(n);
                x.of(n, 0);
                x.count(0, n, 1);
                x.kin(0, n);
                x.near(n, 0);
                x.taken(n);
                x.score(0, n);
                x.may(n);
                x.list(0, n, 0);
                x.list(7, n, 1);
                x.shown(0, n, 0);
                x.why(1, n, 1);
            }
        });
    }

    private static void kinOfNone() {
        check.about("Promise 13: NONE - 1000000 if there are none such");
        refused("kin of none and 0", NO_THINGS, NO_NUMBER, (x, none) -> x.kin(none, 0));
        refused("kin of 0 and none", NO_THINGS, NO_NUMBER, (x, none) -> x.kin(0, none));
    }

    private static void kinOfTheSame() {
        check.about("Promise 13: or the same");
        BasketHouse x = busy();
        for (int same = 0; same < Houses.THINGS_OF_BUSY; same++) {
            check.due("kin to itself", x.kin(same, same), NO_NUMBER);
        }
        for (int none : NO_THINGS) {
            check.due("kin of none to itself", x.kin(none, none), NO_NUMBER);
        }
    }

    /** Kin to thing 2: 900 of 4, 266 each of 0 and 3, 0 of 5, -620 of 1. */
    private static BasketHouse ranked() {
        BasketHouse x = Houses.with(0, 1, 2, 3, 0, 1);
        x.set(0, 1);
        Houses.baskets(x, 0, 4);
        Houses.baskets(x, 1, 4 + 16, 16, 4 + 1, 1, 1, 4 + 8, 8, 8, 4 + 2, 2, 2, 2, 2, 2, 2, 2, 2, 2);
        return x;
    }

    private static void nearGreatestFirst() {
        check.about("Promise 14: by their KIN to THING a (the greatest first)");
        BasketHouse x = ranked();
        int[] kin = {266, -620, NO_NUMBER, 266, 900, 0};
        for (int b = 0; b < kin.length; b++) {
            check.due("kin to " + b, x.kin(2, b), kin[b]);
        }
        check.due("the first", x.near(2, 0), 4);
        check.due("one without kin before one below chance", x.near(2, 3), 5);
        check.due("the last", x.near(2, 4), 1);
    }

    private static void nearOfLikeOnes() {
        check.about("Promise 14: of like ones the least number");
        BasketHouse x = ranked();
        check.due("the lesser of two", x.near(2, 1), 0);
        check.due("the greater of two", x.near(2, 2), 3);
        BasketHouse alike = Houses.with(0, 0, 0, 0, 0, 0, 0, 0, 0, 0, 0, 0);
        for (int i = 0; i < 11; i++) {
            check.due("all alike", alike.near(11, i), i);
        }
    }

    private static void nearLeavesOutItself() {
        check.about("Promise 14: a itself left out");
        BasketHouse x = Houses.with(0, 0, 0, 0, 0, 0, 0, 0, 0, 0, 0, 0);
        for (int a = 0; a < 12; a++) {
            for (int i = 0; i < 11; i++) {
                check.due("near " + a + ", " + i, x.near(a, i), i < a ? i : i + 1);
            }
            check.due("no twelfth", x.near(a, 11), -1);
        }
        check.due("the only thing", Houses.with(0).near(0, 0), -1);
    }

    private static void nearOfNone() {
        check.about("Promise 14: NONE if there is none such");
        refused("near of thing", NO_THINGS, -1, (x, none) -> x.near(none, 0));
        refused("near, the i-th", Houses.outside(0, Houses.THINGS_OF_BUSY - 2), -1, (x, none) -> x.near(0, none));
        BasketHouse x = busy();
        check.due("the last there is", x.near(0, Houses.THINGS_OF_BUSY - 2) >= 0, true);
    }

    private static void takenOfNone() {
        check.about("Promise 15: NONE if there is no such PERSON");
        refused("taken", NO_PERSONS, -1, BasketHouse::taken);
        check.due("of one without baskets", busy().taken(6), 0);
    }

    private static void scoreOfNone() {
        check.about("Promise 16: NONE - 1000000 if one is none");
        refused("score of person", NO_PERSONS, NO_NUMBER, (x, none) -> x.score(none, 0));
        refused("score of thing", NO_THINGS, NO_NUMBER, (x, none) -> x.score(1, none));
        refused("score of both", NO_PERSONS, NO_NUMBER, (x, none) -> x.score(none, none));
    }

    private static void mayOfNone() {
        check.about("Promise 17: NONE if there is none such");
        refused("may", NO_PERSONS, -1, BasketHouse::may);
        check.due("nothing may", new BasketHouse().may(7), 0);
    }

    private static void listThatCannotBe() {
        check.about("Promise 18: NONE - 1000000 if one can't be");
        for (int what = 0; what < 2; what++) {
            int asked = what;
            refused("list of person", NO_PERSONS, NO_NUMBER, (x, none) -> x.list(none, 1, asked));
            refused("list of at most", Houses.outside(1, 5), NO_NUMBER, (x, none) -> x.list(0, none, asked));
        }
        refused("list, what", Houses.outside(0, 1), NO_NUMBER, (x, what) -> x.list(0, 1, what));
    }

    private static void listSumOfAnEmptyOne() {
        check.about("Promise 18: what 0 the set, 1 the sum of SCORES");
        BasketHouse x = ranked();
        check.due("the set", x.list(0, 1, 0), 16);
        check.due("the sum", x.list(0, 1, 1), 900);
        x.basket(0, 63);
        check.due("the empty set", x.list(0, 5, 0), 0);
        check.due("the sum of none", x.list(0, 5, 1), 0);
    }

    private static void listIsWhatIsShown() {
        check.about("Promise 19: It is SHOWN: the set");
        for (int k = 1; k <= 5; k++) {
            for (int p = 0; p < 8; p++) {
                BasketHouse x = busy();
                int due = x.list(p, k, 0);
                check.due("show " + k + " to " + p, x.show(p, k), due);
            }
        }
        BasketHouse x = busy();
        x.show(7, 5);
        check.due("a showing more", x.shown(7, -1, 2), 3);
    }

    private static void showThatCannotBe() {
        check.about("Promise 19: NONE, and nothing is done, if one can't be");
        refused("show to person", NO_PERSONS, -1, (x, none) -> x.show(none, 1));
        refused("show at most", Houses.outside(1, 5), -1, (x, none) -> x.show(0, none));
    }

    private static void emptyListIsAShowing() {
        check.about("Promise 19: (An empty LIST is a SHOWING, too.)");
        BasketHouse x = new BasketHouse();
        for (int n = 1; n <= 5; n++) {
            check.due("an empty list", x.show(0, n), 0);
            check.due("showings", x.shown(0, -1, 2), n);
        }
        x.thing(0);
        Houses.days(x, 10);
        x.thing(1);
        check.due("the sixth has a new one", x.show(0, 1), 2);
        check.due("the seventh does not need one", x.show(0, 1), 1);
    }

    private static void shownStill() {
        check.about("Promise 20: 1 for how many DAYS it is TIRED still (0)");
        BasketHouse x = Houses.with(0, 1);
        x.set(3, 1);
        check.due("never tired", x.shown(0, 0, 1), 0);
        x.show(0, 1);
        check.due("on its first day", x.shown(0, 0, 1), 7);
        Houses.days(x, 6);
        check.due("on its last day", x.shown(0, 0, 1), 1);
        x.day();
        check.due("behind it", x.shown(0, 0, 1), 0);
        Houses.days(x, 30);
        check.due("long behind it", x.shown(0, 0, 1), 0);
        check.due("the other thing", x.shown(0, 1, 1), 0);
    }

    private static void showingsOfPersonAlone() {
        check.about("Promise 20: of p alone (x -1): 2 how many SHOWINGS");
        BasketHouse x = busy();
        check.due("alone", x.shown(7, -1, 2), 2);
        check.due("without any", x.shown(5, -1, 2), 0);
        for (int thing = 0; thing < 12; thing++) {
            check.due("with thing " + thing, x.shown(7, thing, 2), -1);
        }
        check.due("alone, how often shown", x.shown(7, -1, 0), -1);
        check.due("alone, tired", x.shown(7, -1, 1), -1);
    }

    private static void shownThatCannotBe() {
        check.about("Promise 20: NONE if one can't be");
        for (int what = 0; what < 2; what++) {
            int asked = what;
            refused("shown to person, what " + what, NO_PERSONS, -1, (x, none) -> x.shown(none, 0, asked));
            refused("shown of thing, what " + what, NO_THINGS, -1, (x, none) -> x.shown(0, none, asked));
        }
        refused("showings of person", NO_PERSONS, -1, (x, none) -> x.shown(none, -1, 2));
        refused("showings with x", Houses.outside(-1, -1), -1, (x, none) -> x.shown(0, none, 2));
        refused("shown, what", Houses.outside(0, 1), -1, (x, what) -> x.shown(0, 0, what));
        refused("shown of p alone, what", Houses.outside(2, 2), -1, (x, what) -> x.shown(0, -1, what));
    }

    private static void whyGreatestKin() {
        check.about("Promise 21: the TAKEN THING of the greatest KIN");
        BasketHouse x = ranked();
        Houses.baskets(x, 2, 16 + 2, 8);
        int[] kin = {x.kin(2, 1), x.kin(2, 3), x.kin(2, 4)};
        check.due("the greatest is that to 4", kin[2] > kin[1] && kin[1] > kin[0], true);
        check.due("its number", x.why(2, 2, 0), 4);
        check.due("kin", x.why(2, 2, 1), kin[2]);
        check.due("both", x.why(2, 2, 2), x.count(2, 4, 0));
        check.due("not one that is not taken", x.why(1, 5, 0), 0);
        BasketHouse below = ranked();
        below.basket(3, 2);
        check.due("the only one, below chance", below.why(3, 2, 0), 1);
        check.due("kin below chance", below.why(3, 2, 1), below.kin(2, 1));
        check.due("both below chance", below.why(3, 2, 2), 1);
        Houses.baskets(below, 3, 32);
        check.due("one without kin before one below chance", below.why(3, 2, 0), 5);
        check.due("kin 0", below.why(3, 2, 1), 0);
        check.due("both 0", below.why(3, 2, 2), 0);
    }

    private static void whyLeastOfSeveral() {
        check.about("Promise 21: (the least of several)");
        BasketHouse x = ranked();
        x.stock(0, false);
        x.basket(2, 8);
        x.basket(3, 1);
        x.basket(2, 1);
        x.basket(3, 8);
        check.due("alike", x.kin(2, 0), x.kin(2, 3));
        check.due("the least, taken last", x.why(2, 2, 0), 0);
        check.due("the least, taken first", x.why(3, 2, 0), 0);
        BasketHouse noKin = Houses.with(0, 1, 2, 3);
        noKin.basket(0, 14);
        check.due("all without kin", noKin.why(0, 0, 0), 1);
        check.due("of a taken one", noKin.why(0, 1, 0), 2);
        check.due("below the group, both", noKin.why(0, 1, 2), 1);
        check.due("below the group, kin", noKin.why(0, 1, 1), 0);
    }

    private static void whyNothingTaken() {
        check.about("Promise 21: NONE - 1000000 if nothing is TAKEN");
        BasketHouse x = ranked();
        for (int what = 0; what < 3; what++) {
            check.due("nothing taken, what " + what, x.why(7, 2, what), NO_NUMBER);
        }
        x.basket(7, 1);
        check.due("something taken", x.why(7, 2, 0), 0);
        x.forget(7);
        check.due("nothing taken again", x.why(7, 2, 0), NO_NUMBER);
    }

    private static void whyItselfTaken() {
        check.about("Promise 21: (but x itself)");
        BasketHouse x = ranked();
        for (int what = 0; what < 3; what++) {
            check.due("only itself taken, what " + what, x.why(0, 2, what), NO_NUMBER);
        }
        check.due("another thing", x.why(0, 0, 0), 2);
        x.basket(0, 2);
        check.due("itself and another", x.why(0, 2, 0), 1);
    }

    private static void whyNone() {
        check.about("Promise 21: one is none");
        for (int what = 0; what < 3; what++) {
            int asked = what;
            refused("why of person", NO_PERSONS, NO_NUMBER, (x, none) -> x.why(none, 0, asked));
            refused("why of thing", NO_THINGS, NO_NUMBER, (x, none) -> x.why(1, none, asked));
        }
    }

    private static void whyAnother() {
        check.about("Promise 21: or another what");
        refused("why", Houses.outside(0, 2), NO_NUMBER, (x, what) -> x.why(1, 3, what));
        check.due("a what that is", busy().why(1, 3, 0), 0);
    }
}
