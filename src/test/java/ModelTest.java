import java.util.Random;

/** Long runs of mixed calls, right and wrong ones, on the program and on the model: their answers are alike. */
public final class ModelTest {
    private static final int RUNS = 120;
    private static final int CALLS = 512;
    private static final int[] WILD = {Integer.MIN_VALUE, -1000, -2, -1, 12, 31, 32, 33, 60, 4096, Integer.MAX_VALUE};

    private final Check check;
    private final Random random;
    private final BasketHouse house = new BasketHouse();
    private final Model model = new Model();
    private final int persons;
    private final int daysInTen;

    private ModelTest(Check check, int seed) {
        this.check = check;
        // A fixed seed for each run: the same calls each time.
        random = new Random(seed);
        persons = 2 + random.nextInt(7);
        daysInTen = random.nextInt(4);
    }

    public static void main(String[] args) {
        Check check = new Check("ModelTest");
        for (int seed = 0; seed < RUNS && check.allRight(); seed++) {
            new ModelTest(check, seed).run(seed);
        }
        check.finish();
    }

    private void run(int seed) {
        for (int n = 0; n < CALLS && check.allRight(); n++) {
            String place = "run " + seed + ", call " + n + ": ";
            if (n < 4 || n % 40 == 0) {
                things(place);
            } else if (random.nextInt(10) < 4) {
                ask(place);
            } else {
                change(place);
            }
        }
    }

    /** A number from 0 up to below the bound, or now and then any other. */
    private int upTo(int bound) {
        if (random.nextInt(40) == 0) {
            return WILD[random.nextInt(WILD.length)];
        }
        return random.nextInt(30) == 0 ? bound : random.nextInt(bound);
    }

    private int person() {
        return random.nextInt(20) == 0 ? upTo(8) : upTo(persons);
    }

    private int thing() {
        return upTo(Math.max(1, house.look(1)));
    }

    private int setOfThings() {
        int all = 1 << Math.max(1, house.look(1));
        int set = upTo(all);
        return random.nextInt(3) == 0 ? set : set & random.nextInt(all);
    }

    private void things(String place) {
        int sort = upTo(4);
        check.due(place + "thing(" + sort + ")", house.thing(sort), model.thing(sort));
    }

    private void change(String place) {
        int kind = random.nextInt(20);
        if (kind < 7) {
            int p = person();
            int set = setOfThings();
            check.due(place + "basket(" + p + ", " + set + ")", house.basket(p, set), model.basket(p, set));
        } else if (kind < 13) {
            int p = person();
            int k = 1 + upTo(5);
            check.due(place + "show(" + p + ", " + k + ")", house.show(p, k), model.show(p, k));
        } else if (kind < 15) {
            for (int n = 0; n < daysInTen; n++) {
                check.due(place + "day()", house.day(), model.day());
            }
        } else {
            changeSeldom(place, kind);
        }
    }

    private void changeSeldom(String place, int kind) {
        boolean is = random.nextBoolean();
        int a = thing();
        int b = thing();
        if (kind == 15) {
            check.due(place + "stock(" + a + ", " + is + ")", house.stock(a, is), model.stock(a, is));
        } else if (kind == 16) {
            check.due(place + "apart(" + a + ", " + b + ", " + is + ")", house.apart(a, b, is), model.apart(a, b, is));
        } else if (kind == 17) {
            int what = upTo(4);
            int v = upTo(10);
            check.due(place + "set(" + what + ", " + v + ")", house.set(what, v), model.set(what, v));
        } else if (kind == 18) {
            int i = upTo(Math.max(1, house.look(2)));
            check.due(place + "drop(" + i + ")", house.drop(i), model.drop(i));
        } else if (random.nextInt(3) == 0) {
            int p = person();
            check.due(place + "forget(" + p + ")", house.forget(p), model.forget(p));
        }
    }

    private void ask(String place) {
        int p = person();
        int a = thing();
        int b = thing();
        switch (random.nextInt(11)) {
            case 0 -> {
                int what = upTo(9);
                check.due(place + "look(" + what + ")", house.look(what), model.look(what));
            }
            case 1 -> {
                int i = upTo(Math.max(1, house.look(2)));
                int what = upTo(3);
                check.due(place + "of(" + i + ", " + what + ")", house.of(i, what), model.of(i, what));
            }
            case 2 -> {
                int what = upTo(2);
                check.due(place + "count(" + a + ", " + b + ", " + what + ")",
                    house.count(a, b, what), model.count(a, b, what));
            }
            case 3 -> check.due(place + "kin(" + a + ", " + b + ")", house.kin(a, b), model.kin(a, b));
            case 4 -> check.due(place + "near(" + a + ", " + b + ")", house.near(a, b), model.near(a, b));
            case 5 -> check.due(place + "taken(" + p + ")", house.taken(p), model.taken(p));
            case 6 -> check.due(place + "score(" + p + ", " + a + ")", house.score(p, a), model.score(p, a));
            case 7 -> check.due(place + "may(" + p + ")", house.may(p), model.may(p));
            case 8 -> {
                int k = 1 + upTo(5);
                int what = upTo(2);
                check.due(place + "list(" + p + ", " + k + ", " + what + ")",
                    house.list(p, k, what), model.list(p, k, what));
            }
            case 9 -> {
                int what = upTo(3);
                int x = what == 2 && random.nextInt(4) > 0 ? -1 : a;
                check.due(place + "shown(" + p + ", " + x + ", " + what + ")",
                    house.shown(p, x, what), model.shown(p, x, what));
            }
            default -> {
                int what = upTo(3);
                check.due(place + "why(" + p + ", " + a + ", " + what + ")",
                    house.why(p, a, what), model.why(p, a, what));
            }
        }
    }
}
