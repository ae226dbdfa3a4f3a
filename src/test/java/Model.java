import java.util.ArrayList;
import java.util.HashSet;
import java.util.List;
import java.util.Set;
import java.util.TreeSet;
import java.util.stream.Collectors;

/**
 * The document told a second time, in another way: sets are sets, and what was shown is not counted
 * along but found again in a log of all that happened. Slow, and only to compare with.
 */
final class Model {
    private static final int NO_NUMBER = -1000001;

    private record Thing(int sort, int came) { }

    private record Basket(int person, int day, Set<Integer> things) { }

    /** A happening to one thing for one person: it was shown, tired or taken on a day. */
    private record Happening(String kind, int person, int thing, int day) { }

    private final List<Thing> things = new ArrayList<>();
    private final Set<Integer> stock = new TreeSet<>();
    private final Set<Set<Integer>> apart = new HashSet<>();
    private final List<Happening> log = new ArrayList<>();
    private final List<Integer> showings = new ArrayList<>();
    private final int[] settings = {2, 2, 3, 3};
    private List<Basket> baskets = new ArrayList<>();
    private int today;

    private static int number(Set<Integer> set) {
        return set.stream().mapToInt(x -> (int) Math.pow(2, x)).sum();
    }

    private boolean noThing(int x) {
        return x < 0 || x >= things.size();
    }

    private static boolean noPerson(int p) {
        return p < 0 || p > 7;
    }

    int thing(int sort) {
        if (sort < 0 || sort > 3 || things.size() == 12) {
            return -1;
        }
        things.add(new Thing(sort, today));
        stock.add(things.size() - 1);
        return things.size() - 1;
    }

    boolean stock(int x, boolean is) {
        if (noThing(x)) {
            return false;
        }
        return is ? stock.add(x) : stock.remove(x);
    }

    boolean set(int what, int v) {
        if (what < 0 || what > 3) {
            return false;
        }
        int most = what == 0 ? 4 : what == 1 ? 5 : 9;
        if (v < 1 || v > most) {
            return false;
        }
        settings[what] = v;
        return true;
    }

    boolean apart(int a, int b, boolean is) {
        if (noThing(a) || noThing(b) || a == b) {
            return false;
        }
        return is ? apart.add(Set.of(a, b)) : apart.remove(Set.of(a, b));
    }

    int basket(int p, int set) {
        Set<Integer> held = new TreeSet<>();
        for (int x = 0; x < 32; x++) {
            if ((set & 1 << x) != 0) {
                held.add(x);
            }
        }
        if (noPerson(p) || held.isEmpty() || held.stream().anyMatch(this::noThing) || baskets.size() == 60) {
            return -1;
        }
        baskets.add(new Basket(p, today, held));
        held.forEach(x -> log.add(new Happening("taken", p, x, today)));
        return baskets.size() - 1;
    }

    boolean drop(int i) {
        if (i < 0 || i >= baskets.size()) {
            return false;
        }
        baskets.remove(i);
        return true;
    }

    int forget(int p) {
        if (noPerson(p)) {
            return -1;
        }
        int before = baskets.size();
        baskets.removeIf(b -> b.person == p);
        log.removeIf(h -> h.person == p);
        showings.removeIf(q -> q == p);
        return before - baskets.size();
    }

    int day() {
        if (today == 9999) {
            return -1;
        }
        today++;
        baskets = baskets.stream().filter(b -> today < b.day + 28).collect(Collectors.toCollection(ArrayList::new));
        return today;
    }

    private Set<Integer> fresh() {
        Set<Integer> found = new TreeSet<>();
        for (int x = 0; x < things.size(); x++) {
            int last = things.get(x).came + 9;
            if (today <= last) {
                found.add(x);
            }
        }
        return found;
    }

    int look(int what) {
        if (what >= 3 && what <= 6) {
            return settings[what - 3];
        }
        return what == 0 ? today
            : what == 1 ? things.size()
            : what == 2 ? baskets.size()
            : what == 7 ? number(stock)
            : what == 8 ? number(fresh()) : -1;
    }

    int of(int i, int what) {
        if (i < 0 || i >= baskets.size()) {
            return -1;
        }
        Basket b = baskets.get(i);
        return what == 0 ? b.person : what == 1 ? b.day : what == 2 ? number(b.things) : -1;
    }

    int count(int a, int b, int what) {
        if (noThing(a) || noThing(b)) {
            return -1;
        }
        List<Basket> with = baskets.stream().filter(k -> k.things.contains(a) && k.things.contains(b)).toList();
        return what == 0 ? with.size()
            : what == 1 ? (int) with.stream().map(Basket::person).distinct().count() : -1;
    }

    int kin(int a, int b) {
        if (noThing(a) || noThing(b) || a == b) {
            return NO_NUMBER;
        }
        long ofA = count(a, a, 0);
        long ofB = count(b, b, 0);
        if (ofA == 0 || ofB == 0 || count(a, b, 1) < settings[0]) {
            return 0;
        }
        return (int) (Math.floorDiv(1000L * count(a, b, 0) * baskets.size(), ofA * ofB) - 1000);
    }

    int near(int a, int i) {
        if (noThing(a)) {
            return -1;
        }
        List<Integer> others = new ArrayList<>();
        for (int x = 0; x < things.size(); x++) {
            if (x != a) {
                others.add(x);
            }
        }
        others.sort((x, y) -> kin(a, x) != kin(a, y) ? kin(a, y) - kin(a, x) : x - y);
        return i >= 0 && i < others.size() ? others.get(i) : -1;
    }

    private Set<Integer> takenSet(int p) {
        Set<Integer> all = new TreeSet<>();
        baskets.stream().filter(b -> b.person == p).forEach(b -> all.addAll(b.things));
        return all;
    }

    int taken(int p) {
        return noPerson(p) ? -1 : number(takenSet(p));
    }

    int score(int p, int x) {
        if (noPerson(p) || noThing(x)) {
            return NO_NUMBER;
        }
        return takenSet(p).stream().filter(t -> t != x).mapToInt(t -> kin(x, t)).sum();
    }

    private Set<Integer> maySet(int p) {
        Set<Integer> all = new TreeSet<>(stock);
        all.removeAll(takenSet(p));
        all.removeIf(x -> shown(p, x, 1) > 0);
        return all;
    }

    int may(int p) {
        return noPerson(p) ? -1 : number(maySet(p));
    }

    private boolean keepsRules(Set<Integer> set) {
        if (apart.stream().anyMatch(set::containsAll)) {
            return false;
        }
        return set.stream().allMatch(x -> set.stream()
            .filter(y -> things.get(y).sort == things.get(x).sort).count() <= settings[1]);
    }

    private int sum(int p, Set<Integer> set) {
        return set.stream().mapToInt(x -> score(p, x)).sum();
    }

    /** Takes or leaves each candidate in turn, from the greatest to the least, and keeps every end. */
    private void grow(List<Integer> candidates, int at, int k, Set<Integer> set, List<Set<Integer>> ends) {
        if (!keepsRules(set)) {
            return;
        }
        if (at < 0) {
            ends.add(new TreeSet<>(set));
            return;
        }
        if (set.size() < k) {
            set.add(candidates.get(at));
            grow(candidates, at - 1, k, set, ends);
            set.remove(candidates.get(at));
        }
        grow(candidates, at - 1, k, set, ends);
    }

    private Set<Integer> best(int p, int k) {
        Set<Integer> may = maySet(p);
        Set<Integer> wanted = fresh();
        wanted.retainAll(may);
        boolean told = (shown(p, -1, 2) + 1) % settings[2] == 0 && !wanted.isEmpty();
        List<Set<Integer>> ends = new ArrayList<>();
        grow(new ArrayList<>(may), may.size() - 1, k, new TreeSet<>(), ends);
        if (told) {
            ends.removeIf(s -> s.stream().noneMatch(wanted::contains));
        }
        int size = ends.stream().mapToInt(Set::size).max().orElse(0);
        ends.removeIf(s -> s.size() != size);
        int most = ends.stream().mapToInt(s -> sum(p, s)).max().orElse(0);
        ends.removeIf(s -> sum(p, s) != most);
        ends.sort((s, t) -> number(s) - number(t));
        return ends.isEmpty() ? Set.of() : ends.get(0);
    }

    int list(int p, int k, int what) {
        if (noPerson(p) || k < 1 || k > 5 || what < 0 || what > 1) {
            return NO_NUMBER;
        }
        Set<Integer> best = best(p, k);
        return what == 0 ? number(best) : sum(p, best);
    }

    int show(int p, int k) {
        if (noPerson(p) || k < 1 || k > 5) {
            return -1;
        }
        Set<Integer> best = best(p, k);
        showings.add(p);
        for (int x : best) {
            log.add(new Happening("shown", p, x, today));
            if (shown(p, x, 0) >= settings[3]) {
                log.add(new Happening("tired", p, x, today));
            }
        }
        return number(best);
    }

    int shown(int p, int x, int what) {
        if (noPerson(p)) {
            return -1;
        }
        if (what == 2) {
            return x == -1 ? (int) showings.stream().filter(q -> q == p).count() : -1;
        }
        if (noThing(x) || what < 0 || what > 2) {
            return -1;
        }
        int times = 0;
        int tired = 0;
        for (Happening h : log) {
            if (h.person == p && h.thing == x) {
                times = h.kind.equals("shown") ? times + 1 : 0;
                tired = h.kind.equals("taken") ? 0 : h.kind.equals("tired") ? h.day + 7 - today : tired;
            }
        }
        return what == 0 ? times : tired > 0 ? tired : 0;
    }

    int why(int p, int x, int what) {
        if (noPerson(p) || noThing(x) || what < 0 || what > 2) {
            return NO_NUMBER;
        }
        Set<Integer> others = takenSet(p);
        others.remove(x);
        if (others.isEmpty()) {
            return NO_NUMBER;
        }
        int most = others.stream().mapToInt(t -> kin(x, t)).max().getAsInt();
        int reason = others.stream().filter(t -> kin(x, t) == most).findFirst().get();
        return what == 0 ? reason : what == 1 ? most : count(x, reason, 0);
    }
}
