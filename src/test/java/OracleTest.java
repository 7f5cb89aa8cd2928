import java.lang.reflect.Method;
import java.lang.reflect.Modifier;
import java.math.BigInteger;
import java.util.ArrayList;
import java.util.Arrays;
import java.util.List;
import java.util.Map;
import java.util.Random;
import java.util.TreeMap;

/** Long runs of drawn calls on ForkInn and on a second, slower program for the same document: all answers agree. */
public final class OracleTest {
    private static final int RUNS = 400;
    private static final int CALLS = 512;

    /** For each call how many values each of its arguments may have, from 0 on. */
    private static final Map<String, int[]> RANGES = new TreeMap<>();

    static {
        String[] rows = {"list 6 6 8", "listed 6", "dish 7 12 12", "guest 100", "of 8 6", "change 8 6 100",
            "ofGuest 6 5", "seat 6 5 100", "would 6 8 4", "eat 6 8", "go 61", "now 8", "ahead 6 5 101",
            "served 8 101", "when 6 12", "owes 6 300", "part 6 6", "dishFor 6 61", "kindFor 8 61",
            "bentFor 6 12 61", "courses 6 12", "strike 6 12 21", "fits 4 6", "kinds 4 8 6", "coach 21",
            "odds 6 8 10 2", "seed 1000", "feed 256 5", "wipe", "text", "hold 10 8", "as 10 7", "sheet 4 33 41",
            "write 4 8 12", "copy 4 4 4 4 5", "load 4", "judge 4", "image", "undo", "tear", "count 8", "status 7"};
        for (String row : rows) {
            String[] parts = row.split(" ");
            int[] ranges = new int[parts.length - 1];
            for (int k = 0; k < ranges.length; k++) {
                ranges[k] = Integer.parseInt(parts[k + 1]);
            }
            RANGES.put(parts[0], ranges);
        }
    }

    public static void main(String[] args) throws Exception {
        List<Method> calls = publicCalls();
        Map<String, Integer> plain = new TreeMap<>();
        for (int run = 0; run < RUNS; run++) {
            if (!agree(run, calls, plain)) {
                System.exit(1);
            }
        }
        for (Method call : calls) {
            if (plain.getOrDefault(call.getName(), 0) < 20) {
                System.out.println(call.getName() + " hardly ever answered anything but a finding: " + plain);
                System.exit(1);
            }
        }
        System.out.println(RUNS + " runs of " + CALLS + " calls agree");
    }

    private static List<Method> publicCalls() {
        List<Method> calls = new ArrayList<>();
        for (Method m : ForkInn.class.getDeclaredMethods()) {
            if (Modifier.isPublic(m.getModifiers())) {
                calls.add(m);
            }
        }
        calls.sort((a, b) -> a.getName().compareTo(b.getName()));
        if (calls.size() != RANGES.size()) {
            throw new IllegalStateException("a call has no row of ranges");
        }
        return calls;
    }

    private static boolean agree(int run, List<Method> calls, Map<String, Integer> plain) throws Exception {
        Random random = new Random(run);
        ForkInn inn = new ForkInn();
        Model model = new Model();
        List<String> log = new ArrayList<>();
        ArrayList<Object[]> waiting = new ArrayList<>();
        for (int k = 0; k < CALLS; k++) {
            if (waiting.isEmpty()) {
                plan(random, k, calls, waiting);
            }
            Object[] step = waiting.remove(0);
            Method call = (Method) step[0];
            Object[] values = (Object[]) step[1];
            long want = ((Number) Model.class.getDeclaredMethod(call.getName(), call.getParameterTypes())
                .invoke(model, values)).longValue();
            long got = ((Number) call.invoke(inn, values)).longValue();
            log.add(call.getName() + Arrays.toString(values) + " -> " + got);
            if (got != want) {
                System.out.println("run " + run + ", due is " + want + " at the end of:");
                log.forEach(System.out::println);
                return false;
            }
            if (got > -1000001 || got < -1000007) {
                plain.merge(call.getName(), 1, Integer::sum);
            }
        }
        return true;
    }

    /** The next call, or a whole text, byte by byte. */
    private static void plan(Random random, int k, List<Method> calls, List<Object[]> waiting) {
        if (k < 120 && random.nextInt(3) == 0 || random.nextInt(60) == 0) {
            Method feed = null;
            Method text = null;
            for (Method m : calls) {
                feed = m.getName().equals("feed") ? m : feed;
                text = m.getName().equals("text") ? m : text;
            }
            String told = drawText(random);
            for (int i = 0; i < told.length(); i += 4) {
                int n = Math.min(4, told.length() - i);
                int bytes = random.nextInt();
                for (int j = 0; j < n; j++) {
                    bytes = bytes << 8 | told.charAt(i + j);
                }
                waiting.add(new Object[] {feed, new Object[] {bytes, n}});
            }
            waiting.add(new Object[] {text, new Object[] {}});
            return;
        }
        Method call = calls.get(random.nextInt(calls.size()));
        int[] ranges = RANGES.get(call.getName());
        Object[] values = new Object[ranges.length];
        for (int i = 0; i < ranges.length; i++) {
            values[i] = drawValue(random, ranges[i]);
        }
        if (call.getName().equals("sheet") && random.nextInt(20) != 0) {
            values[1] = new int[] {8, 8, 16, 32, 32, 0}[random.nextInt(6)];
            values[2] = random.nextInt(4) == 0 ? values[2] : (Object) random.nextInt(7);
        }
        if (call.getName().equals("write") && random.nextInt(3) == 0) {
            values[2] = random.nextBoolean() ? -1 : random.nextInt();
        }
        if (call.getName().equals("hold") && random.nextInt(4) == 0) {
            values[1] = -1;
        }
        waiting.add(new Object[] {call, values});
    }

    private static int drawValue(Random random, int range) {
        switch (random.nextInt(60)) {
            case 0:
                return -1;
            case 1:
                return range;
            case 2:
                return random.nextInt();
            case 3:
                return random.nextBoolean() ? Integer.MAX_VALUE : Integer.MIN_VALUE;
            case 4:
                return random.nextInt(100001);
            case 5:
            case 6:
                return Math.min(range - 1, random.nextInt(3));
            default:
                return random.nextInt(range);
        }
    }

    private static final String[] WORDS = {"dish", "pie", "roast", "joint", "trifle", "mutton", "peas", "guest",
        "meal", "price", "served", "off", "for", ";", "soup", "12", "0", ".", " ", "99", "10000"};

    private static String drawText(Random random) {
        StringBuilder text = new StringBuilder();
        int items = 1 + random.nextInt(4);
        for (int k = 0; k < items; k++) {
            text.append(k == 0 ? "" : random.nextBoolean() ? ";" : " ; ").append(drawItem(random));
        }
        while (random.nextInt(4) == 0) {
            int place = random.nextInt(text.length() + 1);
            if (random.nextBoolean()) {
                text.insert(place, WORDS[random.nextInt(WORDS.length)]);
            } else {
                text.setLength(place);
            }
        }
        if (text.length() > 120) {
            text.setLength(120);
        }
        return text.toString();
    }

    private static String drawItem(Random random) {
        int which = random.nextInt(10);
        if (which < 3) {
            return "guest " + random.nextInt(100) + (random.nextBoolean() ? " for " + random.nextInt(12) : "");
        }
        if (which < 6) {
            return "meal " + random.nextInt(6) + " " + random.nextInt(4) + " " + random.nextInt(6);
        }
        return WORDS[random.nextInt(7)] + " " + random.nextInt(12) + " " + random.nextInt(12)
            + (random.nextBoolean() ? " price " + random.nextInt(100) : "")
            + (random.nextInt(3) == 0 ? "served" + random.nextInt(10000) : "")
            + (random.nextInt(5) == 0 ? " off" : "");
    }

    // ---- the second program: objects of kinds, new ones for each question

    /** Any finding leaves by this. */
    private static final class Found extends RuntimeException {
        private static final long serialVersionUID = 1;
        final int finding;

        Found(int finding) {
            super(null, null, false, false);
            this.finding = finding;
        }
    }

    private static class Dish {
        int kind;
        int left;
        int right;
        int price = 10;
        int served;
        int off;

        boolean left(Guest g, World w) {
            return g.bent < 50;
        }

        int bends(boolean byLeft) {
            return byLeft ? -5 : 5;
        }

        int costs(Guest g, boolean byLeft) {
            return price;
        }

        final Dish turned(int newKind) {
            Dish d = make(newKind);
            d.left = left;
            d.right = right;
            d.price = price;
            d.served = served;
            d.off = off;
            return d;
        }

        static Dish make(int kind) {
            Dish d = kind == 0 ? new Dish() : kind == 1 ? new Pie() : kind == 2 ? new Roast() : kind == 3 ? new Joint()
                : kind == 4 ? new Trifle() : kind == 5 ? new Mutton() : new Peas();
            d.kind = kind;
            return d;
        }
    }

    private static class Pie extends Dish {
        @Override boolean left(Guest g, World w) {
            return g.bent % 2 == 0;
        }

        @Override int bends(boolean byLeft) {
            return super.bends(byLeft) - 1;
        }

        @Override int costs(Guest g, boolean byLeft) {
            return Math.max(0, super.costs(g, byLeft) - 2);
        }
    }

    private static final class Peas extends Pie {
        @Override boolean left(Guest g, World w) {
            return served % 2 == 0 ? super.left(g, w) : !super.left(g, w);
        }

        @Override int bends(boolean byLeft) {
            return 1;
        }

        @Override int costs(Guest g, boolean byLeft) {
            return 1;
        }
    }

    private static class Roast extends Dish {
        @Override boolean left(Guest g, World w) {
            return g.bent < 30;
        }

        @Override int bends(boolean byLeft) {
            return 2 * super.bends(byLeft);
        }

        @Override int costs(Guest g, boolean byLeft) {
            return super.costs(g, byLeft) + g.bent / 10;
        }
    }

    private static class Joint extends Roast {
        @Override boolean left(Guest g, World w) {
            return super.left(g, w) || w.guests.stream().anyMatch(o -> o != g && o.goal == right);
        }

        @Override int bends(boolean byLeft) {
            return super.bends(byLeft) + 3;
        }

        @Override int costs(Guest g, boolean byLeft) {
            return 2 * super.costs(g, byLeft);
        }
    }

    private static final class Trifle extends Joint {
        @Override boolean left(Guest g, World w) {
            return served % 2 == 0;
        }

        @Override int bends(boolean byLeft) {
            return super.bends(!byLeft);
        }

        @Override int costs(Guest g, boolean byLeft) {
            return byLeft ? super.costs(g, byLeft) : super.costs(g, byLeft) / 2;
        }
    }

    private static final class Mutton extends Dish {
        @Override boolean left(Guest g, World w) {
            return true;
        }

        @Override int bends(boolean byLeft) {
            return 0;
        }
    }

    private static final class Guest {
        int bent;
        int goal;
        int bill;
        int been;
        int eaten;

        int fact(int what) {
            return new int[] {bent, goal, bill, been, eaten}[what];
        }
    }

    private static final class World {
        final List<Dish> dishes = new ArrayList<>();
        final List<Guest> guests = new ArrayList<>();
        final int[] meals = new int[6];
        final Integer[] spots = new Integer[10];
        int day;
        int z = 1;

        World twin() {
            World w = new World();
            dishes.forEach(d -> w.dishes.add(d.turned(d.kind)));
            for (Guest g : guests) {
                Guest t = new Guest();
                t.bent = g.bent;
                t.goal = g.goal;
                t.bill = g.bill;
                t.been = g.been;
                t.eaten = g.eaten;
                w.guests.add(t);
            }
            System.arraycopy(meals, 0, w.meals, 0, 6);
            System.arraycopy(spots, 0, w.spots, 0, 10);
            w.day = day;
            w.z = z;
            return w;
        }

        void meal(int guest, int dish) {
            if (guest >= guests.size() || dish >= dishes.size() || dishes.get(dish).off == 1) {
                return;
            }
            Guest g = guests.get(guest);
            Dish d = dishes.get(dish);
            boolean byLeft = d.left(g, this);
            int bent = g.bent + d.bends(byLeft);
            g.bill = Math.min(99999, g.bill + d.costs(g, byLeft));
            g.bent = bent < 0 ? 0 : bent > 99 ? 99 : bent;
            g.goal = byLeft ? d.left : d.right;
            g.been |= 1 << g.goal;
            g.eaten += g.eaten < 9999 ? 1 : 0;
            d.served += d.served < 9999 ? 1 : 0;
        }

        World days(int n) {
            for (int k = 0; k < n; k++) {
                meal(meals[day % 6] / 10, meals[day % 6] % 10);
                day += day < 99999 ? 1 : 0;
            }
            return this;
        }

        int bills() {
            return guests.stream().mapToInt(g -> g.bill).sum();
        }

        int draw() {
            z = z * 1103515245 + 12345;
            return z >>> 8;
        }
    }

    /** The face of ForkInn again; what it answers is what the words of the document say. */
    @SuppressWarnings("unused")
    private static final class Model {
        private static final String[] KINDS = {"dish", "pie", "roast", "joint", "trifle", "mutton", "peas"};
        private World w = new World();
        private World image;
        private final List<Integer> tape = new ArrayList<>();
        private final long[][] sheets = new long[4][];
        private final int[] bits = new int[4];
        private final int[] told = new int[7];

        private interface Act {
            long answer();
        }

        private int act(Act a) {
            return (int) longAct(a);
        }

        private long longAct(Act a) {
            try {
                return a.answer();
            } catch (Found f) {
                told[-1000001 - f.finding]++;
                return f.finding;
            }
        }

        private static void ask(boolean good, int which) {
            if (!good) {
                throw new Found(-1000001 - which);
            }
        }

        private static void in(long v, long low, long high) {
            ask(low <= v && v <= high, 0);
        }

        private Dish d(int dish) {
            in(dish, 0, w.dishes.size() - 1);
            return w.dishes.get(dish);
        }

        private Guest g(int guest) {
            in(guest, 0, w.guests.size() - 1);
            return w.guests.get(guest);
        }

        private long[] s(int s) {
            in(s, 0, 3);
            ask(sheets[s] != null, 5);
            return sheets[s];
        }

        int list(int i, int guest, int dish) {
            return act(() -> {
                in(i, 0, 5);
                in(guest, 0, 5);
                in(dish, 0, 7);
                int was = w.meals[i];
                w.meals[i] = guest * 10 + dish;
                return was;
            });
        }

        int listed(int i) {
            return act(() -> {
                in(i, 0, 5);
                return w.meals[i];
            });
        }

        int dish(int kind, int left, int right) {
            return act(() -> {
                in(kind, 0, 6);
                in(left, 0, 11);
                in(right, 0, 11);
                ask(w.dishes.size() < 8, 1);
                Dish d = Dish.make(kind);
                d.left = left;
                d.right = right;
                w.dishes.add(d);
                return w.dishes.size() - 1;
            });
        }

        int guest(int bent) {
            return act(() -> {
                in(bent, 0, 99);
                ask(w.guests.size() < 6, 1);
                Guest g = new Guest();
                g.bent = bent;
                w.guests.add(g);
                return w.guests.size() - 1;
            });
        }

        int of(int dish, int what) {
            return act(() -> {
                Dish d = d(dish);
                in(what, 0, 5);
                return new int[] {d.kind, d.left, d.right, d.price, d.served, d.off}[what];
            });
        }

        int change(int dish, int what, int v) {
            return act(() -> {
                Dish d = d(dish);
                in(what, 0, 5);
                in(v, 0, new int[] {6, 11, 11, 99, 9999, 1}[what]);
                int was = new int[] {d.kind, d.left, d.right, d.price, d.served, d.off}[what];
                switch (what) {
                    case 0 -> w.dishes.set(dish, d.turned(v));
                    case 1 -> d.left = v;
                    case 2 -> d.right = v;
                    case 3 -> d.price = v;
                    case 4 -> d.served = v;
                    default -> d.off = v;
                }
                return was;
            });
        }

        int ofGuest(int guest, int what) {
            return act(() -> {
                Guest g = g(guest);
                in(what, 0, 4);
                return g.fact(what);
            });
        }

        int seat(int guest, int what, int v) {
            return act(() -> {
                Guest g = g(guest);
                in(what, 0, 4);
                in(v, 0, new int[] {99, 11, 99999, 4095, 9999}[what]);
                int was = g.fact(what);
                switch (what) {
                    case 0 -> g.bent = v;
                    case 1 -> g.goal = v;
                    case 2 -> g.bill = v;
                    case 3 -> g.been = v;
                    default -> g.eaten = v;
                }
                return was;
            });
        }

        int would(int guest, int dish, int what) {
            return act(() -> {
                Guest g = g(guest);
                Dish d = d(dish);
                in(what, 0, 3);
                boolean l = d.left(g, w);
                return new int[] {l ? 1 : 0, d.costs(g, l), d.bends(l), l ? d.left : d.right}[what];
            });
        }

        int eat(int guest, int dish) {
            return act(() -> {
                Guest g = g(guest);
                ask(d(dish).off == 0, 4);
                w.meal(guest, dish);
                return g.goal;
            });
        }

        int go(int n) {
            return act(() -> {
                in(n, 1, 60);
                ask(w.day + n <= 99999, 4);
                return w.days(n).bills();
            });
        }

        int now(int what) {
            return act(() -> {
                in(what, 0, 7);
                int[] all = {w.day, w.bills(), 0, 0, 0, 0, 0, -1};
                for (int a = 0; a < w.guests.size(); a++) {
                    Guest g = w.guests.get(a);
                    all[2] |= 1 << g.goal;
                    all[3] |= g.been;
                    for (int b = 0; b < a; b++) {
                        all[5] += g.goal != w.guests.get(b).goal ? 1 : 0;
                    }
                    if (w.guests.stream().allMatch(o -> o.bill <= g.bill) && all[7] < 0) {
                        all[7] = a;
                    }
                }
                for (int k = 0; k < w.dishes.size(); k++) {
                    all[4] += w.dishes.get(k).served;
                    all[6] += w.dishes.get(k).off == 0 ? 1 << k : 0;
                }
                return all[what];
            });
        }

        int ahead(int guest, int what, int n) {
            return act(() -> {
                g(guest);
                in(what, 0, 4);
                in(n, 0, 100);
                return w.twin().days(n).guests.get(guest).fact(what);
            });
        }

        int served(int dish, int n) {
            return act(() -> {
                d(dish);
                in(n, 0, 100);
                return w.twin().days(n).dishes.get(dish).served;
            });
        }

        private interface Sight {
            boolean seen(World w);
        }

        private int first(Sight sight) {
            World t = w.twin();
            for (int n = 0; n <= 200; n++, t.days(1)) {
                if (sight.seen(t)) {
                    return n;
                }
            }
            throw new Found(-1000004);
        }

        int when(int guest, int town) {
            return act(() -> {
                g(guest);
                in(town, 0, 11);
                return first(t -> t.guests.get(guest).goal == town);
            });
        }

        int owes(int guest, int v) {
            return act(() -> {
                g(guest);
                in(v, 0, 99999);
                return first(t -> t.guests.get(guest).bill >= v);
            });
        }

        int part(int a, int b) {
            return act(() -> {
                g(a);
                g(b);
                ask(a != b, 0);
                return first(t -> t.guests.get(a).goal != t.guests.get(b).goal);
            });
        }

        private static int least(int[] bills) {
            int best = 0;
            for (int k = 0; k < bills.length; k++) {
                best = bills[k] < bills[best] ? k : best;
            }
            return best;
        }

        int dishFor(int i, int n) {
            return act(() -> {
                in(i, 0, 5);
                in(n, 0, 60);
                int[] bills = new int[8];
                for (int k = 0; k < 8; k++) {
                    World t = w.twin();
                    t.meals[i] = t.meals[i] / 10 * 10 + k;
                    bills[k] = t.days(n).bills();
                }
                return least(bills);
            });
        }

        int kindFor(int dish, int n) {
            return act(() -> {
                d(dish);
                in(n, 0, 60);
                int[] bills = new int[7];
                for (int k = 0; k < 7; k++) {
                    World t = w.twin();
                    t.dishes.set(dish, t.dishes.get(dish).turned(k));
                    bills[k] = t.days(n).bills();
                }
                return least(bills);
            });
        }

        int bentFor(int guest, int town, int n) {
            return act(() -> {
                g(guest);
                in(town, 0, 11);
                in(n, 0, 60);
                for (int bent = 0; bent < 100; bent++) {
                    World t = w.twin();
                    t.guests.get(guest).bent = bent;
                    if (t.days(n).guests.get(guest).goal == town) {
                        return bent;
                    }
                }
                throw new Found(-1000004);
            });
        }

        int courses(int guest, int town) {
            return act(() -> {
                g(guest);
                in(town, 0, 11);
                List<World> level = List.of(w.twin());
                for (int n = 0; n <= 4; n++) {
                    List<World> next = new ArrayList<>();
                    for (World t : level) {
                        if (t.guests.get(guest).goal == town) {
                            return n;
                        }
                        for (int k = 0; n < 4 && k < t.dishes.size(); k++) {
                            if (t.dishes.get(k).off == 0) {
                                World u = t.twin();
                                u.meal(guest, k);
                                next.add(u);
                            }
                        }
                    }
                    level = next;
                }
                throw new Found(-1000004);
            });
        }

        int strike(int guest, int town, int n) {
            return act(() -> {
                g(guest);
                in(town, 0, 11);
                in(n, 0, 20);
                int best = -1;
                for (int set = 0; set < 256; set++) {
                    World t = w.twin();
                    for (int k = 0; k < t.dishes.size(); k++) {
                        t.dishes.get(k).off |= set >> k & 1;
                    }
                    boolean away = t.days(n).guests.get(guest).goal != town;
                    if (away && (best < 0 || Integer.bitCount(set) < Integer.bitCount(best))) {
                        best = set;
                    }
                }
                ask(best >= 0, 3);
                return best;
            });
        }

        private static boolean asTold(World t, int guest, long[] towns) {
            boolean all = true;
            for (long town : towns) {
                all &= town == -1 || town == t.guests.get(guest).goal;
                t.days(1);
            }
            return all;
        }

        int fits(int s, int guest) {
            return act(() -> {
                long[] towns = s(s);
                g(guest);
                int fitting = 0;
                for (int bent = 0; bent < 100; bent++) {
                    World t = w.twin();
                    t.guests.get(guest).bent = bent;
                    fitting += asTold(t, guest, towns) ? 1 : 0;
                }
                return fitting;
            });
        }

        int kinds(int s, int dish, int guest) {
            return act(() -> {
                long[] towns = s(s);
                d(dish);
                g(guest);
                int set = 0;
                for (int k = 0; k < 7; k++) {
                    World t = w.twin();
                    t.dishes.set(dish, t.dishes.get(dish).turned(k));
                    set += asTold(t, guest, towns) ? 1 << k : 0;
                }
                return set;
            });
        }

        int coach(int n) {
            return act(() -> {
                in(n, 1, 20);
                ask(w.day + n <= 99999, 4);
                for (int k = 0; k < n; k++) {
                    int guest = w.draw() % 6;
                    w.meals[w.day % 6] = 10 * guest + w.draw() % 8;
                    w.days(1);
                }
                return w.bills();
            });
        }

        long odds(int guest, int dish, int n, int what) {
            return longAct(() -> {
                g(guest);
                d(dish);
                in(n, 0, 9);
                in(what, 0, 1);
                int lefts = 0;
                for (int bent = 0; bent < 100; bent++) {
                    World t = w.twin();
                    t.guests.get(guest).bent = bent;
                    lefts += t.dishes.get(dish).left(t.guests.get(guest), t) ? 1 : 0;
                }
                BigInteger above = BigInteger.valueOf(lefts).pow(n);
                BigInteger below = BigInteger.valueOf(100).pow(n);
                return (what == 0 ? above : below).divide(above.gcd(below)).longValueExact();
            });
        }

        int seed(int v) {
            int was = w.z;
            w.z = v;
            return was;
        }

        int feed(int bytes, int n) {
            return act(() -> {
                in(n, 1, 4);
                ask(tape.size() + n <= 120, 1);
                for (int k = 4 - n; k < 4; k++) {
                    tape.add(bytes >>> (24 - 8 * k) & 255);
                }
                return tape.size();
            });
        }

        int wipe() {
            int had = tape.size();
            tape.clear();
            return had;
        }

        /** A token: its text (empty at the end), and where it begins. */
        private record Token(String text, int place) {
        }

        private static final class Fault extends RuntimeException {
            private static final long serialVersionUID = 1;
            final int place;

            Fault(int place) {
                super(null, null, false, false);
                this.place = place;
            }
        }

        private List<Token> tokens() {
            StringBuilder all = new StringBuilder();
            tape.forEach(b -> all.append((char) (int) b));
            List<Token> found = new ArrayList<>();
            java.util.regex.Matcher m = java.util.regex.Pattern.compile("[a-z]+|[0-9]+|;|[^ ]",
                java.util.regex.Pattern.DOTALL).matcher(all);
            while (m.find()) {
                found.add(new Token(m.group(), m.start()));
            }
            found.add(new Token("", all.length()));
            return found;
        }

        private static int number(List<Token> left, int top) {
            Token t = left.remove(0);
            if (!t.text.matches("[0-9]+") || new BigInteger(t.text).compareTo(BigInteger.valueOf(top)) > 0) {
                throw new Fault(t.place);
            }
            return Integer.parseInt(t.text.replaceFirst("^0+(?=.)", ""));
        }

        private static boolean next(List<Token> left, String word) {
            if (left.get(0).text.equals(word)) {
                left.remove(0);
                return true;
            }
            return false;
        }

        private static void item(World t, List<Token> left) {
            Token head = left.remove(0);
            int kind = Arrays.asList(KINDS).indexOf(head.text);
            if (head.text.equals("meal")) {
                int i = number(left, 5);
                int guest = number(left, 5);
                t.meals[i] = 10 * guest + number(left, 7);
            } else if (head.text.equals("guest") && t.guests.size() < 6) {
                Guest g = new Guest();
                g.bent = number(left, 99);
                g.goal = next(left, "for") ? number(left, 11) : 0;
                t.guests.add(g);
            } else if (kind >= 0 && t.dishes.size() < 8) {
                Dish d = Dish.make(kind);
                d.left = number(left, 11);
                d.right = number(left, 11);
                d.price = next(left, "price") ? number(left, 99) : 10;
                d.served = next(left, "served") ? number(left, 9999) : 0;
                d.off = next(left, "off") ? 1 : 0;
                t.dishes.add(d);
            } else {
                throw new Fault(head.place);
            }
        }

        int text() {
            List<Token> left = tokens();
            tape.clear();
            World t = w.twin();
            int items = 0;
            try {
                do {
                    item(t, left);
                    items++;
                } while (next(left, ";"));
                if (!left.get(0).text.isEmpty()) {
                    throw new Fault(left.get(0).place);
                }
            } catch (Fault f) {
                return -1 - f.place;
            }
            w = t;
            return items;
        }

        int hold(int spot, int dish) {
            return act(() -> {
                in(spot, 0, 9);
                in(dish, -1, w.dishes.size() - 1);
                w.spots[spot] = dish < 0 ? null : dish;
                return 1;
            });
        }

        int as(int spot, int kind) {
            return act(() -> {
                in(spot, 0, 9);
                in(kind, 0, 6);
                ask(w.spots[spot] != null, 5);
                ask(Dish.make(kind).getClass().isInstance(w.dishes.get(w.spots[spot])), 2);
                return w.spots[spot];
            });
        }

        int sheet(int s, int bits, int n) {
            return act(() -> {
                in(s, 0, 3);
                ask(List.of(0, 8, 16, 32).contains(bits), 0);
                ask(n >= 0, 6);
                in(n, 0, 40);
                this.bits[s] = bits;
                sheets[s] = bits == 0 ? null : new long[n];
                return bits == 0 ? 0 : n;
            });
        }

        int write(int s, int i, int v) {
            return act(() -> {
                long[] row = s(s);
                in(i, 0, row.length - 1);
                row[i] = (long) v << 64 - bits[s] >> 64 - bits[s];
                return 1;
            });
        }

        int copy(int s, int from, int t, int to, int n) {
            return act(() -> {
                in(s, 0, 3);
                in(t, 0, 3);
                s(s);
                s(t);
                ask(bits[s] == bits[t], 2);
                in(n, 0, 40);
                in(from, 0, (long) sheets[s].length - n);
                in(to, 0, (long) sheets[t].length - n);
                long[] part = Arrays.copyOfRange(sheets[s], from, from + n);
                for (int k = 0; k < n; k++) {
                    sheets[t][to + k] = part[k];
                }
                return n;
            });
        }

        int load(int s) {
            return act(() -> {
                int came = 0;
                for (long v : s(s)) {
                    if (v < 0 || v > 99 || came == w.guests.size()) {
                        break;
                    }
                    w.guests.get(came++).bent = (int) v;
                }
                return came;
            });
        }

        int judge(int s) {
            return act(() -> {
                long[] row = s(s);
                for (int k = 0; k < row.length; k++) {
                    if (k >= w.guests.size() || w.guests.get(k).goal != row[k]) {
                        return k + 1;
                    }
                }
                return 0;
            });
        }

        int image() {
            image = w.twin();
            return 1;
        }

        int undo() {
            return act(() -> {
                ask(image != null, 3);
                w = image.twin();
                return w.day;
            });
        }

        int tear() {
            int had = image == null ? 0 : 1;
            image = null;
            return had;
        }

        int count(int what) {
            return act(() -> {
                in(what, 0, 7);
                int held = 0;
                for (Integer spot : w.spots) {
                    held += spot == null ? 0 : 1;
                }
                return new int[] {w.day, w.dishes.size(), w.guests.size(), w.bills(),
                    w.dishes.stream().mapToInt(d -> d.served).sum(), tape.size(), w.z, held}[what];
            });
        }

        int status(int which) {
            return act(() -> {
                in(which, -1, 6);
                return which < 0 ? Arrays.stream(told).sum() : told[which];
            });
        }
    }
}
