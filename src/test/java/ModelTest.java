import java.lang.reflect.Method;
import java.lang.reflect.Modifier;
import java.util.ArrayList;
import java.util.Arrays;
import java.util.Comparator;
import java.util.List;
import java.util.Random;

/** Random runs of calls: the class must answer as Model does. */
public final class ModelTest {
    private static final String[] PARTS = {
        "row put putReal get getReal raise join shift like count find mean raised flow test about",
        "row bed lay spot setSpot bare put get raised box isA taken used about",
        "thing says rack hang down hung asked haul box isA taken used raised about",
        "card field fieldOf raiseField link along ring cardAsk copy thing raised about",
        "quotient table turned raised",
        "step step step step step step act act act wipe raised stock gate signal row put get about",
        "reading reading reading reading word stuck hand rate run run run lake lake heard moved about rule",
        "rule ruleAt right part has close about",
        "hours ahead ahead ahead ahead ahead release release routed regret chosen peak chance run",
        "row put raise book book book pageByte damage tear twin open opened lost raised about",
    };

    private final Random random;
    private final List<Method> methods = new ArrayList<>();
    private final Class<?> wall = ReservoirWall.class;

    private ModelTest(long seed) {
        random = new Random(seed);
    }

    private boolean chance(int oneOf) {
        return random.nextInt(oneOf) == 0;
    }

    private int upTo(int high) {
        return random.nextInt(high + 1);
    }

    private int name(int high) {
        return chance(12) ? -1 : chance(20) ? pick(-2, -3, 20, 40, 64, 99, Integer.MAX_VALUE, Integer.MIN_VALUE) : upTo(high);
    }

    private int pick(int... of) {
        return of[random.nextInt(of.length)];
    }

    private int odd(int usual) {
        return chance(15) ? pick(-1, -2, 1, 7, 16, 17, 64, 65, 100, 101, 366, Integer.MAX_VALUE, Integer.MIN_VALUE) : usual;
    }

    private long whole() {
        switch (random.nextInt(6)) {
            case 0: return random.nextInt(7) - 3;
            case 1: return random.nextInt();
            case 2: return random.nextLong();
            case 3: return random.nextInt(70000) - 2000;
            case 4: return 1L << random.nextInt(64);
            default: return pickLong(Long.MIN_VALUE, Long.MAX_VALUE, -1, 0, 1, Integer.MIN_VALUE, Integer.MAX_VALUE,
                    9007199254740993L, 16777217L, 1000000000000000L, 1000000000000001L, 1000000000000L);
        }
    }

    private long pickLong(long... of) {
        return of[random.nextInt(of.length)];
    }

    private long real(double low, double high) {
        double d;
        switch (random.nextInt(14)) {
            case 0:
                return pickLong(0x7FF8000000000000L, 0x7FF0000000000001L, -1L, 0xFFF8000000000123L);
            case 1:
                return random.nextLong();
            case 2:
                d = pickDouble(0.0, -0.0, 1.0, -1.0, 0.5, Double.MIN_VALUE, -Double.MIN_VALUE, Double.MIN_NORMAL,
                        Double.MAX_VALUE, -Double.MAX_VALUE, Double.POSITIVE_INFINITY, Double.NEGATIVE_INFINITY,
                        Float.MIN_VALUE, Float.MAX_VALUE, 1e39, 1e-46, 2147483648.5, 9.3e18, 1.0 / 3.0);
                break;
            case 3:
                d = pickDouble(low, high, Math.nextUp(high), Math.nextDown(low), -0.0, 0.0);
                break;
            case 4:
                d = Math.rint(low + random.nextDouble() * (high - low));
                break;
            case 5:
                d = Double.longBitsToDouble(random.nextLong() & 0x000FFFFFFFFFFFFFL >>> random.nextInt(52));
                break;
            default:
                d = low + random.nextDouble() * (high - low);
        }
        return Double.doubleToRawLongBits(d);
    }

    private double pickDouble(double... of) {
        return of[random.nextInt(of.length)];
    }

    /** Levels near one another, so that gauges hang, jump and are heard. */
    private long level() {
        if (chance(12)) return real(-1000.0, 1000.0);
        if (chance(6)) return Double.doubleToRawLongBits(pickDouble(0.0, -0.0, 9.0, 9.5, 8.5, 30.0, 35.0));
        return Double.doubleToRawLongBits(9.0 + pick(0, 0, 0, 1, 2, 3, 8, 12) * 0.125);
    }

    private Object[] arguments(Method m) {
        switch (m.getName()) {
            case "row": return with(odd(upTo(7)), odd(pick(0, 1, 2, 3, 5, 24, 25, 33)));
            case "put": return with(name(8), odd(upTo(3)), whole());
            case "putReal": return with(name(8), odd(upTo(3)), real(-70000.0, 70000.0));
            case "get", "getReal": return with(name(8), odd(upTo(3)));
            case "raise": return with(name(8), odd(upTo(3)), whole(), random.nextBoolean());
            case "join", "like": return with(name(8), name(8));
            case "shift", "haul": return with(name(8), odd(upTo(3)), name(8), odd(upTo(3)), odd(upTo(3)));
            case "count": return with(name(8), odd(upTo(2)));
            case "find": return with(name(8), chance(2) ? random.nextInt(3) : whole());
            case "mean", "book": return with(name(8));
            case "bed": return with(odd(pick(1, 3, 6)), odd(upTo(4)), odd(upTo(4) - 1));
            case "lay": return with(name(4), odd(upTo(4)), name(8));
            case "spot": return with(name(4), odd(upTo(4)), odd(upTo(3)));
            case "setSpot": return with(name(4), odd(upTo(4)), odd(upTo(3)), whole());
            case "bare": return with(name(4), odd(upTo(5) - 2));
            case "thing": return with(odd(upTo(5)), odd(pick(0, 1, 5, 999, 1000)));
            case "says": return with(name(8), odd(upTo(5)));
            case "rack": return with(odd(upTo(9)), odd(upTo(6)));
            case "hang": return with(name(8), odd(upTo(5)), name(8));
            case "down": return with(name(8), odd(upTo(5)), odd(upTo(9)));
            case "hung": return with(name(8), odd(upTo(5)));
            case "asked": return with(name(8), odd(upTo(5)), odd(upTo(5)));
            case "box": return with(odd(upTo(3)), odd(upTo(4)), name(6));
            case "isA", "taken": return with(odd(upTo(3)), odd(upTo(13)));
            case "used": return with(odd(upTo(3)));
            case "field": return with(name(6), odd(upTo(7)), whole());
            case "fieldOf": return with(name(6), odd(upTo(7)));
            case "raiseField": return with(name(6), odd(upTo(7)), whole(), random.nextBoolean());
            case "link": return with(name(6), name(6), name(4));
            case "along": return with(name(6), odd(upTo(9)));
            case "ring", "copy": return with(name(6));
            case "cardAsk": return with(name(6), odd(upTo(5)));
            case "flow": return with(name(8), odd(upTo(6)));
            case "test": return with(name(8), odd(upTo(2)), odd(upTo(2)), odd(upTo(5)), random.nextBoolean());
            case "quotient": return with(whole(), chance(4) ? (long) pick(0, -1, 1) : whole(), odd(upTo(5)));
            case "step": return step();
            case "wipe": return with(chance(2) ? upTo(3) : odd(upTo(11)));
            case "act": return with(chance(8) ? odd(upTo(11)) : upTo(3));
            case "raised": return with(odd(upTo(4)));
            case "stock": return with(chance(6) ? whole() : chance(6) ? 1000000000000000L : (long) upTo(300));
            case "gate": return with(odd(upTo(3)), odd(upTo(1)));
            case "signal": return with(odd(upTo(61)));
            case "table": return with(odd(upTo(42) - 1));
            case "turned": return with(real(0.0, 1680000.0));
            case "reading": return with(odd(upTo(5)), level());
            case "word": return with(chance(3) ? level() : real(0.0, 100.0));
            case "stuck": return with(odd(upTo(3)), random.nextBoolean());
            case "hand": return with(odd(upTo(3)), chance(2) ? Double.doubleToLongBits(Double.NaN) : real(0.0, 1.0));
            case "rate": return with(real(0.0, 1.0));
            case "run": return with(rain(), real(-100.0, 100.0));
            case "lake": return with(odd(upTo(13)));
            case "heard": return with(odd(upTo(5)));
            case "moved": return with(odd(upTo(3)), odd(upTo(2)));
            case "about": return with(odd(upTo(10)));
            case "rule": return rule();
            case "ruleAt": return with(odd(pick(0, 1, 5, 9, 100, 365)), real(-1.0, 41.0));
            case "right": return with(odd(pick(0, 0, 1, 50, 99)), odd(pick(0, 1, 3, 7, 1000)), chance(4) ? whole() : (long) upTo(1000));
            case "part": return with(chance(4) ? whole() : chance(4) ? 999999999999999L : (long) upTo(2000));
            case "has": return with(odd(upTo(12)));
            case "hours": return with(odd(pick(1, 2, 3, 12)));
            case "ahead": return with(odd(upTo(5)), chance(12) ? odd(upTo(11)) : upTo(2), chance(9) ? real(0.0, 1000000.0) : smallReal());
            case "release": return with(odd(upTo(7)), chance(3) ? real(0.0, 1000000.0) : smallReal());
            case "routed": return with(odd(upTo(5)), odd(upTo(7)), odd(upTo(2)));
            case "regret": return with(odd(upTo(7)));
            case "peak": return with(odd(upTo(5)));
            case "chance": return with(chance(3) ? real(0.0, 1000000.0) : smallReal(), odd(upTo(1)));
            case "pageByte": return with(odd(upTo(33) - 1), odd(upTo(33) - 1));
            case "damage": return with(odd(upTo(4)), odd(upTo(31)), odd(pick(1, 1, 1, 2, 255, 256, 0)));
            case "tear": return with(odd(upTo(4)), odd(pick(0, 3, 4, 28, 31, 32, 33)));
            case "twin": return with(odd(upTo(4)), odd(upTo(34)));
            case "opened": return with(odd(upTo(6)), odd(pick(0, 1, 2, 3, 9, 10, 11, 12, 15, 33, 34)));
            case "lost": return with(odd(upTo(2)), odd(upTo(3) - 2));
            default:
                if (m.getParameterCount() != 0) throw new IllegalStateException("no arguments for " + m);
                return with();
        }
    }

    private long smallReal() {
        return Double.doubleToLongBits(pick(0, 0, 1, 2, 300000, 500000, 1000000) * pickDouble(1.0, 0.5));
    }

    private long rain() {
        return chance(4) ? real(0.0, 1000000.0) : Double.doubleToLongBits(pick(0, 10, 5000, 200000));
    }

    private Object[] rule() {
        int from = odd(pick(0, 0, 3, 100));
        return with(odd(pick(0, 1, 1, 99)), from, odd(pick(from, 5, 365)), real(-1.0, 20.0), real(5.0, 40.0),
                chance(3) ? real(0.0, 1000000.0) : real(0.0, 4000.0));
    }

    /** Plans 0 to 3 mostly, and steps that are seldom fatal, so that acts come far. */
    private Object[] step() {
        int op = odd(pick(0, 1, 2, 3, 4, 5, 6, 6, 7, 7, 7, 8, 9));
        int plan = chance(20) ? odd(upTo(11)) : upTo(3);
        int other = chance(20) ? odd(upTo(11)) : upTo(5);
        switch (op) {
            case 0: return with(plan, op, pick(0, 0, 0, 1, 1, -1, 9), pick(0, 0, 1, 1, -1, 70), random.nextInt(), 0);
            case 1: return with(plan, op, odd(pick(0, 5, 50, 1000000000)), 0, 0, 0);
            case 2: return with(plan, op, odd(1 + upTo(7)), odd(upTo(99)), 0, 0);
            case 3: return with(plan, op, odd(upTo(3)), 0, 0, 0);
            case 4: return with(plan, op, odd(upTo(3)), pick(-200, -30, 10, 30, Integer.MAX_VALUE, Integer.MIN_VALUE), 0, 0);
            case 6: return with(plan, op, other, random.nextInt(), 0, 0);
            case 7: return with(plan, op, other, odd(pick(0, 0, 9, 9, 1, 2, 6, 7, 8)), odd(upTo(6) - 1), odd(upTo(6) - 1));
            case 9: return with(plan, op, random.nextInt(1000) - 300, pick(0, 1, 2, 7, -1, -3), 0, 0);
            default: return with(plan, op, random.nextInt(), 0, 0, 0);
        }
    }

    private static Object[] with(Object... arguments) {
        return arguments;
    }

    private void choose(String part) throws Exception {
        List<String> names = part == null ? null : Arrays.asList(part.split(" "));
        List<Method> all = new ArrayList<>();
        for (Method m : wall.getDeclaredMethods()) {
            if (Modifier.isPublic(m.getModifiers())) all.add(m);
        }
        all.sort(Comparator.comparing(Method::getName));
        if (names == null) {
            methods.addAll(all);
            return;
        }
        for (String name : names) {
            for (Method m : all) {
                if (m.getName().equals(name)) methods.add(m);
            }
        }
    }

    /** The number of calls that were alike, or -1. */
    private int run(String part, int calls) throws Exception {
        choose(part);
        ReservoirWall x = new ReservoirWall();
        Model y = new Model();
        List<String> told = new ArrayList<>();
        for (int i = 0; i < calls; i++) {
            Method m = methods.get(random.nextInt(methods.size()));
            Object[] arguments = arguments(m);
            Method same = Model.class.getMethod(m.getName(), m.getParameterTypes());
            Object got = m.invoke(x, arguments);
            Object want = same.invoke(y, arguments);
            told.add(m.getName() + Arrays.toString(arguments) + " = " + got);
            boolean raisedAlike = x.raised(0) == y.raised(0) && x.raised(1) == y.raised(1);
            if (!got.equals(want) || !raisedAlike) {
                told.forEach(System.out::println);
                System.out.println("the model answers " + want + (raisedAlike ? "" : ", and has raised another FAILURE or WORD"));
                return -1;
            }
        }
        return calls;
    }

    public static void main(String[] args) throws Exception {
        int runs = args.length > 0 ? Integer.parseInt(args[0]) : 800;
        long alike = 0;
        for (int part = 0; part <= PARTS.length; part++) {
            // With what is asked behind each call that makes 510 calls of one object.
            for (int seed = 0; seed < runs; seed++) {
                int calls = new ModelTest(seed * 31L + part).run(part == PARTS.length ? null : PARTS[part], 170);
                if (calls < 0) {
                    System.out.println("ModelTest: part " + part + ", seed " + seed);
                    System.exit(1);
                }
                alike += calls;
            }
        }
        System.out.println("ModelTest: " + alike + " answers are as due");
    }
}
