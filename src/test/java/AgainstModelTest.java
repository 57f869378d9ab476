import java.lang.reflect.InvocationTargetException;
import java.lang.reflect.Method;
import java.util.ArrayList;
import java.util.Arrays;
import java.util.Comparator;
import java.util.List;

/** Runs of calls by chance, on the class and on the model: each answer must be the same. */
public final class AgainstModelTest {
    private static final int RUNS = Integer.getInteger("runs", 500);
    private static final int CALLS = 160;
    private static int wrong = 0;

    private final Chance chance;
    private final LuckCrates real = new LuckCrates();
    private final Model model = new Model();
    private final List<String> told = new ArrayList<>();
    private int calls = 0;

    private AgainstModelTest(long seed) {
        chance = new Chance(seed);
    }

    public static void main(String[] args) {
        for (int run = 0; run < RUNS && wrong == 0; run++) {
            new AgainstModelTest(run).go();
        }
        System.out.println(wrong == 0 ? "the class and the model agree" : "the class and the model differ");
        if (wrong != 0) {
            System.exit(1);
        }
    }

    private void go() {
        Method[] methods = LuckCrates.class.getDeclaredMethods();
        Arrays.sort(methods, Comparator.comparing(Method::getName));
        List<Method> face = new ArrayList<>();
        for (Method m : methods) {
            if (java.lang.reflect.Modifier.isPublic(m.getModifiers())) {
                face.add(m);
            }
        }
        if (!chance.oneIn(10)) {
            tellText();
        }
        while (calls < CALLS && wrong == 0) {
            Method m = face.get(chance.upTo(face.size() - 1));
            String name = m.getName();
            if (name.equals("feed") || name.equals("province")) {
                if (chance.oneIn(6)) {
                    tellText();
                } else if (chance.oneIn(6)) {
                    both(m, arguments(name));
                }
            } else {
                both(m, arguments(name));
            }
            if (name.equals("days") && chance.oneIn(3)) {
                lookAtAll();
            }
        }
    }

    private void tellText() {
        String text = chance.text();
        if (text.length() > 700) {
            text = text.substring(0, 700);
        }
        told.add("TEXT " + text);
        int[] n = Texts.numbers(text);
        for (int i = 0; i + 4 < n.length; i += 5) {
            both("feed", n[i], n[i + 1], n[i + 2], n[i + 3], n[i + 4]);
        }
        both("province", text.length() - (chance.oneIn(20) ? chance.upTo(9) : 0));
        both("fault");
    }

    private void lookAtAll() {
        for (int what = 0; what <= 15; what++) {
            both("count", what);
        }
    }

    private Object[] arguments(String name) {
        int town = chance.near(0, Math.max(0, model.count(0) - 1));
        int other = chance.near(0, Math.max(0, model.count(0) - 1));
        int crate = chance.near(0, Math.max(0, model.count(2) - 1));
        int crateTwo = chance.near(0, Math.max(0, model.count(2) - 1));
        int way = chance.near(0, Math.max(0, model.count(1) - 1));
        int days = chance.near(0, 60);
        switch (name) {
            case "feed": return new Object[] {chance.random.nextInt(), 0, 1, 2, 3};
            case "province": return new Object[] {chance.near(0, model.count(12))};
            case "count": return new Object[] {chance.near(0, 15)};
            case "town": return new Object[] {town, chance.near(0, 6)};
            case "crate": return new Object[] {crate, chance.near(0, 4)};
            case "days": return new Object[] {chance.oneIn(2) ? chance.within(1, 4) : chance.near(1, 30)};
            case "send": return new Object[] {crate, way};
            case "open": return new Object[] {crate};
            case "cat": return new Object[] {crate, chance.oneIn(2)};
            case "mix": return new Object[] {crate, crateTwo};
            case "then": return new Object[] {town, days, chance.near(0, 3)};
            case "even": case "out": case "level": case "lend": return new Object[] {town};
            case "luckiest": case "pooled": return new Object[] {days};
            case "far": case "leak": return new Object[] {town, other};
            case "sending": return new Object[] {town, chance.oneIn(3) ? chance.near(1, 999) : chance.within(1, 250)};
            case "thief": return new Object[] {town, chance.oneIn(3) ? chance.near(0, 999) : chance.within(0, 250)};
            case "hold": return new Object[] {town, chance.near(-1, 5)};
            case "thrower":
                return new Object[] {chance.near(0, 20), chance.near(0, 12), chance.near(1, 20), chance.near(0, 7)};
            case "stop":
                return new Object[] {chance.near(0, 20), chance.near(0, 12), chance.near(1, 7), chance.near(0, 1)};
            case "see": return sight(town);
            case "opened": return new Object[] {chance.near(0, 2)};
            case "next": return new Object[] {chance.near(0, 1)};
            case "game": return new Object[] {town, other, chance.near(0, 1)};
            case "years": return new Object[] {chance.random.nextInt(), days, chance.near(0, 2)};
            case "row": return new Object[] {town, other, chance.near(0, 4)};
            case "bridge": return new Object[] {way};
            case "streak": return new Object[] {town, days};
            case "day": return new Object[] {days, chance.near(0, 1)};
            default: return new Object[0];
        }
    }

    /** Mostly something that would be so by some opening, else nothing that is seen would tell. */
    private Object[] sight(int town) {
        int day = chance.near(0, 30);
        int luck = chance.near(0, 9999);
        if (town >= 0 && town < model.count(0) && day >= 0 && day <= 30 && !chance.oneIn(6)) {
            luck = model.then(town, day, 0);
            int crates = model.count(7);
            int crate = chance.upTo(9);
            if ((crates >> crate & 1) == 1 && chance.oneIn(2)) {
                luck = luckWith(crate, town, day);
            }
        }
        return new Object[] {town, day, luck};
    }

    private int luckWith(int crate, int town, int day) {
        model.image();
        model.open(crate);
        int luck = model.then(town, day, 0);
        model.restore();
        real.image();
        return luck;
    }

    private void both(String name, Object... arguments) {
        for (Method m : LuckCrates.class.getDeclaredMethods()) {
            if (m.getName().equals(name)) {
                both(m, arguments);
            }
        }
    }

    private void both(Method method, Object... arguments) {
        calls++;
        String answer = call(real, method, arguments);
        String due;
        try {
            Method same = Model.class.getDeclaredMethod(method.getName(), method.getParameterTypes());
            due = call(model, same, arguments);
        } catch (NoSuchMethodException e) {
            throw new IllegalStateException(e);
        }
        told.add(method.getName() + Arrays.toString(arguments) + " = " + answer);
        if (!answer.equals(due) && wrong == 0) {
            wrong++;
            for (String line : told) {
                System.out.println(line);
            }
            System.out.println("due is " + due);
        }
    }

    private static String call(Object on, Method method, Object... arguments) {
        try {
            return String.valueOf(method.invoke(on, arguments));
        } catch (InvocationTargetException e) {
            return "throws." + e.getCause().getClass().getSimpleName();
        } catch (IllegalAccessException e) {
            throw new IllegalStateException(e);
        }
    }
}
