import java.lang.reflect.InvocationTargetException;
import java.lang.reflect.Method;
import java.lang.reflect.Modifier;
import java.util.ArrayList;
import java.util.Arrays;
import java.util.Comparator;
import java.util.List;
import java.util.Random;

/** Long runs of chosen calls, each asked of the class and of PlainModel: all answers must be the same. */
final class ModelTest {
    private static final int RUNS = 1200;
    private static final int CALLS = 400;
    private static final List<Method> METHODS = new ArrayList<>();
    private static final List<String> ACTS = List.of("begin", "begin", "put", "put", "put", "put", "drop", "done", "done",
        "gone", "clear", "freeze", "undo", "image", "back");
    /** By these alone VERSIONS heap up until no number is free. */
    private static final List<String> HEAPING = List.of("begin", "put", "put", "put", "put", "put", "put", "done", "freeze");
    private static int wrong = 0;

    private final Random random;
    private final int run;
    private final StampedRows x = new StampedRows();
    private final PlainModel model = new PlainModel();
    private final List<String> log = new ArrayList<>();

    private ModelTest(int run) {
        this.run = run;
        this.random = new Random(run);
    }

    public static void main(String[] args) {
        for (Method m : StampedRows.class.getDeclaredMethods()) {
            if (Modifier.isPublic(m.getModifiers())) {
                METHODS.add(m);
            }
        }
        METHODS.sort(Comparator.comparing(Method::getName));
        int runs = args.length > 0 ? Integer.parseInt(args[0]) : RUNS;
        for (int run = 0; run < runs && wrong == 0; run++) {
            new ModelTest(run).go();
        }
        Check.end();
    }

    private void go() {
        for (int text = 0; text < 4; text++) {
            tellStore();
        }
        List<String> acts = run % 4 == 0 ? HEAPING : ACTS;
        for (int call = 0; call < CALLS && wrong == 0; call++) {
            int kind = random.nextInt(100);
            if (kind < 45 || acts == HEAPING && kind < 90) {
                ask(method(acts.get(random.nextInt(acts.size()))));
            } else if (kind < 99) {
                ask(METHODS.get(random.nextInt(METHODS.size())));
            } else if (random.nextInt(4) == 0) {
                tellStore();
            }
        }
        askAll();
    }

    /** Every call that changes nothing, with every argument that is near those that are allowed. */
    private void askAll() {
        for (Method m : METHODS) {
            Class<?>[] types = m.getParameterTypes();
            boolean numbers = types.length > 0 && types[0] == int.class && types[types.length - 1] == int.class;
            if (types.length == 0 && !ACTS.contains(m.getName())) {
                ask(m);
            } else if (numbers && types.length < 3 && !ACTS.contains(m.getName()) && !m.getName().equals("store")) {
                for (int i = -1; i <= 64; i++) {
                    askPairs(m, i);
                }
            }
        }
    }

    private void askPairs(Method m, int first) {
        if (m.getParameterCount() == 1) {
            ask(m, first);
            return;
        }
        for (int second = -1; second <= 10; second++) {
            ask(m, first, second);
        }
    }

    private static Method method(String name) {
        for (Method m : METHODS) {
            if (m.getName().equals(name)) {
                return m;
            }
        }
        throw new IllegalStateException(name);
    }

    private int number(String name, int at) {
        int kind = random.nextInt(40);
        if (kind == 0) {
            return new int[] {Integer.MIN_VALUE, Integer.MAX_VALUE, -1, -2, 1000, 999, 65536, 65537, 64}[random.nextInt(9)];
        }
        if (name.equals("put") && at == 2 || name.equals("odds") && at == 1) {
            return random.nextInt(kind < 20 ? 4 : 1001);
        }
        if (name.equals("drawn")) {
            return random.nextInt(65540) - 1;
        }
        if (name.equals("store")) {
            return random.nextInt(60);
        }
        if (name.equals("feed")) {
            return random.nextInt();
        }
        boolean stamped = name.equals("age") || name.equals("older") || name.equals("changed")
            || name.equals("counts") && at == 1 || name.equals("asOf") && at == 0;
        if (stamped) {
            int ring = x.size(0);
            return ring == 0 ? 0 : random.nextInt(ring + 1);
        }
        if (name.equals("version") && at == 0 || name.equals("seenBy")) {
            return random.nextInt(x.size(3) + 2);
        }
        boolean slot = (name.equals("put") || name.equals("drop") || name.equals("done") || name.equals("gone")) && at == 0;
        if (slot && x.size(4) > 0) {
            return random.nextInt(x.size(4) + 1);
        }
        boolean row = (name.equals("put") || name.equals("drop") || name.equals("may")) && at == 1;
        if (row && x.size(1) > 0) {
            return random.nextInt(x.size(1));
        }
        return random.nextInt(10) - (kind == 1 ? 1 : 0);
    }

    private long ask(Method m) {
        Class<?>[] types = m.getParameterTypes();
        Object[] args = new Object[types.length];
        for (int i = 0; i < types.length; i++) {
            if (types[i] == boolean.class) {
                args[i] = random.nextBoolean();
            } else {
                args[i] = number(m.getName(), i);
            }
        }
        return ask(m, args);
    }

    private long ask(Method m, Object... args) {
        String call = m.getName() + Arrays.toString(args);
        try {
            String got = answer(m, x, args);
            String due = answer(PlainModel.class.getMethod(m.getName(), m.getParameterTypes()), model, args);
            log.add(call + " " + due);
            compare(call, got, due);
            compare(call + ", then trouble()", "" + x.trouble(), "" + model.trouble());
            compare(call + ", then where()", "" + x.where(), "" + model.where());
            compare(call + ", then fault()", "" + x.fault(), "" + model.fault());
            return got.matches("-?[0-9]+") ? Long.parseLong(got) : 0;
        } catch (ReflectiveOperationException e) {
            throw new IllegalStateException(e);
        }
    }

    private void compare(String call, String got, String due) {
        if (!got.equals(due) && wrong++ == 0) {
            for (String line : log) {
                System.out.println("  " + line);
            }
            Check.isTrue("run " + run + ": " + call + " answered " + got + ", due is " + due, false);
        }
    }

    private static String answer(Method m, Object of, Object[] args) throws ReflectiveOperationException {
        try {
            return String.valueOf(m.invoke(of, args));
        } catch (InvocationTargetException e) {
            return "throws " + e.getCause().getClass().getName();
        }
    }

    // texts

    private void tellStore() {
        for (int bytes = x.size(9); bytes > 0; bytes = x.size(9)) {
            ask(method("store"), bytes);
        }
        String text = random.nextInt(3) == 0 ? spoil(chooseText()) : chooseText();
        if (text.length() > 900) {
            text = text.substring(0, 900);
        }
        StringBuilder padded = new StringBuilder(text);
        while (padded.length() % 20 != 0) {
            padded.append(' ');
        }
        for (int at = 0; at < padded.length(); at += 20) {
            Object[] five = new Object[5];
            for (int i = 0; i < 5; i++) {
                int n = 0;
                for (int k = 0; k < 4; k++) {
                    n = n << 8 | padded.charAt(at + 4 * i + k) & 255;
                }
                five[i] = n;
            }
            ask(method("feed"), five);
        }
        log.add("    " + text);
        ask(method("store"), text.length());
        for (String name : List.of("fits", "could", "surely", "ask", "askLeaves", "judge", "freshSum")) {
            ask(method(name));
        }
        for (int i = 0; i < 10; i++) {
            ask(method("size"), i);
            ask(method("fitAt"), i);
        }
    }

    /** A text that is mostly without a FAULT: each LINE is kept only if PlainModel takes the text with it. */
    private String chooseText() {
        int ring = random.nextInt(3) == 0 ? 8 : 8 + 2 * random.nextInt(29);
        int rows = 1 + random.nextInt(8);
        StringBuilder text = new StringBuilder("store ring " + ring + " rows " + rows + " start " + random.nextInt(ring)
            + " crash " + (random.nextInt(4) == 0 ? 100 * random.nextInt(2) : random.nextInt(101)));
        List<String> names = List.of("a", "b", "ring", "crash", "abcdefgh", "z", "q", "rows", "x", "y", "start", "c", "m");
        int lines = random.nextInt(70);
        for (int i = 0; i < lines && text.length() < 870; i++) {
            String line = chooseLine(names, rows);
            if (takes(text + ";" + line)) {
                text.append(";").append(line);
            }
        }
        for (int i = random.nextInt(6); i > 0; i--) {
            String row = "seen " + random.nextInt(rows) + (random.nextInt(3) == 0 ? " none" : " " + random.nextInt(3));
            String line = random.nextInt(2) == 0 ? row : "unsure " + names.get(random.nextInt(names.size()));
            if (takes(text + ";" + line)) {
                text.append(random.nextBoolean() ? ";" : " ; ").append(line);
            }
        }
        return text.toString();
    }

    private String chooseLine(List<String> names, int rows) {
        String name = names.get(random.nextInt(names.size()));
        switch (random.nextInt(16)) {
            case 0:
            case 1:
            case 2:
                return "begin " + name;
            case 3:
            case 4:
                return "done " + name;
            case 5:
                return "gone " + name;
            case 6:
                return random.nextInt(3) == 0 ? "clear" : "drop " + name + " " + random.nextInt(rows);
            case 7:
                return random.nextInt(3) == 0 ? "freeze" : "drop " + name + random.nextInt(rows);
            case 8:
                return random.nextInt(3) == 0 ? "unsure " + name : "done " + name;
            default:
                return "put " + name + " " + random.nextInt(rows) + " " + random.nextInt(3);
        }
    }

    private static boolean takes(String text) {
        PlainModel trial = new PlainModel();
        StringBuilder padded = new StringBuilder(text);
        while (padded.length() % 20 != 0) {
            padded.append(' ');
        }
        for (int at = 0; at < padded.length(); at += 4 * 5) {
            int[] five = new int[5];
            for (int i = 0; i < 20; i++) {
                five[i / 4] = five[i / 4] << 8 | padded.charAt(at + i);
            }
            trial.feed(five[0], five[1], five[2], five[3], five[4]);
        }
        return trial.store(text.length()) >= 0;
    }

    private String spoil(String text) {
        StringBuilder s = new StringBuilder(text);
        for (int i = 1 + random.nextInt(2); i > 0 && s.length() > 0; i--) {
            int at = random.nextInt(s.length());
            switch (random.nextInt(6)) {
                case 0:
                    s.deleteCharAt(at);
                    break;
                case 1:
                    s.insert(at, "a0 ;9z".charAt(random.nextInt(6)));
                    break;
                case 2:
                    s.setCharAt(at, (char) random.nextInt(256));
                    break;
                case 3:
                    s.setLength(at);
                    break;
                case 4:
                    s.append(List.of(";", ";put a 0 0", ";unsure a", ";begin t", ";seen 0 none", ";store", ";clear",
                        " ", ";drop b 1", ";done b x", ";none", ";seen 8 1").get(random.nextInt(12)));
                    break;
                default:
                    int to = Math.min(s.length(), at + random.nextInt(30));
                    s.delete(at, to);
                    break;
            }
        }
        return s.toString();
    }
}
