import java.util.ArrayDeque;
import java.util.ArrayList;
import java.util.Arrays;
import java.util.Deque;
import java.util.HashMap;
import java.util.LinkedHashSet;
import java.util.List;
import java.util.Map;
import java.util.Random;
import java.util.Set;

/**
 * Long runs of mixed calls on a StackRoom and on a plain model of the document, every answer compared.
 * The seeds are written down, so every run of this test makes the same calls.
 */
public final class ModelTest {
    private static final int RUNS = 4000;
    private static final int CALLS = 512;
    /** Answers beyond the 512th call are free, but no call may ever throw. */
    private static final int CALLS_BEYOND = 3000;
    private static final int[] ODD = {-1, 16, 17, 31, 32, 63, 64, 94, 100, 101, -2, 1073741823, 1073741824, -1073741824,
        -1073741825, Integer.MAX_VALUE, Integer.MIN_VALUE, 1073741730, 2147483600};
    private static final String[] NAMES = {"number", "move", "clear", "kind", "value", "method", "change", "context",
        "block", "push", "fill", "pop", "peek", "drop", "height", "room", "floor", "count", "home", "sender", "send",
        "kill", "temporary", "keep", "words", "entries", "contexts"};
    /** How often each of these calls comes, by style of run. */
    private static final int[][] WEIGHTS = {
        {3, 3, 2, 2, 2, 3, 3, 6, 6, 6, 5, 5, 4, 4, 2, 2, 2, 2, 3, 3, 4, 2, 4, 5, 3, 2, 3},
        {1, 2, 2, 1, 1, 2, 2, 20, 10, 8, 1, 1, 1, 1, 1, 1, 1, 1, 1, 1, 3, 1, 1, 6, 3, 2, 3},
        {2, 1, 0, 2, 2, 1, 8, 3, 3, 8, 8, 8, 8, 8, 3, 1, 2, 1, 1, 1, 1, 1, 8, 8, 2, 1, 1},
        {0, 1, 0, 0, 1, 2, 1, 40, 10, 4, 1, 0, 0, 0, 0, 0, 0, 0, 0, 0, 2, 0, 0, 4, 1, 1, 1}};

    private final Random random;
    private final int[] weights;
    private final int oddOnesIn;

    private ModelTest(long seed) {
        random = new Random(seed);
        weights = WEIGHTS[(int) (seed % WEIGHTS.length)];
        oddOnesIn = seed % 3 == 0 ? 12 : 60;
    }

    public static void main(String[] args) {
        int[] answers = new int[4];
        for (int seed = 0; seed < RUNS; seed++) {
            String fault = new ModelTest(seed).run(CALLS, answers);
            if (fault != null) {
                System.out.println("seed " + seed + ": " + fault);
                System.exit(1);
            }
        }
        for (int seed = 0; seed < 40; seed++) {
            new ModelTest(seed).runOn(CALLS_BEYOND);
        }
        System.out.println(RUNS + " runs as the model; " + answers[0] + " NONE, " + answers[1] + " FULL, "
            + answers[2] + " zero or false, " + answers[3] + " others");
    }

    private String run(int calls, int[] answers) {
        int words = chosen(128, 300, 2000, 32768);
        int entries = chosen(16, 40, 400, 4096);
        StackRoom room = new StackRoom(words, entries);
        Model model = new Model(words, entries);
        List<String> made = new ArrayList<>();
        made.add("new(" + words + ", " + entries + ")");
        for (int i = 0; i < calls; i++) {
            int name = nextName();
            int[] a = arguments(name);
            made.add(NAMES[name] + Arrays.toString(a));
            int got = call(room, NAMES[name], a);
            int due = model.call(NAMES[name], a);
            if (got != due) {
                return made + " answered " + got + ", due is " + due;
            }
            answers[got == -1 ? 0 : got == -2 ? 1 : got == 0 ? 2 : 3]++;
        }
        return null;
    }

    private void runOn(int calls) {
        StackRoom room = new StackRoom(chosen(128, 300, 2000, 32768), chosen(16, 40, 400, 4096));
        for (int i = 0; i < calls; i++) {
            int name = nextName();
            call(room, NAMES[name], arguments(name));
        }
    }

    private int chosen(int... numbers) {
        int number = numbers[random.nextInt(numbers.length)];
        return random.nextInt(3) == 0 ? number + random.nextInt(20) - 10 : number;
    }

    private int nextName() {
        int sum = 0;
        for (int weight : weights) {
            sum += weight;
        }
        int place = random.nextInt(sum);
        int name = 0;
        while (place >= weights[name]) {
            place -= weights[name];
            name++;
        }
        return name;
    }

    /** Arguments that mostly fit, with an odd one now and then. */
    private int[] arguments(int name) {
        switch (NAMES[name]) {
            case "number": return new int[] {register(), any()};
            case "move": case "push": case "pop": case "home": case "sender": case "send":
                return new int[] {register(), register()};
            case "method": case "change": return methodArguments();
            case "context": return new int[] {register(), random.nextInt(3) == 0 ? register() : random.nextInt(3), register()};
            case "block": return new int[] {register(), register(), upTo(15)};
            case "fill": return new int[] {register(), any(), random.nextBoolean() ? upTo(5) : upTo(100)};
            case "peek": case "temporary": return new int[] {register(), register(), upTo(random.nextBoolean() ? 4 : 31)};
            case "drop": return new int[] {register(), upTo(random.nextBoolean() ? 3 : 40)};
            case "kill": return new int[] {register(), random.nextInt(2)};
            case "keep": return new int[] {register(), upTo(random.nextBoolean() ? 4 : 31), register()};
            case "words": case "entries": case "contexts": return new int[0];
            default: return new int[] {register()};
        }
    }

    private int[] methodArguments() {
        int t = random.nextInt(4) == 0 ? upTo(31) : upTo(4);
        int a = random.nextInt(20) == 0 ? upTo(16) : Math.min(15, upTo(Math.max(0, Math.min(t, 31))));
        int register = random.nextInt(3) == 0 ? register() : random.nextInt(3);
        return new int[] {register, a, t, random.nextInt(4) == 0 ? upTo(63) : upTo(6)};
    }

    private boolean odd() {
        return random.nextInt(oddOnesIn) == 0;
    }

    private int register() {
        return odd() ? ODD[random.nextInt(ODD.length)] : random.nextInt(16);
    }

    private int upTo(int most) {
        return odd() ? ODD[random.nextInt(ODD.length)] : random.nextInt(most + 1);
    }

    private int any() {
        return random.nextInt(6) == 0 ? ODD[random.nextInt(ODD.length)] : random.nextInt(2000) - 1000;
    }

    private static int call(StackRoom x, String name, int[] a) {
        switch (name) {
            case "number": return bit(x.number(a[0], a[1]));
            case "move": return bit(x.move(a[0], a[1]));
            case "clear": return bit(x.clear(a[0]));
            case "kind": return x.kind(a[0]);
            case "value": return x.value(a[0]);
            case "method": return x.method(a[0], a[1], a[2], a[3]);
            case "change": return bit(x.change(a[0], a[1], a[2], a[3]));
            case "context": return x.context(a[0], a[1], a[2]);
            case "block": return x.block(a[0], a[1], a[2]);
            case "push": return bit(x.push(a[0], a[1]));
            case "fill": return x.fill(a[0], a[1], a[2]);
            case "pop": return bit(x.pop(a[0], a[1]));
            case "peek": return bit(x.peek(a[0], a[1], a[2]));
            case "drop": return bit(x.drop(a[0], a[1]));
            case "height": return x.height(a[0]);
            case "room": return x.room(a[0]);
            case "floor": return x.floor(a[0]);
            case "count": return x.count(a[0]);
            case "home": return bit(x.home(a[0], a[1]));
            case "sender": return bit(x.sender(a[0], a[1]));
            case "send": return bit(x.send(a[0], a[1]));
            case "kill": return bit(x.kill(a[0], a[1] == 1));
            case "temporary": return bit(x.temporary(a[0], a[1], a[2]));
            case "keep": return bit(x.keep(a[0], a[1], a[2]));
            case "words": return x.words();
            case "entries": return x.entries();
            default: return x.contexts();
        }
    }

    private static int bit(boolean answer) {
        return answer ? 1 : 0;
    }

    /** The document once more, held in another way: objects are their identities, values are longs. */
    private static final class Model {
        private static final long NIL = Long.MIN_VALUE;
        private static final long OBJECT = 1L << 40;

        private final int allWords;
        private final int allEntries;
        private final long[] registers = new long[16];
        private final Map<Integer, int[]> methods = new HashMap<>();
        /** kind, dead, height, count, method or home, sender (0 for nil). */
        private final Map<Integer, int[]> contexts = new HashMap<>();
        private final Map<Integer, long[]> fields = new HashMap<>();
        private int made = 2;

        Model(int words, int entries) {
            allWords = words < 128 || words > 32768 ? 32768 : words;
            allEntries = entries < 16 || entries > 4096 ? 4096 : entries;
            Arrays.fill(registers, NIL);
        }

        int call(String name, int[] a) {
            switch (name) {
                case "number": case "move": case "clear": case "kind": case "value": return ofRegisters(name, a);
                case "method": case "change": case "context": case "block": return ofMaking(name, a);
                case "words": return allWords - 8 - reachable().stream().mapToInt(this::wordsOf).sum();
                case "entries": return entriesLeft();
                case "contexts": return (int) reachable().stream().filter(contexts::containsKey).count();
                case "height": case "room": case "floor": case "count": return ofNumbers(name, a);
                case "push": case "fill": case "pop": case "peek": case "drop": return ofStacks(name, a);
                default: return ofLinks(name, a);
            }
        }

        private int ofRegisters(String name, int[] a) {
            boolean known = there(a[0]);
            switch (name) {
                case "number": return known && isNumber(a[1]) ? become(a[0], a[1]) : 0;
                case "move": return known && there(a[1]) ? become(a[0], registers[a[1]]) : 0;
                case "clear": return known ? become(a[0], NIL) : 0;
                case "kind": return known ? kindOf(registers[a[0]]) : -1;
                default: return !known || registers[a[0]] == NIL ? 0
                    : (int) (registers[a[0]] >= OBJECT ? registers[a[0]] - OBJECT : registers[a[0]]);
            }
        }

        private int ofMaking(String name, int[] a) {
            if (!there(a[0])) {
                return name.equals("change") ? 0 : -1;
            }
            if (name.equals("method") || name.equals("change")) {
                boolean such = a[1] >= 0 && a[1] <= 15 && a[2] >= a[1] && a[2] <= 31 && a[3] >= 0 && a[3] <= 63;
                int[] numbers = {a[1], a[2], a[3]};
                if (name.equals("change")) {
                    return such && kindOf(registers[a[0]]) == 2 && methods.put(object(a[0]), numbers) != null ? 1 : 0;
                }
                if (!such || !fits(10, 2)) {
                    return such ? -2 : -1;
                }
                made += 2;
                methods.put(made, numbers);
            } else if (name.equals("context")) {
                if (!there(a[1]) || kindOf(registers[a[1]]) != 2 || !canSend(a[2])) {
                    return -1;
                }
                int[] numbers = methods.get(object(a[1]));
                if (!fits(9 + numbers[1] + numbers[2], 1)) {
                    return -2;
                }
                make(new int[] {3, 0, numbers[1], -1, object(a[1]), senderIn(a[2])}, numbers[1] + numbers[2]);
            } else {
                if (!isContext(a[1]) || a[2] < 0 || a[2] > 15) {
                    return -1;
                }
                int home = homeOf(object(a[1]));
                int depth = methods.get(contexts.get(home)[4])[2];
                if (!fits(10 + depth, 1)) {
                    return -2;
                }
                make(new int[] {4, 1, 0, a[2], home, 0}, depth);
            }
            become(a[0], OBJECT + made);
            return made;
        }

        private int ofNumbers(String name, int[] a) {
            if (!isContext(a[0])) {
                return -1;
            }
            int[] context = contexts.get(object(a[0]));
            switch (name) {
                case "height": return context[2];
                case "room": return fields.get(object(a[0])).length;
                case "floor": return floorOf(object(a[0]));
                default: return context[3];
            }
        }

        private int ofStacks(String name, int[] a) {
            int c = name.equals("pop") || name.equals("peek") ? a[1] : a[0];
            if (!isContext(c)) {
                return name.equals("fill") ? -1 : 0;
            }
            int[] context = contexts.get(object(c));
            long[] row = fields.get(object(c));
            int depth = context[2] - floorOf(object(c));
            switch (name) {
                case "push":
                    if (!there(a[1]) || context[2] == row.length) {
                        return 0;
                    }
                    row[context[2]++] = registers[a[1]];
                    return 1;
                case "fill":
                    return filled(context, row, a[1], a[2]);
                case "pop":
                    if (!there(a[0]) || depth <= 0) {
                        return 0;
                    }
                    long last = row[--context[2]];
                    row[context[2]] = NIL;
                    return become(a[0], last);
                case "peek":
                    return there(a[0]) && a[2] >= 0 && a[2] < depth ? become(a[0], row[context[2] - a[2] - 1]) : 0;
                default:
                    if (a[1] < 0 || (a[1] > 0 && a[1] > depth)) {
                        return 0;
                    }
                    for (int left = a[1]; left > 0; left--) {
                        row[--context[2]] = NIL;
                    }
                    return 1;
            }
        }

        private int filled(int[] context, long[] row, int v, int many) {
            if (many < 0 || many > 100) {
                return -1;
            }
            for (long number = v; number < (long) v + many; number++) {
                if (!isNumber(number)) {
                    return -1;
                }
            }
            int pushed = Math.min(many, row.length - context[2]);
            for (int i = 0; i < pushed; i++) {
                row[context[2]++] = v + i;
            }
            return pushed;
        }

        private int ofLinks(String name, int[] a) {
            boolean first = name.equals("send") || name.equals("kill") || name.equals("keep");
            int c = first ? a[0] : a[1];
            if (!isContext(c) || !there(a[0])) {
                return 0;
            }
            int[] context = contexts.get(object(c));
            int home = homeOf(object(c));
            switch (name) {
                case "home": return become(a[0], OBJECT + home);
                case "sender": return become(a[0], context[5] == 0 ? NIL : OBJECT + context[5]);
                case "send":
                    if (canSend(a[1])) {
                        context[5] = senderIn(a[1]);
                        return 1;
                    }
                    return 0;
                case "kill":
                    int before = context[1];
                    context[1] = a[1];
                    return before;
                case "temporary": return hasTemporary(home, a[2]) ? become(a[0], fields.get(home)[a[2]]) : 0;
                default:
                    if (!hasTemporary(home, a[1]) || !there(a[2])) {
                        return 0;
                    }
                    fields.get(home)[a[1]] = registers[a[2]];
                    return 1;
            }
        }

        private void make(int[] context, int room) {
            made++;
            contexts.put(made, context);
            long[] row = new long[room];
            Arrays.fill(row, NIL);
            fields.put(made, row);
        }

        private int become(int r, long value) {
            registers[r] = value;
            return 1;
        }

        private boolean there(int r) {
            return 0 <= r && r < 16;
        }

        private boolean isNumber(long v) {
            return -(1L << 30) <= v && v < 1L << 30;
        }

        private int kindOf(long value) {
            if (value < OBJECT) {
                return value == NIL ? 0 : 1;
            }
            int object = (int) (value - OBJECT);
            return methods.containsKey(object) ? 2 : contexts.get(object)[0];
        }

        private int object(int r) {
            return (int) (registers[r] - OBJECT);
        }

        private boolean isContext(int r) {
            return there(r) && kindOf(registers[r]) >= 3;
        }

        private boolean canSend(int s) {
            return there(s) && (registers[s] == NIL || isContext(s));
        }

        private int senderIn(int s) {
            return registers[s] == NIL ? 0 : object(s);
        }

        private int homeOf(int context) {
            return contexts.get(context)[0] == 3 ? context : contexts.get(context)[4];
        }

        private int floorOf(int context) {
            int[] row = contexts.get(context);
            return row[0] == 3 ? methods.get(row[4])[1] : 0;
        }

        private boolean hasTemporary(int home, int i) {
            return i >= 0 && i < floorOf(home) && i < fields.get(home).length;
        }

        private Set<Integer> reachable() {
            Set<Integer> found = new LinkedHashSet<>();
            Deque<Integer> open = new ArrayDeque<>();
            for (long value : registers) {
                find(value, found, open);
            }
            while (!open.isEmpty()) {
                int object = open.pop();
                if (contexts.containsKey(object)) {
                    int[] context = contexts.get(object);
                    find(OBJECT + context[4], found, open);
                    find(context[5] == 0 ? NIL : OBJECT + context[5], found, open);
                    for (long value : fields.get(object)) {
                        find(value, found, open);
                    }
                }
            }
            return found;
        }

        private void find(long value, Set<Integer> found, Deque<Integer> open) {
            if (value >= OBJECT && found.add((int) (value - OBJECT))) {
                open.push((int) (value - OBJECT));
            }
        }

        private int wordsOf(int object) {
            return methods.containsKey(object) ? 10
                : 4 + (contexts.get(object)[0] == 3 ? 5 : 6) + fields.get(object).length;
        }

        private int entriesLeft() {
            Set<Integer> all = reachable();
            return allEntries - 2 - all.size() - (int) all.stream().filter(methods::containsKey).count();
        }

        private boolean fits(int words, int entries) {
            return words <= call("words", new int[0]) && entries <= entriesLeft();
        }
    }
}
