/** Contexts of methods and blocks, with stacks, in a store with little room. */
public final class StackRoom {
    public static final int NONE = -1;
    public static final int FULL = -2;

    private static final int REGISTERS = 16;
    private static final int LEAST_NUMBER = -1073741824;
    private static final int GREATEST_NUMBER = 1073741823;

    private static final int LEAST_WORDS = 128;
    private static final int MOST_WORDS = 32768;
    private static final int LEAST_ENTRIES = 16;
    private static final int MOST_ENTRIES = 4096;

    private static final int MOST_ARGUMENTS = 15;
    private static final int MOST_TEMPORARIES = 31;
    private static final int MOST_DEPTH = 63;
    private static final int MOST_COUNT = 15;
    private static final int MOST_FILLED = 100;

    private static final int KIND_NIL = 0;
    private static final int KIND_NUMBER = 1;
    private static final int KIND_METHOD = 2;
    private static final int KIND_METHOD_CONTEXT = 3;
    private static final int KIND_BLOCK_CONTEXT = 4;

    private static final int OBJECT_WORDS = 4;
    private static final int METHOD_WORDS = 10;
    private static final int METHOD_ENTRIES = 2;
    private static final int CONTEXT_ENTRIES = 1;
    private static final int METHOD_CONTEXT_HEAD = 5;
    private static final int BLOCK_CONTEXT_HEAD = 6;
    private static final int FIRST_OBJECTS = 2;

    private final int allWords;
    private final int allEntries;
    /** Nil is null, here and in the fields of contexts. */
    private final Value[] registers;
    private int made;

    /** What the last survey found; the row is made once, as every survey needs one. */
    private final Thing[] reached;
    private int reachedCount;
    private int round;
    private int wordsLeft;
    private int entriesLeft;
    private int contextsReached;

    public StackRoom(int words, int entries) {
        allWords = isWithin(words, LEAST_WORDS, MOST_WORDS) ? words : MOST_WORDS;
        allEntries = isWithin(entries, LEAST_ENTRIES, MOST_ENTRIES) ? entries : MOST_ENTRIES;
        registers = new Value[REGISTERS];
        // Every reachable thing takes an entry or two, so there are never more of them.
        reached = new Thing[allEntries];
        made = FIRST_OBJECTS;
    }

    // ---- registers

    public boolean number(int r, int v) {
        if (!isRegister(r) || !isNumber(v)) {
            return false;
        }
        registers[r] = new Whole(v);
        return true;
    }

    public boolean move(int r, int from) {
        if (!isRegister(r) || !isRegister(from)) {
            return false;
        }
        registers[r] = registers[from];
        return true;
    }

    public boolean clear(int r) {
        if (!isRegister(r)) {
            return false;
        }
        registers[r] = null;
        return true;
    }

    public int kind(int r) {
        if (!isRegister(r)) {
            return NONE;
        }
        Value held = registers[r];
        return held == null ? KIND_NIL : held.kindCode();
    }

    public int value(int r) {
        if (!isRegister(r)) {
            return 0;
        }
        Value held = registers[r];
        return held == null ? 0 : held.shown();
    }

    // ---- making

    public int method(int r, int a, int t, int d) {
        if (!isRegister(r) || !areMethodNumbers(a, t, d)) {
            return NONE;
        }
        if (!canBeMade(METHOD_WORDS, METHOD_ENTRIES)) {
            return FULL;
        }
        // The method's other object is made first, and so has the identity before.
        made += METHOD_ENTRIES;
        registers[r] = new Method(made, t, d);
        return made;
    }

    public boolean change(int r, int a, int t, int d) {
        Method method = methodIn(r);
        if (method == null || !areMethodNumbers(a, t, d)) {
            return false;
        }
        method.setNumbers(t, d);
        return true;
    }

    public int context(int r, int m, int s) {
        Method method = methodIn(m);
        if (!isRegister(r) || method == null || !isSender(s)) {
            return NONE;
        }
        int fields = method.temporaries + method.depth;
        if (!canBeMade(OBJECT_WORDS + METHOD_CONTEXT_HEAD + fields, CONTEXT_ENTRIES)) {
            return FULL;
        }
        made++;
        registers[r] = new MethodContext(made, method, contextIn(s));
        return made;
    }

    public int block(int r, int c, int count) {
        Context context = contextIn(c);
        if (!isRegister(r) || context == null || !isWithin(count, 0, MOST_COUNT)) {
            return NONE;
        }
        MethodContext home = context.homeContext();
        int fields = home.method.depth;
        if (!canBeMade(OBJECT_WORDS + BLOCK_CONTEXT_HEAD + fields, CONTEXT_ENTRIES)) {
            return FULL;
        }
        made++;
        registers[r] = new BlockContext(made, home, count);
        return made;
    }

    // ---- stacks

    public boolean push(int c, int from) {
        Context context = contextIn(c);
        if (context == null || !isRegister(from) || context.isFull()) {
            return false;
        }
        context.pushOne(registers[from]);
        return true;
    }

    public int fill(int c, int v, int many) {
        Context context = contextIn(c);
        if (context == null || !isWithin(many, 0, MOST_FILLED) || !areNumbers(v, many)) {
            return NONE;
        }
        int pushed = 0;
        while (pushed < many && !context.isFull()) {
            context.pushOne(new Whole(v + pushed));
            pushed++;
        }
        return pushed;
    }

    public boolean pop(int r, int c) {
        Context context = contextIn(c);
        if (!isRegister(r) || context == null || context.depthNow() <= 0) {
            return false;
        }
        registers[r] = context.popOne();
        return true;
    }

    public boolean peek(int r, int c, int under) {
        Context context = contextIn(c);
        if (!isRegister(r) || context == null || under < 0 || under >= context.depthNow()) {
            return false;
        }
        registers[r] = context.fieldAt(context.height - 1 - under);
        return true;
    }

    public boolean drop(int c, int many) {
        Context context = contextIn(c);
        if (context == null || many < 0) {
            return false;
        }
        if (many > 0 && many > context.depthNow()) {
            return false;
        }
        for (int i = 0; i < many; i++) {
            context.popOne();
        }
        return true;
    }

    public int height(int c) {
        Context context = contextIn(c);
        return context == null ? NONE : context.height;
    }

    public int room(int c) {
        Context context = contextIn(c);
        return context == null ? NONE : context.fields.length;
    }

    public int floor(int c) {
        Context context = contextIn(c);
        return context == null ? NONE : context.floorNow();
    }

    public int count(int c) {
        if (isRegister(c) && registers[c] instanceof BlockContext block) {
            return block.count;
        }
        return NONE;
    }

    // ---- links and temporaries

    public boolean home(int r, int c) {
        Context context = contextIn(c);
        if (!isRegister(r) || context == null) {
            return false;
        }
        registers[r] = context.homeContext();
        return true;
    }

    public boolean sender(int r, int c) {
        Context context = contextIn(c);
        if (!isRegister(r) || context == null) {
            return false;
        }
        registers[r] = context.sender;
        return true;
    }

    public boolean send(int c, int s) {
        Context context = contextIn(c);
        if (context == null || !isSender(s)) {
            return false;
        }
        context.sender = contextIn(s);
        return true;
    }

    public boolean kill(int c, boolean dead) {
        Context context = contextIn(c);
        if (context == null) {
            return false;
        }
        boolean before = context.dead;
        context.dead = dead;
        return before;
    }

    public boolean temporary(int r, int c, int i) {
        Context context = contextIn(c);
        if (!isRegister(r) || context == null || !context.homeContext().hasTemporary(i)) {
            return false;
        }
        registers[r] = context.homeContext().fieldAt(i);
        return true;
    }

    public boolean keep(int c, int i, int from) {
        Context context = contextIn(c);
        if (context == null || !isRegister(from) || !context.homeContext().hasTemporary(i)) {
            return false;
        }
        context.homeContext().putField(i, registers[from]);
        return true;
    }

    // ---- room

    public int words() {
        survey();
        return wordsLeft;
    }

    public int entries() {
        survey();
        return entriesLeft;
    }

    public int contexts() {
        survey();
        return contextsReached;
    }

    // ---- tests of arguments

    private static boolean isWithin(int number, int least, int most) {
        return number >= least && number <= most;
    }

    private static boolean isRegister(int r) {
        return isWithin(r, 0, REGISTERS - 1);
    }

    private static boolean isNumber(int v) {
        return isWithin(v, LEAST_NUMBER, GREATEST_NUMBER);
    }

    /** Whether v and those behind it, so many in all, are numbers; none of them is looked at when many is 0. */
    private static boolean areNumbers(int v, int many) {
        // Taken from the top, as v + many could wrap around.
        return many == 0 || (isNumber(v) && v <= GREATEST_NUMBER - (many - 1));
    }

    private static boolean areMethodNumbers(int a, int t, int d) {
        return isWithin(a, 0, MOST_ARGUMENTS) && isWithin(t, a, MOST_TEMPORARIES) && isWithin(d, 0, MOST_DEPTH);
    }

    private boolean isSender(int s) {
        return isRegister(s) && (registers[s] == null || registers[s] instanceof Context);
    }

    private Method methodIn(int r) {
        if (isRegister(r) && registers[r] instanceof Method method) {
            return method;
        }
        return null;
    }

    private Context contextIn(int r) {
        if (isRegister(r) && registers[r] instanceof Context context) {
            return context;
        }
        return null;
    }

    // ---- what is reachable

    private boolean canBeMade(int words, int entries) {
        survey();
        return words <= wordsLeft && entries <= entriesLeft;
    }

    /** Finds anew all that is reachable, since senders may form rings that no count of users would see. */
    private void survey() {
        round++;
        reachedCount = 0;
        wordsLeft = allWords - FIRST_OBJECTS * OBJECT_WORDS;
        entriesLeft = allEntries - FIRST_OBJECTS;
        contextsReached = 0;
        for (int i = 0; i < registers.length; i++) {
            reach(registers[i]);
        }
        for (int i = 0; i < reachedCount && i < reached.length; i++) {
            if (reached[i] instanceof Context context) {
                contextsReached++;
                reachPartsOf(context);
            }
        }
    }

    private void reachPartsOf(Context context) {
        reach(context.sender);
        reach(context.origin());
        for (int i = 0; i < context.fields.length; i++) {
            reach(context.fields[i]);
        }
    }

    private void reach(Value value) {
        if (value instanceof Thing thing && thing.round != round && reachedCount < reached.length) {
            thing.round = round;
            reached[reachedCount] = thing;
            reachedCount++;
            wordsLeft -= thing.wordsTaken();
            entriesLeft -= thing.entriesTaken();
        }
    }

    /** What a register or a field can have, but for nil. */
    private abstract static class Value {
        abstract int kindCode();

        abstract int shown();
    }

    private static final class Whole extends Value {
        private final int amount;

        Whole(int amount) {
            this.amount = amount;
        }

        int kindCode() {
            return KIND_NUMBER;
        }

        int shown() {
            return amount;
        }
    }

    /** An object of the store, or the two that a method is. */
    private abstract static class Thing extends Value {
        private final int identity;
        /** The last survey that reached it: so no survey has to wipe the marks of the one before. */
        private int round;

        Thing(int identity) {
            this.identity = identity;
        }

        int shown() {
            return identity;
        }

        abstract int wordsTaken();

        abstract int entriesTaken();
    }

    /** Its A is only looked at when it is given: no call answers it or depends on it later. */
    private static final class Method extends Thing {
        private int temporaries;
        private int depth;

        Method(int identity, int temporaries, int depth) {
            super(identity);
            this.temporaries = temporaries;
            this.depth = depth;
        }

        void setNumbers(int t, int d) {
            temporaries = t;
            depth = d;
        }

        int kindCode() {
            return KIND_METHOD;
        }

        int wordsTaken() {
            return METHOD_WORDS;
        }

        int entriesTaken() {
            return METHOD_ENTRIES;
        }
    }

    private abstract static class Context extends Thing {
        private Context sender;
        private boolean dead;
        private int height;
        /** The fields behind the first five or six. */
        private final Value[] fields;

        Context(int identity, Context sender, boolean dead, int height, int room) {
            super(identity);
            this.sender = sender;
            this.dead = dead;
            this.height = height;
            this.fields = new Value[room];
        }

        /** How many fields lie before those that can be in use. */
        abstract int headFields();

        abstract int floorNow();

        abstract MethodContext homeContext();

        /** Its method or home. */
        abstract Thing origin();

        int wordsTaken() {
            return OBJECT_WORDS + headFields() + fields.length;
        }

        int entriesTaken() {
            return CONTEXT_ENTRIES;
        }

        boolean isFull() {
            return height >= fields.length;
        }

        int depthNow() {
            return height - floorNow();
        }

        boolean hasField(int i) {
            return i >= 0 && i < fields.length;
        }

        Value fieldAt(int i) {
            return hasField(i) ? fields[i] : null;
        }

        void putField(int i, Value value) {
            if (hasField(i)) {
                fields[i] = value;
            }
        }

        void pushOne(Value value) {
            putField(height, value);
            height++;
        }

        Value popOne() {
            height--;
            Value last = fieldAt(height);
            putField(height, null);
            return last;
        }
    }

    private static final class MethodContext extends Context {
        private final Method method;

        MethodContext(int identity, Method method, Context sender) {
            super(identity, sender, false, method.temporaries, method.temporaries + method.depth);
            this.method = method;
        }

        boolean hasTemporary(int i) {
            return i < method.temporaries && hasField(i);
        }

        int kindCode() {
            return KIND_METHOD_CONTEXT;
        }

        int headFields() {
            return METHOD_CONTEXT_HEAD;
        }

        int floorNow() {
            return method.temporaries;
        }

        MethodContext homeContext() {
            return this;
        }

        Thing origin() {
            return method;
        }
    }

    private static final class BlockContext extends Context {
        private final MethodContext home;
        private final int count;

        BlockContext(int identity, MethodContext home, int count) {
            super(identity, null, true, 0, home.method.depth);
            this.home = home;
            this.count = count;
        }

        int kindCode() {
            return KIND_BLOCK_CONTEXT;
        }

        int headFields() {
            return BLOCK_CONTEXT_HEAD;
        }

        int floorNow() {
            return 0;
        }

        MethodContext homeContext() {
            return home;
        }

        Thing origin() {
            return home;
        }
    }
}
