import java.util.ArrayList;
import java.util.List;

/**
 * "Calls whose register is none (0 .. 15) answer NONE or false. A call that is refused changes nothing."
 * Every reason for which a call can be refused, each on an object of its own, which is then compared, as deep as
 * calls can see, with a twin that was never asked.
 */
public final class RefusedTest {
    private static final int NONE = -1;
    private static final int FULL = -2;
    private static final int FALSE = 0;
    private static final int TRUE = 1;

    private static final int LEAST = Integer.MIN_VALUE;
    private static final int GREATEST = Integer.MAX_VALUE;
    private static final int LEAST_NUMBER = -1073741824;
    private static final int GREATEST_NUMBER = 1073741823;
    private static final int[] NO_REGISTERS = {-1, 16, -16, 17, 256, LEAST, GREATEST};

    /** What the registers of the object that rich() makes have; registers 0, 13 and 15 are nil, too. */
    private static final int METHOD = 1;
    private static final int CONTEXT = 2;
    private static final int BLOCK = 3;
    private static final int NUMBER = 4;
    private static final int FULL_CONTEXT = 5;
    private static final int FULL_BLOCK = 6;
    private static final int GROWN_METHOD = 7;
    private static final int GROWN_CONTEXT = 8;
    private static final int EMPTY_CONTEXT = 9;
    private static final int EMPTY_BLOCK = 10;
    private static final int NIL = 12;
    private static final int OTHER = 13;
    /** For look() to use. */
    private static final int SPARE = 14;
    private static final int NEXT_IDENTITY = 14;

    private interface Maker {
        StackRoom make();
    }

    private interface Call {
        int on(StackRoom x);
    }

    private interface CallWith {
        int on(StackRoom x, int argument);
    }

    private static int wrong = 0;
    private static int looked = 0;

    public static void main(String[] args) {
        everyChangeIsSeen();
        registersOfRegisterCalls();
        registersOfMaking();
        registersOfStacks();
        registersOfLinks();
        number();
        methodAndChange();
        context();
        block();
        push();
        fill();
        pop();
        peek();
        drop();
        questions();
        homeAndSender();
        send();
        kill();
        temporaryAndKeep();
        noWords();
        noEntries();
        System.out.println(looked + " answers looked at, " + wrong + " not as due");
        if (wrong != 0) {
            System.exit(1);
        }
    }

    // ---- what is compared

    private static void due(String what, Object got, Object want) {
        looked++;
        if (!got.equals(want)) {
            wrong++;
            System.out.println(what + ": answered " + got + ", due is " + want);
        }
    }

    private static int bit(boolean answer) {
        return answer ? TRUE : FALSE;
    }

    private static void refused(String what, Maker maker, Call call, int answer) {
        StackRoom x = maker.make();
        due(what, call.on(x), answer);
        due(what + ", and what is there then", look(x), look(maker.make()));
    }

    private static void refused(String what, Call call, int answer) {
        refused(what, RefusedTest::rich, call, answer);
    }

    private static void refusedWithEach(String what, int[] arguments, CallWith call, int answer) {
        for (int argument : arguments) {
            refused(what + " with " + argument, x -> call.on(x, argument), answer);
        }
    }

    /** All that calls can tell of an object, which is used up by it. */
    private static String look(StackRoom x) {
        StringBuilder seen = new StringBuilder();
        seen.append(x.words()).append(' ').append(x.entries()).append(' ').append(x.contexts());
        List<Integer> contexts = new ArrayList<>();
        List<Integer> methods = new ArrayList<>();
        for (int r = 0; r < 16; r++) {
            int kind = x.kind(r);
            seen.append(" | ").append(r).append(": ").append(kind).append(' ').append(x.value(r));
            if (kind == 2) {
                methods.add(r);
            }
            if (kind == 3 || kind == 4) {
                contexts.add(r);
                lookAtSizes(x, r, seen);
            }
        }
        for (int r : contexts) {
            lookInside(x, r, seen);
        }
        // Away with them, so that there is room for what shows T and D, and the next identity.
        for (int r : contexts) {
            x.clear(r);
        }
        for (int r : methods) {
            lookAtNewContext(x, r, seen);
        }
        for (int r : methods) {
            x.clear(r);
        }
        return seen.append(" | next ").append(x.method(SPARE, 0, 0, 0)).toString();
    }

    private static void lookAtSizes(StackRoom x, int r, StringBuilder seen) {
        seen.append(" h").append(x.height(r)).append(" r").append(x.room(r));
        seen.append(" f").append(x.floor(r)).append(" c").append(x.count(r));
    }

    private static void lookInside(StackRoom x, int r, StringBuilder seen) {
        seen.append(" | in ").append(r).append(": ").append(x.kill(r, false));
        x.sender(SPARE, r);
        seen.append(' ').append(x.value(SPARE));
        x.home(SPARE, r);
        seen.append(' ').append(x.value(SPARE)).append(" t");
        for (int i = 0; x.kind(r) == 3 && x.temporary(SPARE, r, i); i++) {
            seen.append(' ').append(x.kind(SPARE)).append(':').append(x.value(SPARE));
        }
        seen.append(" s");
        for (int i = 0; x.peek(SPARE, r, i); i++) {
            seen.append(' ').append(x.kind(SPARE)).append(':').append(x.value(SPARE));
        }
    }

    private static void lookAtNewContext(StackRoom x, int r, StringBuilder seen) {
        x.clear(SPARE);
        seen.append(" | new of ").append(r).append(": ").append(x.context(SPARE, r, SPARE));
        seen.append(" f").append(x.floor(SPARE)).append(" r").append(x.room(SPARE));
        x.clear(SPARE);
    }

    // ---- the object that refuses

    private static StackRoom rich() {
        StackRoom x = new StackRoom(4000, 400);
        x.method(METHOD, 1, 2, 3);
        x.number(NUMBER, 77);
        x.context(CONTEXT, METHOD, NIL);
        x.keep(CONTEXT, 0, NUMBER);
        x.fill(CONTEXT, 60, 2);
        x.block(BLOCK, CONTEXT, 3);
        x.fill(BLOCK, 70, 1);
        x.send(BLOCK, CONTEXT);
        x.context(FULL_CONTEXT, METHOD, BLOCK);
        x.fill(FULL_CONTEXT, 80, 3);
        x.kill(FULL_CONTEXT, true);
        x.block(FULL_BLOCK, CONTEXT, 15);
        x.fill(FULL_BLOCK, 90, 3);
        x.kill(FULL_BLOCK, false);
        x.method(GROWN_METHOD, 0, 1, 2);
        x.context(GROWN_CONTEXT, GROWN_METHOD, CONTEXT);
        x.fill(GROWN_CONTEXT, 50, 1);
        x.change(GROWN_METHOD, 0, 5, 1);
        x.context(EMPTY_CONTEXT, METHOD, NIL);
        x.block(EMPTY_BLOCK, EMPTY_CONTEXT, 0);
        return x;
    }

    /** If look() were blind, nothing here would ever fail: so each single change must show in it. */
    private static void everyChangeIsSeen() {
        due("two that are alike", look(rich()), look(rich()));
        seen("number", x -> bit(x.number(NUMBER, 78)));
        seen("move", x -> bit(x.move(OTHER, NUMBER)));
        seen("clear", x -> bit(x.clear(NUMBER)));
        seen("method", x -> x.method(OTHER, 0, 0, 0));
        seen("a method that is gone again", x -> x.method(OTHER, 0, 0, 0) + bit(x.clear(OTHER)));
        seen("change of T", x -> bit(x.change(METHOD, 1, 3, 3)));
        seen("change of D", x -> bit(x.change(METHOD, 1, 2, 4)));
        seen("push", x -> bit(x.push(CONTEXT, NUMBER)));
        seen("pop", x -> bit(x.pop(OTHER, CONTEXT)));
        seen("another value on the stack", x -> bit(x.drop(CONTEXT, 1) && x.push(CONTEXT, NUMBER)));
        seen("drop", x -> bit(x.drop(BLOCK, 1)));
        seen("send", x -> bit(x.send(BLOCK, BLOCK)));
        seen("a context killed", x -> 1 + bit(x.kill(CONTEXT, true)));
        seen("a block not dead", x -> bit(x.kill(EMPTY_BLOCK, false)));
        seen("keep", x -> bit(x.keep(CONTEXT, 1, NUMBER)));
        seen("keep beyond the height", x -> bit(x.keep(GROWN_CONTEXT, 2, NUMBER)));
    }

    private static void seen(String what, Call call) {
        StackRoom x = rich();
        due(what + " is done", call.on(x) > 0, true);
        due(what + " is seen", look(x).equals(look(rich())), false);
    }

    // ---- "REGISTERS are 0 .. 15"; "Calls whose register is none (0 .. 15) answer NONE or false."

    private static void registersOfRegisterCalls() {
        register("number(q, ..)", NIL, (x, q) -> bit(x.number(q, 1)), TRUE, FALSE);
        register("move(q, ..)", NIL, (x, q) -> bit(x.move(q, NUMBER)), TRUE, FALSE);
        register("move(.., q)", NUMBER, (x, q) -> bit(x.move(OTHER, q)), TRUE, FALSE);
        register("move(q, q)", NUMBER, (x, q) -> bit(x.move(q, q)), TRUE, FALSE);
        register("clear(q)", NUMBER, (x, q) -> bit(x.clear(q)), TRUE, FALSE);
        register("kind(q)", CONTEXT, (x, q) -> x.kind(q), 3, NONE);
        // Promise 6: 0 "when there is none such".
        register("value(q)", NUMBER, (x, q) -> x.value(q), 77, 0);
    }

    private static void registersOfMaking() {
        register("method(q, ..)", NIL, (x, q) -> x.method(q, 0, 0, 0), NEXT_IDENTITY + 1, NONE);
        register("change(q, ..)", METHOD, (x, q) -> bit(x.change(q, 0, 0, 0)), TRUE, FALSE);
        register("context(q, ..)", NIL, (x, q) -> x.context(q, METHOD, CONTEXT), NEXT_IDENTITY, NONE);
        register("context(.., q, ..)", METHOD, (x, q) -> x.context(OTHER, q, CONTEXT), NEXT_IDENTITY, NONE);
        register("context(.., .., q)", CONTEXT, (x, q) -> x.context(OTHER, METHOD, q), NEXT_IDENTITY, NONE);
        register("context(q, q, ..)", METHOD, (x, q) -> x.context(q, q, CONTEXT), NEXT_IDENTITY, NONE);
        register("block(q, ..)", NIL, (x, q) -> x.block(q, CONTEXT, 0), NEXT_IDENTITY, NONE);
        register("block(.., q, ..)", CONTEXT, (x, q) -> x.block(OTHER, q, 0), NEXT_IDENTITY, NONE);
        register("block(q, q, ..)", BLOCK, (x, q) -> x.block(q, q, 0), NEXT_IDENTITY, NONE);
    }

    private static void registersOfStacks() {
        register("push(q, ..)", CONTEXT, (x, q) -> bit(x.push(q, NUMBER)), TRUE, FALSE);
        register("push(.., q)", NUMBER, (x, q) -> bit(x.push(CONTEXT, q)), TRUE, FALSE);
        register("push(q, q)", CONTEXT, (x, q) -> bit(x.push(q, q)), TRUE, FALSE);
        register("fill(q, ..)", CONTEXT, (x, q) -> x.fill(q, 1, 5), 1, NONE);
        register("fill(q, .., 0)", CONTEXT, (x, q) -> x.fill(q, 1, 0), 0, NONE);
        register("pop(q, ..)", NIL, (x, q) -> bit(x.pop(q, BLOCK)), TRUE, FALSE);
        register("pop(.., q)", BLOCK, (x, q) -> bit(x.pop(OTHER, q)), TRUE, FALSE);
        register("peek(q, ..)", NIL, (x, q) -> bit(x.peek(q, BLOCK, 0)), TRUE, FALSE);
        register("peek(.., q, ..)", BLOCK, (x, q) -> bit(x.peek(OTHER, q, 0)), TRUE, FALSE);
        register("drop(q, 1)", BLOCK, (x, q) -> bit(x.drop(q, 1)), TRUE, FALSE);
        register("drop(q, 0)", BLOCK, (x, q) -> bit(x.drop(q, 0)), TRUE, FALSE);
        register("height(q)", CONTEXT, (x, q) -> x.height(q), 4, NONE);
        register("room(q)", CONTEXT, (x, q) -> x.room(q), 5, NONE);
        register("floor(q)", CONTEXT, (x, q) -> x.floor(q), 2, NONE);
        register("count(q)", BLOCK, (x, q) -> x.count(q), 3, NONE);
    }

    private static void registersOfLinks() {
        register("home(q, ..)", NIL, (x, q) -> bit(x.home(q, BLOCK)), TRUE, FALSE);
        register("home(.., q)", BLOCK, (x, q) -> bit(x.home(OTHER, q)), TRUE, FALSE);
        register("sender(q, ..)", NIL, (x, q) -> bit(x.sender(q, BLOCK)), TRUE, FALSE);
        register("sender(.., q)", BLOCK, (x, q) -> bit(x.sender(OTHER, q)), TRUE, FALSE);
        register("send(q, ..)", CONTEXT, (x, q) -> bit(x.send(q, BLOCK)), TRUE, FALSE);
        register("send(.., q)", BLOCK, (x, q) -> bit(x.send(CONTEXT, q)), TRUE, FALSE);
        register("kill(q, true)", FULL_CONTEXT, (x, q) -> bit(x.kill(q, true)), TRUE, FALSE);
        register("kill(q, false)", FULL_CONTEXT, (x, q) -> bit(x.kill(q, false)), TRUE, FALSE);
        register("temporary(q, ..)", NIL, (x, q) -> bit(x.temporary(q, BLOCK, 0)), TRUE, FALSE);
        register("temporary(.., q, ..)", BLOCK, (x, q) -> bit(x.temporary(OTHER, q, 0)), TRUE, FALSE);
        register("keep(q, ..)", CONTEXT, (x, q) -> bit(x.keep(q, 0, BLOCK)), TRUE, FALSE);
        register("keep(.., .., q)", NUMBER, (x, q) -> bit(x.keep(CONTEXT, 0, q)), TRUE, FALSE);
    }

    /** The first and the last register do, when they have what the named one has; what lies beyond is none. */
    private static void register(String what, int named, CallWith call, int answer, int none) {
        int[] ends = {0, 15};
        for (int q : ends) {
            StackRoom x = rich();
            x.move(q, named);
            due(what + " with q = " + q, call.on(x, q), answer);
        }
        refusedWithEach(what, NO_REGISTERS, call, none);
    }

    // ---- "A call that is refused changes nothing.": promise by promise

    private static void number() {
        int[] none = {LEAST_NUMBER - 1, GREATEST_NUMBER + 1, LEAST, GREATEST};
        refusedWithEach("2 number", none, (x, v) -> bit(x.number(NUMBER, v)), FALSE);
        refusedWithEach("2 number over a context", none, (x, v) -> bit(x.number(CONTEXT, v)), FALSE);
        refusedWithEach("2 number over nil", none, (x, v) -> bit(x.number(NIL, v)), FALSE);
    }

    private static void methodAndChange() {
        int[][] none = {{-1, 0, 0}, {16, 16, 0}, {16, 31, 0}, {1, 0, 0}, {15, 14, 0}, {0, -1, 0}, {0, 32, 0},
            {15, 32, 0}, {0, 0, -1}, {0, 0, 64}, {LEAST, 0, 0}, {GREATEST, GREATEST, 0}, {0, LEAST, 0},
            {0, GREATEST, 0}, {0, 0, LEAST}, {0, 0, GREATEST}};
        for (int[] n : none) {
            String numbers = n[0] + ", " + n[1] + ", " + n[2];
            refused("7 method of " + numbers, x -> x.method(OTHER, n[0], n[1], n[2]), NONE);
            refused("7 method over another " + numbers, x -> x.method(METHOD, n[0], n[1], n[2]), NONE);
            refused("8 change to " + numbers, x -> bit(x.change(METHOD, n[0], n[1], n[2])), FALSE);
        }
        int[] noMethods = {NIL, NUMBER, CONTEXT, BLOCK};
        refusedWithEach("8 change of what is none", noMethods, (x, r) -> bit(x.change(r, 0, 1, 1)), FALSE);
    }

    private static void context() {
        int[] noMethods = {NIL, NUMBER, CONTEXT, BLOCK};
        refusedWithEach("9 context of no method", noMethods, (x, m) -> x.context(OTHER, m, NIL), NONE);
        refusedWithEach("9 context over no method", noMethods, (x, m) -> x.context(m, m, NIL), NONE);
        int[] noSenders = {NUMBER, METHOD, GROWN_METHOD};
        refusedWithEach("9 context by no sender", noSenders, (x, s) -> x.context(OTHER, METHOD, s), NONE);
        refusedWithEach("9 context over no sender", noSenders, (x, s) -> x.context(s, METHOD, s), NONE);
    }

    private static void block() {
        int[] noCounts = {-1, 16, LEAST, GREATEST};
        refusedWithEach("10 block with count", noCounts, (x, n) -> x.block(OTHER, CONTEXT, n), NONE);
        refusedWithEach("10 block of a block with count", noCounts, (x, n) -> x.block(BLOCK, BLOCK, n), NONE);
        int[] noContexts = {NIL, NUMBER, METHOD};
        refusedWithEach("10 block of no context", noContexts, (x, c) -> x.block(OTHER, c, 0), NONE);
        refusedWithEach("10 block over no context", noContexts, (x, c) -> x.block(c, c, 0), NONE);
    }

    private static void push() {
        int[] noContexts = {NIL, NUMBER, METHOD};
        refusedWithEach("11 push onto none", noContexts, (x, c) -> bit(x.push(c, NUMBER)), FALSE);
        int[] full = {FULL_CONTEXT, FULL_BLOCK};
        refusedWithEach("11 push onto a full one", full, (x, c) -> bit(x.push(c, NUMBER)), FALSE);
        refusedWithEach("11 push of itself onto a full one", full, (x, c) -> bit(x.push(c, c)), FALSE);
        refusedWithEach("11 push of nil onto a full one", full, (x, c) -> bit(x.push(c, NIL)), FALSE);
    }

    private static void fill() {
        int[] noContexts = {NIL, NUMBER, METHOD};
        refusedWithEach("12 fill of none", noContexts, (x, c) -> x.fill(c, 0, 1), NONE);
        refusedWithEach("12 fill of none by nothing", noContexts, (x, c) -> x.fill(c, 0, 0), NONE);
        int[] notSuch = {-1, 101, -100, LEAST, GREATEST};
        refusedWithEach("12 fill, so many", notSuch, (x, n) -> x.fill(EMPTY_CONTEXT, 0, n), NONE);
        refusedWithEach("12 fill of a full one, so many", notSuch, (x, n) -> x.fill(FULL_BLOCK, 0, n), NONE);
        int[] noNumbers = {LEAST_NUMBER - 1, GREATEST_NUMBER + 1, LEAST, GREATEST};
        refusedWithEach("12 fill by one from", noNumbers, (x, v) -> x.fill(EMPTY_CONTEXT, v, 1), NONE);
        refusedWithEach("12 fill by 100 from", noNumbers, (x, v) -> x.fill(EMPTY_CONTEXT, v, 100), NONE);
        refusedWithEach("12 fill of a full one from", noNumbers, (x, v) -> x.fill(FULL_CONTEXT, v, 1), NONE);
        int[] beyond = {2, 3, 99, 100};
        refusedWithEach("12 fill, the last one none", beyond,
            (x, n) -> x.fill(EMPTY_CONTEXT, GREATEST_NUMBER - n + 2, n), NONE);
        refusedWithEach("12 fill, the last one none, which would not be pushed", beyond,
            (x, n) -> x.fill(FULL_CONTEXT, GREATEST_NUMBER - n + 2, n), NONE);
        refusedWithEach("12 fill, the first one none", beyond,
            (x, n) -> x.fill(EMPTY_CONTEXT, LEAST_NUMBER - 1, n), NONE);
        // Nothing is refused here, but nothing is pushed either.
        refusedWithEach("12 fill by nothing from", noNumbers, (x, v) -> x.fill(EMPTY_CONTEXT, v, 0), 0);
        refusedWithEach("12 fill of a full one", new int[] {0, 1, 99, 100}, (x, n) -> x.fill(FULL_BLOCK, 0, n), 0);
    }

    private static void pop() {
        int[] noContexts = {NIL, NUMBER, METHOD};
        refusedWithEach("13 pop of none", noContexts, (x, c) -> bit(x.pop(OTHER, c)), FALSE);
        int[] empty = {EMPTY_CONTEXT, EMPTY_BLOCK, GROWN_CONTEXT};
        refusedWithEach("13 pop of an empty one", empty, (x, c) -> bit(x.pop(OTHER, c)), FALSE);
        refusedWithEach("13 pop of an empty one over itself", empty, (x, c) -> bit(x.pop(c, c)), FALSE);
        refusedWithEach("13 pop into no register", NO_REGISTERS, (x, r) -> bit(x.pop(r, FULL_CONTEXT)), FALSE);
    }

    private static void peek() {
        int[] noContexts = {NIL, NUMBER, METHOD};
        refusedWithEach("14 peek of none", noContexts, (x, c) -> bit(x.peek(OTHER, c, 0)), FALSE);
        int[] empty = {EMPTY_CONTEXT, EMPTY_BLOCK, GROWN_CONTEXT};
        refusedWithEach("14 peek of an empty one", empty, (x, c) -> bit(x.peek(OTHER, c, 0)), FALSE);
        refusedWithEach("14 peek of an empty one at -1", empty, (x, c) -> bit(x.peek(NUMBER, c, -1)), FALSE);
        int[] notSuch = {-1, -2, 2, 3, 4, 5, LEAST, GREATEST};
        refusedWithEach("14 peek of two", notSuch, (x, n) -> bit(x.peek(NUMBER, CONTEXT, n)), FALSE);
        refusedWithEach("14 peek of two over itself", notSuch, (x, n) -> bit(x.peek(CONTEXT, CONTEXT, n)), FALSE);
        int[] notInBlock = {-1, 3, 4, LEAST, GREATEST};
        refusedWithEach("14 peek of a block's three", notInBlock, (x, n) -> bit(x.peek(OTHER, FULL_BLOCK, n)), FALSE);
    }

    private static void drop() {
        int[] noContexts = {NIL, NUMBER, METHOD};
        refusedWithEach("15 drop of none", noContexts, (x, c) -> bit(x.drop(c, 1)), FALSE);
        refusedWithEach("15 drop of none, nothing", noContexts, (x, c) -> bit(x.drop(c, 0)), FALSE);
        int[] notSuch = {-1, 3, 4, LEAST, GREATEST};
        refusedWithEach("15 drop of two", notSuch, (x, n) -> bit(x.drop(CONTEXT, n)), FALSE);
        int[] notInBlock = {-1, 4, LEAST, GREATEST};
        refusedWithEach("15 drop of a block's three", notInBlock, (x, n) -> bit(x.drop(FULL_BLOCK, n)), FALSE);
        int[] any = {-4, -3, -1, 1, 2, LEAST, GREATEST};
        refusedWithEach("15 drop of depth 0", any, (x, n) -> bit(x.drop(EMPTY_CONTEXT, n)), FALSE);
        refusedWithEach("15 drop of an empty block", any, (x, n) -> bit(x.drop(EMPTY_BLOCK, n)), FALSE);
        refusedWithEach("15 drop of a depth below 0", any, (x, n) -> bit(x.drop(GROWN_CONTEXT, n)), FALSE);
        // Nothing is refused here, but nothing is popped either.
        int[] empty = {EMPTY_CONTEXT, EMPTY_BLOCK, GROWN_CONTEXT, FULL_CONTEXT};
        refusedWithEach("15 drop of nothing", empty, (x, c) -> bit(x.drop(c, 0)), TRUE);
    }

    private static void questions() {
        int[] noContexts = {NIL, NUMBER, METHOD};
        refusedWithEach("16 height of none", noContexts, (x, c) -> x.height(c), NONE);
        refusedWithEach("17 room of none", noContexts, (x, c) -> x.room(c), NONE);
        refusedWithEach("18 floor of none", noContexts, (x, c) -> x.floor(c), NONE);
        int[] noBlocks = {NIL, NUMBER, METHOD, CONTEXT, FULL_CONTEXT};
        refusedWithEach("19 count of none", noBlocks, (x, c) -> x.count(c), NONE);
        refused("26 words", x -> x.words(), 4000 - 8 - 2 * 10 - 3 * 14 - 12 - 3 * 13);
        refused("27 entries", x -> x.entries(), 400 - 2 - 2 * 2 - 7);
        refused("28 contexts", x -> x.contexts(), 7);
    }

    private static void homeAndSender() {
        int[] noContexts = {NIL, NUMBER, METHOD};
        refusedWithEach("20 home of none", noContexts, (x, c) -> bit(x.home(OTHER, c)), FALSE);
        refusedWithEach("20 home of none over it", noContexts, (x, c) -> bit(x.home(c, c)), FALSE);
        refusedWithEach("20 home of none over another", noContexts, (x, c) -> bit(x.home(BLOCK, c)), FALSE);
        refusedWithEach("21 sender of none", noContexts, (x, c) -> bit(x.sender(OTHER, c)), FALSE);
        refusedWithEach("21 sender of none over it", noContexts, (x, c) -> bit(x.sender(c, c)), FALSE);
        refusedWithEach("21 sender of none over another", noContexts, (x, c) -> bit(x.sender(BLOCK, c)), FALSE);
    }

    private static void send() {
        int[] noContexts = {NIL, NUMBER, METHOD};
        refusedWithEach("22 send of none", noContexts, (x, c) -> bit(x.send(c, CONTEXT)), FALSE);
        refusedWithEach("22 send of none to nil", noContexts, (x, c) -> bit(x.send(c, NIL)), FALSE);
        int[] noSenders = {NUMBER, METHOD, GROWN_METHOD};
        refusedWithEach("22 send to what is none", noSenders, (x, s) -> bit(x.send(BLOCK, s)), FALSE);
        refusedWithEach("22 send to what is none, without one", noSenders, (x, s) -> bit(x.send(CONTEXT, s)), FALSE);
        refusedWithEach("22 send to no register", NO_REGISTERS, (x, s) -> bit(x.send(FULL_CONTEXT, s)), FALSE);
    }

    private static void kill() {
        int[] noContexts = {NIL, NUMBER, METHOD};
        refusedWithEach("23 kill of none", noContexts, (x, c) -> bit(x.kill(c, true)), FALSE);
        refusedWithEach("23 kill of none, not", noContexts, (x, c) -> bit(x.kill(c, false)), FALSE);
    }

    private static void temporaryAndKeep() {
        int[] noContexts = {NIL, NUMBER, METHOD};
        refusedWithEach("24 temporary of none", noContexts, (x, c) -> bit(x.temporary(OTHER, c, 0)), FALSE);
        refusedWithEach("25 keep of none", noContexts, (x, c) -> bit(x.keep(c, 0, NUMBER)), FALSE);
        int[] beyondT = {-1, 2, 3, 4, 5, -5, LEAST, GREATEST};
        refusedWithEach("24 temporary, T 2", beyondT, (x, i) -> bit(x.temporary(NUMBER, CONTEXT, i)), FALSE);
        refusedWithEach("24 temporary of a home, T 2", beyondT, (x, i) -> bit(x.temporary(BLOCK, BLOCK, i)), FALSE);
        refusedWithEach("25 keep, T 2", beyondT, (x, i) -> bit(x.keep(CONTEXT, i, BLOCK)), FALSE);
        refusedWithEach("25 keep of a home, T 2", beyondT, (x, i) -> bit(x.keep(BLOCK, i, METHOD)), FALSE);
        int[] beyondFields = {-1, 3, 4, 5, LEAST, GREATEST};
        refusedWithEach("24 temporary, T 5 with three fields", beyondFields,
            (x, i) -> bit(x.temporary(NUMBER, GROWN_CONTEXT, i)), FALSE);
        refusedWithEach("25 keep, T 5 with three fields", beyondFields,
            (x, i) -> bit(x.keep(GROWN_CONTEXT, i, BLOCK)), FALSE);
        refusedWithEach("25 keep from no register", NO_REGISTERS, (x, r) -> bit(x.keep(CONTEXT, 1, r)), FALSE);
    }

    // ---- FULL

    /** Register 1 has a method, 2 a context of it, 3 a block context of that; eight words are left. */
    private static StackRoom withoutWords() {
        StackRoom x = new StackRoom(8 + 10 + 103 + 10 + 8, 4096);
        x.method(METHOD, 0, 31, 63);
        x.context(CONTEXT, METHOD, NIL);
        x.change(METHOD, 0, 0, 0);
        x.block(BLOCK, CONTEXT, 1);
        return x;
    }

    private static void noWords() {
        due("eight words are left", withoutWords().words(), 8);
        fullInto(OTHER, RefusedTest::withoutWords);
        fullInto(METHOD, RefusedTest::withoutWords);
        fullInto(CONTEXT, RefusedTest::withoutWords);
        fullInto(BLOCK, RefusedTest::withoutWords);
    }

    /** As above, with all words that can be had, and no entry left. */
    private static StackRoom withoutEntries() {
        StackRoom x = new StackRoom(32768, 16);
        x.method(METHOD, 0, 1, 2);
        x.context(CONTEXT, METHOD, NIL);
        x.block(BLOCK, CONTEXT, 1);
        for (int i = 0; i < 10; i++) {
            x.context(EMPTY_CONTEXT, METHOD, EMPTY_CONTEXT);
        }
        return x;
    }

    private static void noEntries() {
        due("no entry is left", withoutEntries().entries(), 0);
        fullInto(OTHER, RefusedTest::withoutEntries);
        fullInto(METHOD, RefusedTest::withoutEntries);
        fullInto(CONTEXT, RefusedTest::withoutEntries);
        fullInto(BLOCK, RefusedTest::withoutEntries);
        fullInto(EMPTY_CONTEXT, RefusedTest::withoutEntries);
    }

    private static void fullInto(int r, Maker maker) {
        refused("7 no room, into " + r, maker, x -> x.method(r, 0, 0, 0), FULL);
        refused("9 no room, into " + r, maker, x -> x.context(r, METHOD, NIL), FULL);
        refused("9 no room, into " + r + " with a sender", maker, x -> x.context(r, METHOD, CONTEXT), FULL);
        refused("10 no room, into " + r, maker, x -> x.block(r, CONTEXT, 0), FULL);
        refused("10 no room, into " + r + " of a block", maker, x -> x.block(r, BLOCK, 15), FULL);
        // What is not such is not such, whether there is room or not.
        refused("7 not such, into " + r, maker, x -> x.method(r, 0, 0, 64), NONE);
        refused("9 no method, into " + r, maker, x -> x.context(r, CONTEXT, NIL), NONE);
        refused("9 no sender, into " + r, maker, x -> x.context(r, METHOD, METHOD), NONE);
        refused("10 no context, into " + r, maker, x -> x.block(r, METHOD, 0), NONE);
        refused("10 count not such, into " + r, maker, x -> x.block(r, CONTEXT, 16), NONE);
    }
}
