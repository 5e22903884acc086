/**
 * The document from its first line to its last: each sentence that names no boundary case, and so has no test in
 * BoundaryTest, with a test of its own that bears the sentence's words.
 */
public final class SentenceTest {
    private static final int NONE = -1;
    private static final int FULL = -2;

    /** What the registers of the object that ofAllKinds() makes have; the others are nil. */
    private static final int METHOD = 0;
    private static final int CONTEXT = 1;
    private static final int BLOCK = 2;
    private static final int NUMBER = 3;
    private static final int NIL = 15;
    private static final int[] ALL_KINDS = {METHOD, CONTEXT, BLOCK, NUMBER, NIL};
    private static final int[] CONTEXTS = {CONTEXT, BLOCK};
    private static final int[] NO_CONTEXTS = {METHOD, NUMBER, NIL};
    /** The words of that object: all, less the first two, the method, the context and the block. */
    private static final int WORDS = 1000 - 8 - 10 - 14 - 13;
    private static final int ENTRIES = 100 - 2 - 4;
    private static final int NEXT_IDENTITY = 7;
    /** Nil in that object, and free for tests to use. */
    private static final int SPARE = 9;

    private interface Test {
        void run();
    }

    private static String sentence = "";
    private static int sentences = 0;
    private static int looked = 0;
    private static int wrong = 0;

    public static void main(String[] args) {
        whatItIs();
        termsOfValues();
        termsOfContexts();
        termsOfRoom();
        whatTheInterfaceSays();
        promisesOfRegisters();
        promisesOfMaking();
        promisesOfStacks();
        promisesOfLinks();
        notPromised();
        System.out.println(sentences + " sentences, " + looked + " answers looked at, " + wrong + " not as due");
        if (wrong != 0) {
            System.exit(1);
        }
    }

    private static void test(String words, Test body) {
        sentence = words;
        sentences++;
        body.run();
    }

    private static void due(String what, int got, int want) {
        looked++;
        if (got != want) {
            wrong++;
            System.out.println("[" + sentence + "] " + what + ": answered " + got + ", due is " + want);
        }
    }

    private static void due(String what, boolean got, boolean want) {
        due(what, got ? 1 : 0, want ? 1 : 0);
    }

    private static void holds(String what, StackRoom x, int r, int kind, int value) {
        due(what + ", kind", x.kind(r), kind);
        due(what + ", value", x.value(r), value);
    }

    /** Register r must have what register 'one' of ofAllKinds() has at first. */
    private static void holdsAs(String what, StackRoom x, int r, int one) {
        int[] kinds = {2, 3, 4, 1};
        int[] values = {4, 5, 6, 77};
        boolean isNil = one == NIL;
        holds(what + " " + one, x, r, isNil ? 0 : kinds[one], isNil ? 0 : values[one]);
    }

    private static StackRoom ofAllKinds() {
        StackRoom x = new StackRoom(1000, 100);
        x.method(METHOD, 1, 2, 3);
        x.context(CONTEXT, METHOD, NIL);
        x.block(BLOCK, CONTEXT, 9);
        x.number(NUMBER, 77);
        return x;
    }

    private static void sizes(String what, StackRoom x, int c, int height, int room, int floor, int count) {
        due(what + ", height", x.height(c), height);
        due(what + ", room", x.room(c), room);
        due(what + ", floor", x.floor(c), floor);
        due(what + ", count", x.count(c), count);
    }

    private static void hasSender(String what, StackRoom x, int c, int value) {
        due(what + ", sender", x.sender(SPARE, c), true);
        due(what + ", sender", x.value(SPARE), value);
        x.clear(SPARE);
    }

    private static void popsNumber(String what, StackRoom x, int c, int number) {
        due(what + ", pop", x.pop(SPARE, c), true);
        holds(what, x, SPARE, 1, number);
    }

    // ---- what it is

    private static void whatItIs() {
        test("a store with little room, from which goes what nobody has any more", SentenceTest::whatGoes);
        test("linked to senders and homes, made anew as long as there is room", SentenceTest::madeAnew);
    }

    private static void whatGoes() {
        StackRoom x = new StackRoom(128, 16);
        for (int i = 0; i < 40; i++) {
            due("method", x.method(0, 0, 2, 20), 4 + 4 * i);
            due("context", x.context(1, 0, NIL), 5 + 4 * i);
            due("block", x.block(2, 1, 1), 6 + 4 * i);
            due("words of the three", x.words(), 120 - 10 - 31 - 30);
            x.clear(0);
            x.clear(1);
            due("all had by the block", x.words(), 120 - 10 - 31 - 30);
            x.clear(2);
            due("had by nobody", x.words(), 120);
        }
    }

    private static void madeAnew() {
        StackRoom x = new StackRoom(128, 4096);
        x.method(0, 0, 0, 0);
        for (int i = 0; i < 12; i++) {
            due("context " + i, x.context(1, 0, 1), 5 + i);
        }
        due("no room", x.context(1, 0, 1), FULL);
        x.send(1, NIL);
        for (int i = 0; i < 10; i++) {
            due("block " + i, x.block(2, 1, 0), 17 + i);
            x.send(2, 3);
            x.move(3, 2);
        }
        due("no room", x.block(2, 1, 0), FULL);
        due("contexts", x.contexts(), 11);
        x.clear(2);
        x.clear(3);
        due("the home is left", x.contexts(), 1);
        due("anew", x.block(2, 1, 0), 27);
    }

    // ---- terms

    private static void termsOfValues() {
        test("VALUES are nil, numbers .., and objects", SentenceTest::valuesEverywhere);
        test("Every object has an IDENTITY: it is the how-manieth that was made", SentenceTest::identities);
        test("A METHOD is an object with A .., T .. and D ..", SentenceTest::methodsOfTheirOwn);
    }

    private static void valuesEverywhere() {
        StackRoom x = ofAllKinds();
        for (int one : ALL_KINDS) {
            holdsAs("a register", x, one, one);
            for (int c : CONTEXTS) {
                x.push(c, one);
                x.pop(SPARE, c);
                holdsAs("the stack of " + c, x, SPARE, one);
            }
            x.keep(CONTEXT, 1, one);
            x.temporary(SPARE, CONTEXT, 1);
            holdsAs("a temporary", x, SPARE, one);
        }
    }

    private static void identities() {
        StackRoom x = new StackRoom(1000, 100);
        due("the third and fourth", x.method(0, 0, 2, 3), 4);
        due("the fifth", x.context(1, 0, NIL), 5);
        due("the sixth", x.block(2, 1, 0), 6);
        due("the seventh and eighth", x.method(3, 0, 0, 0), 8);
        due("the ninth", x.block(4, 2, 0), 9);
        due("the tenth", x.context(5, 3, 2), 10);
        x.clear(5);
        x.clear(4);
        due("those that are gone count", x.context(4, 0, NIL), 11);
        due("those that were not made do not", x.method(4, 0, 0, 64), NONE);
        due("nor do numbers", x.number(4, 5) && x.number(5, 6), true);
        due("the twelfth", x.block(4, 1, 0), 12);
        x.move(6, 2);
        x.push(1, 2);
        x.clear(2);
        due("as before in another register", x.value(6), 6);
        x.clear(6);
        x.kill(1, true);
        x.change(0, 1, 1, 1);
        x.pop(7, 1);
        due("as before behind a stack", x.value(7), 6);
        due("as before when it is changed", x.value(0), 4);
        due("as before when it is dead", x.value(1), 5);
    }

    private static void methodsOfTheirOwn() {
        StackRoom x = new StackRoom(1000, 100);
        x.method(0, 1, 2, 3);
        x.method(1, 4, 5, 6);
        x.method(2, 1, 2, 3);
        x.change(0, 7, 8, 9);
        int[][] numbers = {{8, 9}, {5, 6}, {2, 3}};
        for (int m = 0; m < 3; m++) {
            x.context(3, m, NIL);
            sizes("context of " + m, x, 3, numbers[m][0], numbers[m][0] + numbers[m][1], numbers[m][0], NONE);
            x.block(4, 3, 2);
            sizes("block of " + m, x, 4, 0, numbers[m][1], 0, 2);
        }
    }

    private static void termsOfContexts() {
        test("A METHOD CONTEXT has a sender (a context or nil), whether it is dead, a method, a height",
            SentenceTest::partsOfMethodContext);
        test("behind them lie its TEMPORARIES and, from T on, its STACK", SentenceTest::temporariesAndStack);
        test("A BLOCK CONTEXT has a sender, whether it is dead, a height, a count .., a home",
            SentenceTest::partsOfBlockContext);
        test("six, and the stack behind them", SentenceTest::stackOfBlock);
        test("The first HEIGHT of the fields .. are in use: ROOM is how many there are", SentenceTest::fieldsInUse);
        test("TO PUSH: .. and the height is 1 more", SentenceTest::pushedHeight);
        test("TO POP: the value of the last one in use is taken", SentenceTest::lastOneTaken);
    }

    private static void partsOfMethodContext() {
        StackRoom x = ofAllKinds();
        x.context(4, METHOD, NIL);
        sizes("at first", x, 4, 2, 5, 2, NONE);
        int[] senders = {CONTEXT, BLOCK, 4, NIL};
        int[] values = {5, 6, 7, 0};
        for (int i = 0; i < senders.length; i++) {
            due("a sender", x.send(4, senders[i]), true);
            hasSender("sent", x, 4, values[i]);
            due("not dead, whoever sends", x.kill(4, false), false);
            sizes("as before, whoever sends", x, 4, 2, 5, 2, NONE);
        }
        x.send(4, BLOCK);
        x.kill(4, true);
        sizes("as before, when dead", x, 4, 2, 5, 2, NONE);
        x.push(4, NUMBER);
        sizes("higher", x, 4, 3, 5, 2, NONE);
        x.change(METHOD, 0, 1, 0);
        sizes("of a changed method", x, 4, 3, 5, 1, NONE);
        hasSender("after all this", x, 4, 6);
        due("dead after all this", x.kill(4, true), true);
        sizes("the other context", x, CONTEXT, 2, 5, 1, NONE);
        due("the other is not dead", x.kill(CONTEXT, false), false);
        hasSender("the other", x, CONTEXT, 0);
    }

    private static void temporariesAndStack() {
        StackRoom x = ofAllKinds();
        x.number(4, 10);
        x.number(5, 11);
        x.keep(CONTEXT, 0, 4);
        x.keep(CONTEXT, 1, 5);
        due("the stack", x.fill(CONTEXT, 12, 9), 3);
        due("no more temporaries", x.temporary(SPARE, CONTEXT, 2), false);
        x.change(METHOD, 0, 5, 0);
        for (int i = 0; i < 5; i++) {
            due("a field as a temporary", x.temporary(SPARE, CONTEXT, i), true);
            holds("field " + i, x, SPARE, 1, 10 + i);
        }
        x.change(METHOD, 0, 0, 0);
        for (int i = 4; i >= 0; i--) {
            popsNumber("field " + i + " on the stack", x, CONTEXT, 10 + i);
        }
        due("all popped", x.height(CONTEXT), 0);
    }

    private static void partsOfBlockContext() {
        StackRoom x = ofAllKinds();
        x.block(4, BLOCK, 14);
        sizes("at first", x, 4, 0, 3, 0, 14);
        due("dead at first", x.kill(4, true), true);
        int[] senders = {CONTEXT, BLOCK, 4, NIL};
        int[] values = {5, 6, 7, 0};
        for (int i = 0; i < senders.length; i++) {
            due("a sender", x.send(4, senders[i]), true);
            hasSender("sent", x, 4, values[i]);
            due("dead, whoever sends", x.kill(4, true), true);
            sizes("as before, whoever sends", x, 4, 0, 3, 0, 14);
        }
        x.send(4, BLOCK);
        x.kill(4, false);
        x.push(4, NUMBER);
        x.change(METHOD, 0, 31, 63);
        sizes("after all this", x, 4, 1, 3, 0, 14);
        hasSender("after all this", x, 4, 6);
        due("not dead after all this", x.kill(4, false), false);
        x.home(SPARE, 4);
        holdsAs("home after all this", x, SPARE, CONTEXT);
        sizes("the other block", x, BLOCK, 0, 3, 0, 9);
        due("the other is dead", x.kill(BLOCK, true), true);
        hasSender("the other", x, BLOCK, 0);
    }

    private static void stackOfBlock() {
        StackRoom x = ofAllKinds();
        x.number(4, 50);
        x.keep(BLOCK, 0, 4);
        due("the block's stack", x.fill(BLOCK, 20, 9), 3);
        due("the home's stack", x.fill(CONTEXT, 30, 9), 3);
        x.block(5, BLOCK, 0);
        due("the stack of another block", x.fill(5, 40, 9), 3);
        for (int i = 2; i >= 0; i--) {
            popsNumber("of the block", x, BLOCK, 20 + i);
            popsNumber("of the home", x, CONTEXT, 30 + i);
            popsNumber("of the other block", x, 5, 40 + i);
        }
        due("empty", x.pop(SPARE, BLOCK), false);
        x.temporary(SPARE, BLOCK, 0);
        holds("the home's temporary", x, SPARE, 1, 50);
    }

    private static void fieldsInUse() {
        StackRoom x = ofAllKinds();
        int[] first = {0, 2, 0};
        for (int c : CONTEXTS) {
            int room = x.room(c);
            due("room", room, first[c] + 3);
            for (int height = first[c]; height < room; height++) {
                due("height", x.height(c), height);
                due("room", x.room(c), room);
                due("one more in use", x.fill(c, 60 + height, 1), 1);
                x.peek(SPARE, c, 0);
                holds("the last in use", x, SPARE, 1, 60 + height);
            }
            due("all in use", x.height(c), room);
        }
    }

    private static void pushedHeight() {
        StackRoom x = ofAllKinds();
        int[] first = {0, 2, 0};
        for (int c : CONTEXTS) {
            for (int i = 0; i < 3; i++) {
                due("push", x.push(c, ALL_KINDS[i]), true);
                due("height", x.height(c), first[c] + i + 1);
                x.peek(SPARE, c, 0);
                holdsAs("the value", x, SPARE, ALL_KINDS[i]);
                x.peek(SPARE, c, i);
                holdsAs("the first, as before", x, SPARE, ALL_KINDS[0]);
            }
        }
    }

    private static void lastOneTaken() {
        StackRoom x = ofAllKinds();
        for (int c : CONTEXTS) {
            for (int i = 0; i < 3; i++) {
                x.push(c, ALL_KINDS[i + 1]);
            }
            int height = x.height(c);
            for (int i = 2; i >= 0; i--) {
                due("pop", x.pop(SPARE, c), true);
                holdsAs("the last one", x, SPARE, ALL_KINDS[i + 1]);
                due("height", x.height(c), height - 3 + i);
            }
        }
    }

    private static void termsOfRoom() {
        test("the other one is nobody's but its own; its identity is the one before", SentenceTest::theOtherObject);
        test("REACHABLE is .. what a reachable object has", SentenceTest::reachedByMany);
        test("as things are before the register that gets it becomes another one", SentenceTest::beforeItIsMade);
    }

    private static void theOtherObject() {
        StackRoom x = new StackRoom(1000, 100);
        for (int i = 0; i < 10; i++) {
            due("every second identity", x.method(i, 0, 0, 0), 4 + 2 * i);
        }
        due("two entries each", x.entries(), 98 - 20);
        x.context(10, 0, NIL);
        due("the one before goes with it", x.value(10), 23);
        due("the one before is none of these", x.method(11, 0, 0, 0), 25);
        int entries = x.entries();
        int words = x.words();
        x.clear(11);
        due("both go", x.entries(), entries + 2);
        due("both go", x.words(), words + 10);
        x.clear(0);
        due("both stay for the context", x.entries(), entries + 2);
        x.clear(10);
        due("both go with the context", x.entries(), entries + 2 + 3);
    }

    private static void reachedByMany() {
        StackRoom x = ofAllKinds();
        x.method(4, 0, 1, 1);
        x.context(5, 4, NIL);
        x.method(6, 0, 0, 0);
        x.keep(5, 0, 6);
        x.block(7, 5, 0);
        x.push(CONTEXT, 7);
        x.context(8, METHOD, BLOCK);
        int words = x.words();
        int entries = x.entries();
        due("all words", words, WORDS - 10 - 11 - 10 - 11 - 14);
        due("all entries", entries, ENTRIES - 2 - 1 - 2 - 1 - 1);
        for (int r = 0; r < 8; r++) {
            x.clear(r);
            due("words, had by way of register 8", x.words(), words);
            due("entries, had by way of register 8", x.entries(), entries);
            due("contexts, had by way of register 8", x.contexts(), 5);
        }
        x.sender(8, 8);
        due("by way of the sender", x.contexts(), 4);
        x.home(8, 8);
        due("by way of the home", x.contexts(), 3);
        x.pop(8, 8);
        due("what was on its stack", x.contexts(), 2);
        due("what was on its stack, words", x.words(), 992 - 10 - 11 - 10 - 11);
        x.temporary(8, 8, 0);
        holds("the last one", x, 8, 2, 11);
        due("the last one, words", x.words(), 992 - 10);
    }

    private static void beforeItIsMade() {
        StackRoom x = new StackRoom(128, 4096);
        x.method(0, 0, 31, 28);
        due("context of 68 words", x.context(1, 0, NIL), 5);
        due("less than it took", x.words(), 42);
        due("the old one is still there", x.context(1, 0, NIL), FULL);
        due("a block of 38 words, in its place", x.block(1, 1, 0), 6);
        due("then it is there for the block", x.contexts(), 2);
        x.clear(1);
        due("in the place of its method", x.context(0, 0, NIL), 7);
        due("which is still there for it", x.words(), 120 - 10 - 68);
        due("in the place of its home", x.block(0, 0, 0), 8);
        due("which is still there for it", x.words(), 120 - 10 - 68 - 38);
    }

    // ---- what the interface says

    private static void whatTheInterfaceSays() {
        test("---- registers", SentenceTest::callsOfRegisters);
        test("---- making", SentenceTest::callsOfMaking);
        test("---- stacks: c is a register that has a context", SentenceTest::callsOfStacks);
        test("---- links and temporaries", SentenceTest::callsOfLinks);
        test("---- room", SentenceTest::callsOfRoom);
    }

    private static void callsOfRegisters() {
        StackRoom x = ofAllKinds();
        for (int one : ALL_KINDS) {
            for (int other : ALL_KINDS) {
                x.move(SPARE, one);
                due("move", x.move(SPARE, other), true);
                holdsAs("moved", x, SPARE, other);
            }
            x.move(SPARE, one);
            due("number", x.number(SPARE, 5), true);
            holds("number", x, SPARE, 1, 5);
            x.move(SPARE, one);
            due("clear", x.clear(SPARE), true);
            holds("cleared", x, SPARE, 0, 0);
            holdsAs("as before", x, one, one);
        }
        due("they take no room", x.words(), WORDS);
        due("they make nothing", x.method(SPARE, 0, 0, 0), NEXT_IDENTITY + 1);
    }

    private static void callsOfMaking() {
        StackRoom x = ofAllKinds();
        due("method", x.method(4, 0, 0, 0), 8);
        due("change makes nothing", x.change(4, 0, 1, 1), true);
        due("context", x.context(5, 4, NIL), 9);
        due("block", x.block(6, 5, 0), 10);
        due("words", x.words(), WORDS - 10 - 11 - 11);
        due("entries", x.entries(), ENTRIES - 4);
        holds("method", x, 4, 2, 8);
        holds("context", x, 5, 3, 9);
        holds("block", x, 6, 4, 10);
        for (int one : ALL_KINDS) {
            holdsAs("as before", x, one, one);
        }
    }

    private static void callsOfStacks() {
        for (int c : NO_CONTEXTS) {
            StackRoom x = ofAllKinds();
            due("push", x.push(c, NUMBER), false);
            due("fill", x.fill(c, 1, 1), NONE);
            due("pop", x.pop(SPARE, c), false);
            due("peek", x.peek(SPARE, c, 0), false);
            due("drop", x.drop(c, 0), false);
            sizes("none", x, c, NONE, NONE, NONE, NONE);
            holdsAs("as before", x, c, c);
        }
        for (int c : CONTEXTS) {
            StackRoom x = ofAllKinds();
            due("push", x.push(c, NUMBER), true);
            due("fill", x.fill(c, 1, 1), 1);
            due("peek", x.peek(SPARE, c, 1), true);
            holdsAs("peek", x, SPARE, NUMBER);
            due("pop", x.pop(SPARE, c), true);
            holds("pop", x, SPARE, 1, 1);
            due("drop", x.drop(c, 1), true);
            due("height", x.height(c), c == CONTEXT ? 2 : 0);
            due("they take no room", x.words(), WORDS);
        }
    }

    private static void callsOfLinks() {
        for (int c : NO_CONTEXTS) {
            StackRoom x = ofAllKinds();
            due("home", x.home(SPARE, c), false);
            due("sender", x.sender(SPARE, c), false);
            due("send", x.send(c, CONTEXT), false);
            due("kill", x.kill(c, true), false);
            due("kill again", x.kill(c, true), false);
            due("temporary", x.temporary(SPARE, c, 0), false);
            due("keep", x.keep(c, 0, NUMBER), false);
            holdsAs("as before", x, c, c);
            holds("as before", x, SPARE, 0, 0);
        }
        for (int c : CONTEXTS) {
            StackRoom x = ofAllKinds();
            due("send", x.send(c, CONTEXT), true);
            due("sender", x.sender(SPARE, c), true);
            holdsAs("sender", x, SPARE, CONTEXT);
            due("keep", x.keep(c, 1, NUMBER), true);
            due("temporary", x.temporary(SPARE, c, 1), true);
            holdsAs("temporary", x, SPARE, NUMBER);
            due("home", x.home(SPARE, c), true);
            holdsAs("home", x, SPARE, CONTEXT);
            due("kill", x.kill(c, true), c == BLOCK);
            due("kill again", x.kill(c, true), true);
            due("they take no room", x.words(), WORDS);
        }
    }

    private static void callsOfRoom() {
        StackRoom x = ofAllKinds();
        for (int i = 0; i < 20; i++) {
            due("words", x.words(), WORDS);
            due("entries", x.entries(), ENTRIES);
            due("contexts", x.contexts(), 2);
        }
        for (int one : ALL_KINDS) {
            holdsAs("as before", x, one, one);
        }
        due("they make nothing", x.method(SPARE, 0, 0, 0), NEXT_IDENTITY + 1);
    }

    // ---- promises 1 to 6

    private static void promisesOfRegisters() {
        test("1: A store with so many words .. and entries", SentenceTest::storesOfTheirOwn);
        test("2: Register r becomes a number", SentenceTest::becomesNumber);
        test("6: The number, or the identity of the object, that register r has", SentenceTest::numberOrIdentity);
    }

    private static void storesOfTheirOwn() {
        StackRoom x = new StackRoom(128, 16);
        StackRoom y = new StackRoom(500, 50);
        StackRoom z = new StackRoom(500, 50);
        due("words of x", x.words(), 120);
        due("words of y", y.words(), 492);
        due("made in x", x.method(0, 0, 1, 2), 4);
        due("made in y", y.method(0, 0, 3, 4), 4);
        due("made in x", x.context(1, 0, NIL), 5);
        due("made in y", y.context(1, 0, NIL), 5);
        due("room in x", x.room(1), 3);
        due("room in y", y.room(1), 7);
        x.change(0, 0, 31, 63);
        due("floor in x", x.floor(1), 31);
        due("floor in y", y.floor(1), 3);
        due("words of x", x.words(), 120 - 10 - 12);
        due("words of y", y.words(), 492 - 10 - 16);
        due("words of z", z.words(), 492);
        due("entries of z", z.entries(), 48);
        holds("register of z", z, 0, 0, 0);
    }

    private static void becomesNumber() {
        for (int one : ALL_KINDS) {
            StackRoom x = ofAllKinds();
            due("number", x.number(one, -12), true);
            holds("number", x, one, 1, -12);
            for (int other : ALL_KINDS) {
                if (other != one) {
                    holdsAs("another register", x, other, other);
                }
            }
        }
        StackRoom x = ofAllKinds();
        x.move(SPARE, NUMBER);
        x.push(CONTEXT, NUMBER);
        x.number(NUMBER, 78);
        holds("what got it from there", x, SPARE, 1, 77);
        popsNumber("what got it from there", x, CONTEXT, 77);
    }

    private static void numberOrIdentity() {
        StackRoom x = ofAllKinds();
        int[] values = {4, 5, 6, 77};
        for (int r = 0; r < values.length; r++) {
            due("value", x.value(r), values[r]);
        }
        int[] numbers = {4, 5, 6, 0, -1, -2};
        for (int v : numbers) {
            x.number(SPARE, v);
            holds("a number that an identity or an answer is, too", x, SPARE, 1, v);
        }
        due("none of them is a context", x.number(SPARE, 5) && x.push(SPARE, NUMBER), false);
    }

    // ---- promises 7 to 10

    private static void promisesOfMaking() {
        test("7: Register r becomes a new method", SentenceTest::becomesMethod);
        test("8: The method that register r has gets other numbers. Answers true", SentenceTest::otherNumbers);
        test("9: Register r becomes a new method context of the method in register m, with the sender ..",
            SentenceTest::becomesContext);
        test("10: Register r becomes a new block context with a count, whose home is that of the context in register c",
            SentenceTest::becomesBlock);
    }

    private static void becomesMethod() {
        for (int one : ALL_KINDS) {
            StackRoom x = ofAllKinds();
            x.move(SPARE, one);
            due("method", x.method(one, 0, 5, 6), 8);
            holds("method", x, one, 2, 8);
            holdsAs("the old value", x, SPARE, one);
            due("its context", x.context(10, one, 11), 9);
            sizes("its context", x, 10, 5, 11, 5, NONE);
            sizes("an old context", x, one == CONTEXT ? SPARE : CONTEXT, 2, 5, 2, NONE);
        }
    }

    private static void otherNumbers() {
        StackRoom x = ofAllKinds();
        x.move(4, METHOD);
        due("change", x.change(4, 3, 4, 5), true);
        holdsAs("the same method", x, METHOD, METHOD);
        holdsAs("the same method", x, 4, METHOD);
        due("no room is taken", x.words(), WORDS);
        sizes("the old context", x, CONTEXT, 2, 5, 4, NONE);
        sizes("the old block", x, BLOCK, 0, 3, 0, 9);
        x.context(5, METHOD, NIL);
        sizes("a new context", x, 5, 4, 9, 4, NONE);
        x.block(6, CONTEXT, 1);
        sizes("a new block", x, 6, 0, 5, 0, 1);
        due("back", x.change(METHOD, 1, 2, 3), true);
        sizes("the new context", x, 5, 4, 9, 2, NONE);
        sizes("the old context", x, CONTEXT, 2, 5, 2, NONE);
        x.push(CONTEXT, METHOD);
        x.pop(7, CONTEXT);
        due("behind a stack", x.change(7, 0, 1, 0), true);
        sizes("the old context", x, CONTEXT, 2, 5, 1, NONE);
    }

    private static void becomesContext() {
        int[] senders = {CONTEXT, BLOCK, NIL};
        int[] values = {5, 6, 0};
        for (int i = 0; i < senders.length; i++) {
            for (int r : ALL_KINDS) {
                StackRoom x = ofAllKinds();
                due("context into " + r, x.context(r, METHOD, senders[i]), NEXT_IDENTITY);
                holds("context into " + r, x, r, 3, NEXT_IDENTITY);
                sizes("context into " + r, x, r, 2, 5, 2, NONE);
                hasSender("context into " + r, x, r, values[i]);
                due("not dead", x.kill(r, false), false);
                x.home(SPARE, r);
                due("its own home", x.value(SPARE), NEXT_IDENTITY);
            }
        }
        StackRoom y = ofAllKinds();
        y.method(4, 0, 7, 1);
        y.context(5, 4, CONTEXT);
        sizes("of another method", y, 5, 7, 8, 7, NONE);
        y.change(METHOD, 0, 0, 0);
        sizes("of another method", y, 5, 7, 8, 7, NONE);
    }

    private static void becomesBlock() {
        for (int c : CONTEXTS) {
            for (int r : ALL_KINDS) {
                StackRoom x = ofAllKinds();
                x.send(c, CONTEXT);
                due("block into " + r, x.block(r, c, 11), NEXT_IDENTITY);
                holds("block into " + r, x, r, 4, NEXT_IDENTITY);
                sizes("block into " + r, x, r, 0, 3, 0, 11);
                hasSender("block into " + r, x, r, 0);
                due("dead", x.kill(r, true), true);
                due("home", x.home(SPARE, r), true);
                holdsAs("home", x, SPARE, CONTEXT);
            }
        }
    }

    // ---- promises 11 to 19

    private static void promisesOfStacks() {
        test("11: What register from is is pushed. Answers true", SentenceTest::pushed);
        test("12: The numbers v, v + 1 .. are pushed", SentenceTest::filled);
        test("13: Register r becomes what is popped. Answers true", SentenceTest::popped);
        test("14: Register r becomes what lies under so many others (0 for the last one)", SentenceTest::peeked);
        test("15: So many are popped, and gone. Answers true", SentenceTest::dropped);
    }

    private static void pushed() {
        for (int c : CONTEXTS) {
            for (int from : ALL_KINDS) {
                StackRoom x = ofAllKinds();
                due("push", x.push(c, from), true);
                holdsAs("from, as before", x, from, from);
                holdsAs("c, as before", x, c, c);
                due("peek", x.peek(SPARE, c, 0), true);
                holdsAs("pushed", x, SPARE, from);
                x.clear(from == c ? SPARE : from);
                x.pop(SPARE, c);
                holdsAs("pushed, and the register is another", x, SPARE, from);
            }
        }
    }

    private static void filled() {
        int[] starts = {0, 1, -1, -2, 1000, -1073741824, 1073741821};
        for (int c : CONTEXTS) {
            for (int v : starts) {
                StackRoom x = ofAllKinds();
                due("fill of two", x.fill(c, v, 2), 2);
                due("fill of one", x.fill(c, v + 2, 1), 1);
                for (int i = 2; i >= 0; i--) {
                    popsNumber("filled", x, c, v + i);
                }
                due("no more", x.pop(SPARE, c), false);
            }
        }
    }

    private static void popped() {
        for (int c : CONTEXTS) {
            for (int from : ALL_KINDS) {
                for (int r : ALL_KINDS) {
                    StackRoom x = ofAllKinds();
                    x.push(c, from);
                    x.move(SPARE, c);
                    int height = x.height(c);
                    due("pop", x.pop(r, c), true);
                    holdsAs("popped", x, r, from);
                    due("height", x.height(SPARE), height - 1);
                }
            }
        }
    }

    private static void peeked() {
        for (int c : CONTEXTS) {
            for (int under = 0; under < 3; under++) {
                for (int r : ALL_KINDS) {
                    StackRoom x = ofAllKinds();
                    x.push(c, METHOD);
                    x.push(c, BLOCK);
                    x.push(c, NUMBER);
                    x.move(SPARE, c);
                    int height = x.height(c);
                    int[] lie = {NUMBER, BLOCK, METHOD};
                    due("peek", x.peek(r, c, under), true);
                    holdsAs("peeked", x, r, lie[under]);
                    due("height", x.height(SPARE), height);
                    x.peek(10, SPARE, under);
                    holdsAs("still there", x, 10, lie[under]);
                }
            }
        }
    }

    private static void dropped() {
        for (int c : CONTEXTS) {
            for (int many = 0; many <= 3; many++) {
                StackRoom x = ofAllKinds();
                for (int i = 0; i < 3; i++) {
                    x.method(SPARE, 0, 0, 0);
                    x.push(c, SPARE);
                }
                x.clear(SPARE);
                int height = x.height(c);
                due("drop", x.drop(c, many), true);
                due("height", x.height(c), height - many);
                due("gone", x.words(), WORDS - 10 * (3 - many));
                for (int i = 2 - many; i >= 0; i--) {
                    x.pop(SPARE, c);
                    holds("what is left", x, SPARE, 2, NEXT_IDENTITY + 1 + 2 * i);
                }
                due("no more", x.pop(SPARE, c), false);
            }
        }
    }

    // ---- promises 20 to 25

    private static void promisesOfLinks() {
        test("20: Register r becomes the home", SentenceTest::becomesHome);
        test("21: Register r becomes the sender", SentenceTest::becomesSender);
        test("22: The sender becomes what register s is. Answers true", SentenceTest::senderBecomes);
        test("23: It is dead, or not", SentenceTest::deadOrNot);
        test("24: Register r becomes temporary i of the home: field i behind its first five",
            SentenceTest::becomesTemporary);
    }

    private static void becomesHome() {
        for (int c : CONTEXTS) {
            for (int r : ALL_KINDS) {
                StackRoom x = ofAllKinds();
                due("home", x.home(r, c), true);
                holdsAs("home", x, r, CONTEXT);
                sizes("home", x, r, 2, 5, 2, NONE);
            }
        }
        StackRoom y = ofAllKinds();
        y.block(4, BLOCK, 0);
        y.clear(CONTEXT);
        y.home(SPARE, 4);
        holdsAs("home of a block's block, in no register", y, SPARE, CONTEXT);
        y.push(SPARE, NUMBER);
        y.home(5, BLOCK);
        due("the same home", y.height(5), 3);
    }

    private static void becomesSender() {
        for (int c : CONTEXTS) {
            for (int s : CONTEXTS) {
                for (int r : ALL_KINDS) {
                    StackRoom x = ofAllKinds();
                    due("none at first", x.sender(SPARE, c) && x.kind(SPARE) == 0, true);
                    x.send(c, s);
                    due("sender", x.sender(r, c), true);
                    holdsAs("sender", x, r, s);
                }
            }
        }
        StackRoom y = ofAllKinds();
        due("nil over itself", y.sender(CONTEXT, CONTEXT), true);
        holds("nil over itself", y, CONTEXT, 0, 0);
    }

    private static void senderBecomes() {
        int[] senders = {CONTEXT, BLOCK, NIL};
        for (int c : CONTEXTS) {
            for (int before : senders) {
                for (int s : senders) {
                    StackRoom x = ofAllKinds();
                    due("send", x.send(c, before), true);
                    due("send", x.send(c, s), true);
                    due("sender", x.sender(SPARE, c), true);
                    holdsAs("sender", x, SPARE, s);
                    holdsAs("c, as before", x, c, c);
                    holdsAs("s, as before", x, s, s);
                    x.sender(SPARE, c == CONTEXT ? BLOCK : CONTEXT);
                    holdsAs("the other's sender, as before", x, SPARE, NIL);
                }
            }
        }
    }

    private static void deadOrNot() {
        boolean[] calls = {true, true, false, false, true, false, true};
        for (int c : CONTEXTS) {
            StackRoom x = ofAllKinds();
            x.move(SPARE, c);
            boolean before = c == BLOCK;
            for (boolean dead : calls) {
                due("what it was", x.kill(SPARE, dead), before);
                before = dead;
            }
            due("by the other register", x.kill(c, false), true);
            due("a dead one can be used", x.kill(c, true) || !x.push(c, NUMBER), false);
            int other = c == CONTEXT ? BLOCK : CONTEXT;
            due("the other one", x.kill(other, false), other == BLOCK);
        }
    }

    private static void becomesTemporary() {
        for (int c : CONTEXTS) {
            for (int from : ALL_KINDS) {
                for (int r : ALL_KINDS) {
                    StackRoom x = ofAllKinds();
                    x.number(4, -9);
                    x.keep(CONTEXT, 0, from);
                    x.keep(CONTEXT, 1, 4);
                    x.fill(BLOCK, 60, 3);
                    due("temporary", x.temporary(r, c, 0), true);
                    holdsAs("temporary", x, r, from);
                    due("the next one", x.temporary(5, r == c ? CONTEXT + BLOCK - c : c, 1), true);
                    holds("the next one", x, 5, 1, -9);
                }
            }
        }
    }

    // ---- not promised

    private static void notPromised() {
        test("Nothing is promised beyond the answers and state changes described above", SentenceTest::nothingElse);
    }

    /** One of two alike objects is asked between its calls, and so would answer otherwise if asking changed it. */
    private static void nothingElse() {
        StackRoom x = ofAllKinds();
        StackRoom y = ofAllKinds();
        for (int i = 0; i < 20; i++) {
            ask(y, i % 16);
            due("push", y.push(CONTEXT, i % 4), x.push(CONTEXT, i % 4));
            ask(y, CONTEXT);
            due("context", y.context(4, METHOD, 4), x.context(4, METHOD, 4));
            due("pop", y.pop(5, CONTEXT), x.pop(5, CONTEXT));
            due("value", y.value(5), x.value(5));
            due("block", y.block(6, i % 8, i), x.block(6, i % 8, i));
            due("words", y.words(), x.words());
            due("entries", y.entries(), x.entries());
            due("contexts", y.contexts(), x.contexts());
        }
    }

    private static void ask(StackRoom x, int r) {
        x.kind(r);
        x.value(r);
        x.height(r);
        x.room(r);
        x.floor(r);
        x.count(r);
        x.words();
    }
}
