/**
 * Each sentence of the document that names a boundary case, with a test of its own: the last that is allowed and the
 * first that is not, on both sides where there are two; empty and full; least and greatest.
 * That a refused call changes nothing is looked at more deeply in RefusedTest.
 */
public final class BoundaryTest {
    private static final int NONE = -1;
    private static final int FULL = -2;
    private static final int LEAST = Integer.MIN_VALUE;
    private static final int GREATEST = Integer.MAX_VALUE;
    private static final int LEAST_NUMBER = -1073741824;
    private static final int GREATEST_NUMBER = 1073741823;
    private static final int MOST_CALLS = 512;
    /** No test here puts anything into it. */
    private static final int NIL = 15;

    private interface Test {
        void run();
    }

    private static String sentence = "";
    private static int sentences = 0;
    private static int looked = 0;
    private static int wrong = 0;

    public static void main(String[] args) {
        sentencesOfTheTerms();
        sentencesOfRegisters();
        sentencesOfMaking();
        sentencesOfStacks();
        sentencesOfLinks();
        sentencesOfRoom();
        System.out.println(sentences + " sentences, " + looked + " answers looked at, " + wrong + " not as due");
        if (wrong != 0) {
            System.exit(1);
        }
    }

    private static void test(String words, Test body) {
        sentence = words;
        sentences++;
        body.run();
    }

    private static void due(String what, int got, int want) {
        looked++;
        if (got != want) {
            wrong++;
            System.out.println("[" + sentence + "] " + what + ": answered " + got + ", due is " + want);
        }
    }

    private static void due(String what, boolean got, boolean want) {
        due(what, got ? 1 : 0, want ? 1 : 0);
    }

    private static void holdsNumber(String what, StackRoom x, int r, int number) {
        due(what + ", kind", x.kind(r), 1);
        due(what + ", number", x.value(r), number);
    }

    private static void holdsNil(String what, StackRoom x, int r) {
        due(what + ", kind", x.kind(r), 0);
        due(what + ", value", x.value(r), 0);
    }

    // ---- objects to look at

    /** Register 0 has a method (0, t, d), identity 4, register 1 a context of it, identity 5. */
    private static StackRoom withContext(int t, int d) {
        StackRoom x = new StackRoom(32768, 4096);
        x.method(0, 0, t, d);
        x.context(1, 0, NIL);
        return x;
    }

    /** As above, and register 2 has a block context of it, identity 6, with count 3. */
    private static StackRoom withBlock(int t, int d) {
        StackRoom x = withContext(t, d);
        x.block(2, 1, 3);
        return x;
    }

    /** So many words are left; register 0 has a method, 1 and 2 have contexts of it of 103 words each. */
    private static StackRoom leavingWords(int words) {
        StackRoom x = new StackRoom(8 + 10 + 2 * 103 + words, 4096);
        x.method(0, 0, 31, 63);
        x.context(1, 0, NIL);
        x.context(2, 0, NIL);
        due("words left", x.words(), words);
        return x;
    }

    /** So many of 14 entries are left, at most 11; register 0 has a method, 1 the last of a chain of contexts. */
    private static StackRoom leavingEntries(int entries) {
        StackRoom x = new StackRoom(32768, 16);
        x.method(0, 0, 0, 0);
        for (int left = 12; left > entries; left--) {
            x.context(1, 0, 1);
        }
        due("entries left", x.entries(), entries);
        return x;
    }

    // ---- what it is, and the terms

    private static void sentencesOfTheTerms() {
        test("at most 512 calls after it has been made", BoundaryTest::theLastCall);
        test("numbers -1073741824 .. 1073741823", BoundaryTest::numbers);
        test("REGISTERS are 0 .. 15, each with a value, nil at first", BoundaryTest::registers);
        test("two were made at first, which nobody can have, and which stay for ever", BoundaryTest::firstTwo);
        test("A (arguments, 0 .. 15)", BoundaryTest::arguments);
        test("T (temporaries, A .. 31)", BoundaryTest::temporaries);
        test("D (depth, 0 .. 63)", BoundaryTest::depths);
        test("5 + T + D fields (T and D as they were when it was made)", BoundaryTest::methodContextFields);
        test("Its FLOOR is the T that its method has now", BoundaryTest::methodContextFloor);
        test("6 + D fields (D of the home's method as it was when it was made)", BoundaryTest::blockContextFields);
        test("Its floor is 0", BoundaryTest::blockContextFloor);
        test("The HOME of a method context is itself", BoundaryTest::homeOfMethodContext);
        test("the context is FULL when the height is the room", BoundaryTest::fullContext);
        test("DEPTH is its height less its floor (below 0, if T has grown)", BoundaryTest::depthBelowNothing);
        test("TO PUSH: the next of these fields becomes the value", BoundaryTest::nextField);
        test("TO POP: .. that field is nil, the height 1 less", BoundaryTest::poppedField);
        test("an object takes 4 words, and one for each field", BoundaryTest::wordsOfObjects);
        test("a method takes 10 words, being two objects", BoundaryTest::wordsOfMethods);
        sentencesOfWhatIsReachable();
        sentencesOfWhatCanBeMade();
    }

    private static void theLastCall() {
        StackRoom x = withContext(0, 0);
        for (int call = 3; call < MOST_CALLS; call++) {
            due("context", x.context(1, 0, 1), 3 + call);
        }
        due("call 512", x.contexts(), 510);
        StackRoom y = new StackRoom(128, 16);
        for (int call = 1; call < MOST_CALLS; call++) {
            y.method(0, 0, 0, 0);
        }
        due("call 512", y.method(0, 0, 0, 0), 2 + 2 * MOST_CALLS);
    }

    private static void numbers() {
        StackRoom x = withContext(0, 3);
        int[] fine = {LEAST_NUMBER, LEAST_NUMBER + 1, -1, 0, 1, GREATEST_NUMBER - 1, GREATEST_NUMBER};
        for (int v : fine) {
            due("number " + v, x.number(2, v), true);
            holdsNumber("number " + v, x, 2, v);
            due("pushed " + v, x.push(1, 2), true);
            due("popped " + v, x.pop(3, 1), true);
            holdsNumber("popped " + v, x, 3, v);
            due("filled " + v, x.fill(1, v, 1), 1);
            x.pop(3, 1);
            holdsNumber("filled " + v, x, 3, v);
        }
        int[] none = {LEAST_NUMBER - 1, GREATEST_NUMBER + 1, LEAST, GREATEST};
        for (int v : none) {
            due("number " + v, x.number(2, v), false);
            due("filled " + v, x.fill(1, v, 1), NONE);
        }
        holdsNumber("as before", x, 2, GREATEST_NUMBER);
    }

    private static void registers() {
        StackRoom x = new StackRoom(128, 16);
        for (int r = 0; r <= 15; r++) {
            holdsNil("register " + r + " at first", x, r);
        }
        for (int r = 0; r <= 15; r++) {
            due("number", x.number(r, 100 + r), true);
        }
        for (int r = 0; r <= 15; r++) {
            holdsNumber("register " + r, x, r, 100 + r);
        }
        due("before the first", x.kind(-1), NONE);
        due("behind the last", x.kind(16), NONE);
    }

    private static void firstTwo() {
        StackRoom x = new StackRoom(128, 16);
        due("words", x.words(), 120);
        due("entries", x.entries(), 14);
        due("contexts", x.contexts(), 0);
        due("the first identity", x.method(0, 0, 0, 0), 4);
        for (int r = 0; r <= 15; r++) {
            x.clear(r);
        }
        due("words, nothing reachable", x.words(), 120);
        due("entries, nothing reachable", x.entries(), 14);
        due("identities go on", x.method(0, 0, 0, 0), 6);
        due("and on", x.context(1, 0, NIL), 7);
    }

    private static void arguments() {
        int[][] fine = {{0, 0}, {0, 31}, {1, 31}, {14, 31}, {15, 15}, {15, 31}};
        int[][] none = {{-1, 0}, {-1, -1}, {-1, 31}, {16, 16}, {16, 31}, {LEAST, 0}, {GREATEST, 31}};
        for (int[] n : fine) {
            isMethod(n[0], n[1], 0);
        }
        for (int[] n : none) {
            isNoMethod(n[0], n[1], 0);
        }
    }

    private static void temporaries() {
        int[][] fine = {{0, 0}, {0, 1}, {0, 30}, {0, 31}, {7, 7}, {7, 8}, {15, 15}, {15, 16}, {15, 31}};
        int[][] none = {{0, -1}, {0, 32}, {1, 0}, {7, 6}, {8, 7}, {15, 14}, {15, 0}, {15, 32}, {0, LEAST},
            {0, GREATEST}, {15, -1}};
        for (int[] n : fine) {
            isMethod(n[0], n[1], 5);
        }
        for (int[] n : none) {
            isNoMethod(n[0], n[1], 5);
        }
    }

    private static void depths() {
        int[] fine = {0, 1, 62, 63};
        int[] none = {-1, 64, -64, 65, LEAST, GREATEST};
        for (int d : fine) {
            isMethod(2, 3, d);
        }
        for (int d : none) {
            isNoMethod(2, 3, d);
        }
    }

    private static void isMethod(int a, int t, int d) {
        String numbers = a + ", " + t + ", " + d;
        StackRoom x = new StackRoom(32768, 4096);
        due("method " + numbers, x.method(0, a, t, d), 4);
        due("context of " + numbers, x.context(1, 0, NIL), 5);
        due("floor of " + numbers, x.floor(1), t);
        due("room of " + numbers, x.room(1), t + d);
        x.method(2, 1, 2, 3);
        due("change to " + numbers, x.change(2, a, t, d), true);
        due("context of " + numbers, x.context(3, 2, NIL), 8);
        due("floor of " + numbers, x.floor(3), t);
        due("room of " + numbers, x.room(3), t + d);
    }

    private static void isNoMethod(int a, int t, int d) {
        String numbers = a + ", " + t + ", " + d;
        StackRoom x = new StackRoom(32768, 4096);
        due("method " + numbers, x.method(0, a, t, d), NONE);
        holdsNil("method " + numbers, x, 0);
        due("not even the first", x.method(0, 1, 2, 3), 4);
        due("change to " + numbers, x.change(0, a, t, d), false);
        due("context", x.context(1, 0, NIL), 5);
        due("floor", x.floor(1), 2);
        due("room", x.room(1), 5);
    }

    private static void methodContextFields() {
        int[][] sizes = {{0, 0}, {1, 0}, {0, 1}, {31, 0}, {0, 63}, {31, 63}};
        for (int[] size : sizes) {
            StackRoom x = withContext(size[0], size[1]);
            int fields = size[0] + size[1];
            due("room", x.room(1), fields);
            due("height", x.height(1), size[0]);
            due("words", x.words(), 32768 - 8 - 10 - 4 - 5 - fields);
            for (int[] other : sizes) {
                x.change(0, 0, other[0], other[1]);
                due("room, when the method is another", x.room(1), fields);
                due("height, when the method is another", x.height(1), size[0]);
                due("words, when the method is another", x.words(), 32768 - 8 - 10 - 4 - 5 - fields);
            }
        }
    }

    private static void methodContextFloor() {
        StackRoom x = withContext(2, 3);
        int[] now = {2, 0, 1, 3, 5, 6, 30, 31, 0};
        for (int t : now) {
            x.change(0, 0, t, 0);
            due("floor", x.floor(1), t);
            due("room", x.room(1), 5);
        }
        x.move(3, 0);
        x.method(0, 0, 9, 9);
        due("floor, with another method in that register", x.floor(1), 0);
        x.change(3, 0, 4, 0);
        due("floor, by another register with the method", x.floor(1), 4);
        x.clear(3);
        due("floor, the method in no register", x.floor(1), 4);
    }

    private static void blockContextFields() {
        int[] depths = {0, 1, 62, 63};
        for (int d : depths) {
            StackRoom x = withBlock(2, d);
            int words = 32768 - 8 - 10 - (4 + 5 + 2 + d) - (4 + 6 + d);
            due("room", x.room(2), d);
            due("words", x.words(), words);
            for (int other : depths) {
                x.change(0, 0, 31, other);
                due("room, when the method is another", x.room(2), d);
                due("words, when the method is another", x.words(), words);
                due("another block, as D is then", x.block(3, 2, 0) > 0, true);
                due("room of another block", x.room(3), other);
                x.clear(3);
            }
        }
    }

    private static void blockContextFloor() {
        StackRoom x = withBlock(31, 2);
        due("floor", x.floor(2), 0);
        due("height", x.height(2), 0);
        x.change(0, 0, 0, 2);
        due("floor, T is 0", x.floor(2), 0);
        x.change(0, 0, 31, 2);
        due("filled", x.fill(2, 1, 9), 2);
        due("one popped", x.pop(3, 2), true);
        due("the last popped", x.pop(3, 2), true);
        due("none left", x.pop(3, 2), false);
    }

    private static void homeOfMethodContext() {
        StackRoom x = withBlock(0, 0);
        due("home", x.home(3, 1), true);
        due("itself", x.value(3), 5);
        due("home of a block", x.home(3, 2), true);
        due("home of a block", x.value(3), 5);
        due("home of a block's block", x.block(4, 2, 0) == 7 && x.home(3, 4), true);
        due("home of a block's block", x.value(3), 5);
    }

    private static void fullContext() {
        int[][] sizes = {{0, 0}, {0, 1}, {1, 0}, {2, 3}, {31, 0}, {0, 63}, {31, 63}};
        for (int[] size : sizes) {
            StackRoom x = withBlock(size[0], size[1]);
            for (int c = 1; c <= 2; c++) {
                for (int i = 0; i < size[1]; i++) {
                    due("push " + i + " of " + size[1], x.push(c, NIL), true);
                }
                due("height is room", x.height(c), x.room(c));
                due("push onto a full one", x.push(c, NIL), false);
                due("fill of a full one", x.fill(c, 1, 1), 0);
                due("height as before", x.height(c), x.room(c));
            }
        }
    }

    private static void depthBelowNothing() {
        StackRoom x = withContext(2, 3);
        x.fill(1, 10, 2);
        due("depth 2", x.drop(1, 3), false);
        x.change(0, 0, 4, 3);
        due("depth 0", x.pop(2, 1), false);
        x.change(0, 0, 5, 3);
        due("depth -1", x.pop(2, 1), false);
        due("depth -1, drop 0", x.drop(1, 0), true);
        due("depth -1, drop 1", x.drop(1, 1), false);
        due("depth -1, peek", x.peek(2, 1, 0), false);
        x.change(0, 0, 31, 3);
        due("depth -27", x.pop(2, 1), false);
        due("depth -27, drop 0", x.drop(1, 0), true);
        due("depth -27, push", x.push(1, NIL), true);
        due("depth -26, full", x.push(1, NIL), false);
        due("depth -26, pop", x.pop(2, 1), false);
        x.change(0, 0, 0, 3);
        due("depth 5, drop 6", x.drop(1, 6), false);
        due("depth 5, drop 5", x.drop(1, 5), true);
        due("depth 0", x.pop(2, 1), false);
        due("height", x.height(1), 0);
    }

    private static void nextField() {
        StackRoom x = withContext(0, 3);
        x.change(0, 0, 31, 0);
        x.number(2, 22);
        x.number(3, 33);
        for (int i = 0; i < 3; i++) {
            due("kept beyond the height", x.keep(1, i, 3), true);
            due("height by itself", x.height(1), i);
            due("push", x.push(1, 2), true);
            due("height", x.height(1), i + 1);
            x.temporary(4, 1, i);
            holdsNumber("field " + i, x, 4, 22);
        }
        due("no next field", x.push(1, 2), false);
        due("height", x.height(1), 3);
    }

    private static void poppedField() {
        StackRoom x = withContext(0, 3);
        x.fill(1, 7, 3);
        for (int left = 2; left >= 0; left--) {
            due("pop", x.pop(2, 1), true);
            holdsNumber("popped", x, 2, 7 + left);
            due("height", x.height(1), left);
            x.change(0, 0, 31, 0);
            due("the popped field", x.temporary(2, 1, left), true);
            holdsNil("the popped field", x, 2);
            x.change(0, 0, 0, 0);
        }
        x.fill(1, 7, 3);
        due("drop", x.drop(1, 2), true);
        x.change(0, 0, 3, 0);
        x.temporary(2, 1, 0);
        holdsNumber("a field not dropped", x, 2, 7);
        x.temporary(2, 1, 1);
        holdsNil("a dropped field", x, 2);
        x.temporary(2, 1, 2);
        holdsNil("a dropped field", x, 2);
    }

    private static void wordsOfObjects() {
        StackRoom x = new StackRoom(1000, 100);
        x.method(0, 0, 0, 0);
        int words = x.words();
        x.context(1, 0, NIL);
        due("the least context", x.words(), words - 9);
        x.block(2, 1, 0);
        due("the least block", x.words(), words - 9 - 10);
        x.change(0, 0, 31, 63);
        due("the method is another", x.words(), words - 9 - 10);
        x.context(1, 0, NIL);
        due("the greatest context, too", x.words(), words - 9 - 10 - 103);
        x.block(2, 1, 0);
        due("the greatest block, the least ones gone", x.words(), words - 103 - 73);
    }

    private static void wordsOfMethods() {
        StackRoom x = new StackRoom(128, 16);
        int[][] numbers = {{0, 0, 0}, {15, 31, 63}, {0, 31, 0}, {0, 0, 63}};
        for (int i = 0; i < numbers.length; i++) {
            int[] n = numbers[i];
            due("its identity is the second of two", x.method(i, n[0], n[1], n[2]), 4 + 2 * i);
            due("words", x.words(), 120 - 10 * (i + 1));
            due("entries", x.entries(), 14 - 2 * (i + 1));
        }
    }

    // ---- what is reachable

    private static void sentencesOfWhatIsReachable() {
        test("REACHABLE is what a register has", BoundaryTest::reachedByRegister);
        test("of a context its sender", BoundaryTest::reachedBySender);
        test("method or home", BoundaryTest::reachedByMethodOrHome);
        test("and all values behind", BoundaryTest::reachedByFields);
        test("What is not reachable takes no room", BoundaryTest::notReachable);
    }

    private static void reachedByRegister() {
        StackRoom x = new StackRoom(1000, 100);
        for (int r = 0; r <= 15; r++) {
            due("method", x.method(r, 0, 0, 0), 4 + 2 * r);
        }
        due("words of all registers", x.words(), 992 - 160);
        due("entries of all registers", x.entries(), 98 - 32);
        x.clear(0);
        due("words without the first", x.words(), 992 - 150);
        x.number(15, 3);
        due("words without the last", x.words(), 992 - 140);
        x.move(7, 8);
        due("words, one had twice", x.words(), 992 - 130);
        x.clear(8);
        due("words, one had once again", x.words(), 992 - 130);
        due("entries", x.entries(), 98 - 26);
    }

    private static void reachedBySender() {
        StackRoom x = withContext(0, 0);
        for (int i = 0; i < 300; i++) {
            x.context(1, 0, 1);
        }
        due("a long chain", x.contexts(), 301);
        x.block(2, 1, 0);
        x.send(2, 1);
        x.clear(1);
        due("a long chain, by a block", x.contexts(), 302);
        due("words of a long chain", x.words(), 32760 - 10 - 301 * 9 - 10);
        x.home(1, 2);
        x.send(1, NIL);
        due("the chain is cut", x.contexts(), 2);
        x.send(1, 1);
        due("its own sender", x.contexts(), 2);
        x.send(1, 2);
        due("a ring of two", x.contexts(), 2);
        x.clear(1);
        due("a ring of two, by one of them", x.contexts(), 2);
        x.clear(2);
        due("a ring that nobody has", x.contexts(), 0);
    }

    private static void reachedByMethodOrHome() {
        StackRoom x = withBlock(2, 3);
        x.clear(0);
        due("method of a context", x.words(), 32760 - 10 - 14 - 13);
        due("entries", x.entries(), 4094 - 4);
        x.clear(1);
        due("home of a block, and its method", x.words(), 32760 - 10 - 14 - 13);
        due("contexts", x.contexts(), 2);
        due("entries", x.entries(), 4094 - 4);
        x.home(2, 2);
        due("the home has no block", x.words(), 32760 - 10 - 14);
        due("contexts", x.contexts(), 1);
        x.clear(2);
        due("nothing", x.words(), 32760);
        due("contexts", x.contexts(), 0);
    }

    private static void reachedByFields() {
        StackRoom x = withContext(2, 3);
        x.change(0, 0, 5, 0);
        int words = x.words();
        for (int i = 0; i < 5; i++) {
            x.method(2, 0, 0, 0);
            due("kept in field " + i, x.keep(1, i, 2), true);
            x.clear(2);
            due("words, had by field " + i, x.words(), words - 10 * (i + 1));
        }
        x.change(0, 0, 0, 0);
        due("words, T is 0", x.words(), words - 50);
        due("the height is as before", x.height(1), 2);
        due("pop", x.pop(2, 1) && x.clear(2), true);
        due("words, one popped", x.words(), words - 40);
        due("drop", x.drop(1, 1), true);
        due("words, one dropped", x.words(), words - 30);
        due("fields beyond the height are covered", x.fill(1, 0, 100), 5);
        due("words, numbers alone", x.words(), words);
        StackRoom y = withBlock(0, 63);
        int before = y.words();
        for (int i = 0; i < 63; i++) {
            y.method(3, 0, 0, 0);
            y.push(2, 3);
        }
        y.clear(3);
        due("words, had by all fields of a block", y.words(), before - 630);
    }

    private static void notReachable() {
        StackRoom x = new StackRoom(128, 16);
        for (int i = 1; i <= 100; i++) {
            due("always room for it", x.method(0, 0, 0, 0), 2 + 2 * i);
        }
        due("words", x.words(), 110);
        due("entries", x.entries(), 12);
        x.change(0, 0, 10, 20);
        for (int i = 0; i < 100; i++) {
            due("always room for it", x.context(1, 0, NIL), 203 + i);
        }
        due("words", x.words(), 110 - 39);
        x.keep(1, 0, 1);
        x.push(1, 1);
        x.send(1, 1);
        x.clear(0);
        due("it has itself, and the register has it", x.words(), 110 - 39);
        x.clear(1);
        due("it has itself, and nobody has it", x.words(), 120);
        due("entries", x.entries(), 14);
    }

    // ---- what can be made

    private static void sentencesOfWhatCanBeMade() {
        test("its words are not more than the words that the room has, less ..", BoundaryTest::wordsForIt);
        test("its objects are not more than the entries, less the reachable ones and two",
            BoundaryTest::entriesForIt);
        test("what the register still has that is to become it, too: words", BoundaryTest::ownRegistersWords);
        test("what the register still has that is to become it, too: entries", BoundaryTest::ownRegistersEntries);
        test("those of all reachable objects and of the first two (4 each)", BoundaryTest::allWordsUsed);
    }

    private static void wordsForIt() {
        int[][] sizes = {{0, 0}, {0, 1}, {1, 0}, {2, 3}, {31, 0}, {0, 63}, {31, 63}};
        for (int[] size : sizes) {
            int contextWords = 9 + size[0] + size[1];
            contextIn(leavingWords(contextWords), size, 7);
            contextIn(leavingWords(contextWords - 1), size, FULL);
            contextIn(leavingWords(0), size, FULL);
            int blockWords = 10 + size[1];
            blockIn(leavingWords(blockWords), size, 7);
            blockIn(leavingWords(blockWords - 1), size, FULL);
            blockIn(leavingWords(0), size, FULL);
        }
        methodIn(leavingWords(11), 8, 1);
        methodIn(leavingWords(10), 8, 0);
        methodIn(leavingWords(9), FULL, 9);
        methodIn(leavingWords(1), FULL, 1);
        methodIn(leavingWords(0), FULL, 0);
    }

    private static void contextIn(StackRoom x, int[] size, int answer) {
        int words = x.words();
        x.change(0, 0, size[0], size[1]);
        due("context of " + size[0] + ", " + size[1], x.context(3, 0, NIL), answer);
        due("words left", x.words(), answer == FULL ? words : 0);
        due("contexts", x.contexts(), answer == FULL ? 2 : 3);
    }

    private static void blockIn(StackRoom x, int[] size, int answer) {
        int words = x.words();
        x.change(0, 0, size[0], size[1]);
        due("block of " + size[1], x.block(3, 1, 0), answer);
        due("words left", x.words(), answer == FULL ? words : 0);
        due("contexts", x.contexts(), answer == FULL ? 2 : 3);
    }

    private static void methodIn(StackRoom x, int answer, int wordsLeft) {
        due("method", x.method(3, 0, 31, 63), answer);
        due("words left", x.words(), wordsLeft);
        due("kind", x.kind(3), answer == FULL ? 0 : 2);
    }

    private static void entriesForIt() {
        int[][] methods = {{0, FULL}, {1, FULL}, {2, 16}, {3, 15}};
        for (int[] row : methods) {
            StackRoom x = leavingEntries(row[0]);
            due("method in " + row[0], x.method(3, 0, 0, 0), row[1]);
            due("entries left", x.entries(), row[1] == FULL ? row[0] : row[0] - 2);
        }
        int[][] contexts = {{0, FULL}, {1, 16}, {2, 15}};
        for (int[] row : contexts) {
            StackRoom x = leavingEntries(row[0]);
            due("context in " + row[0], x.context(3, 0, NIL), row[1]);
            due("entries left", x.entries(), row[1] == FULL ? 0 : row[0] - 1);
            StackRoom y = leavingEntries(row[0]);
            due("block in " + row[0], y.block(3, 1, 0), row[1]);
            due("entries left", y.entries(), row[1] == FULL ? 0 : row[0] - 1);
        }
        StackRoom most = new StackRoom(32768, 512);
        most.method(0, 0, 0, 0);
        for (int i = 0; i < 508; i++) {
            most.context(1, 0, 1);
        }
        due("none of 512 left", most.context(1, 0, 1), FULL);
        due("none of 512 left", most.entries(), 0);
    }

    private static void ownRegistersWords() {
        StackRoom x = leavingWords(9);
        x.change(0, 0, 1, 0);
        due("a context over a greater one", x.context(2, 0, NIL), FULL);
        due("a block over a greater one", x.block(2, 1, 0), FULL);
        due("a method over a greater one", x.method(2, 0, 0, 0), FULL);
        due("a method over a method", x.method(0, 0, 0, 0), FULL);
        due("as before", x.value(2), 6);
        x.clear(2);
        due("a context, now that it is gone", x.context(2, 0, NIL), 7);
        StackRoom y = leavingWords(103);
        due("two at a time", y.context(2, 0, NIL), 7);
        due("the old one is gone then", y.words(), 103);
        due("into the same register again", y.context(2, 0, NIL), 8);
        due("with the old one as sender", y.context(2, 0, 2), 9);
        due("no words then", y.words(), 0);
        due("into the same register again", y.context(2, 0, NIL), FULL);
    }

    private static void ownRegistersEntries() {
        StackRoom x = leavingEntries(0);
        due("a context over one", x.context(1, 0, NIL), FULL);
        due("a block over one", x.block(1, 1, 0), FULL);
        due("a method over one", x.method(0, 0, 0, 0), FULL);
        due("as before", x.contexts(), 12);
        x.sender(1, 1);
        due("one entry is not two", x.method(1, 0, 0, 0), FULL);
        due("one entry is one", x.context(1, 0, NIL), 17);
        due("the others are gone then", x.entries(), 11);
        StackRoom y = new StackRoom(32768, 16);
        for (int r = 0; r < 7; r++) {
            y.method(r, 0, 0, 0);
        }
        due("a method over one", y.method(3, 0, 0, 0), FULL);
        y.clear(3);
        due("a method, now that it is gone", y.method(3, 0, 0, 0), 18);
    }

    private static void allWordsUsed() {
        StackRoom least = new StackRoom(128, 4096);
        for (int r = 0; r < 12; r++) {
            due("twelve methods in 120 words", least.method(r, 0, 0, 0), 4 + 2 * r);
        }
        due("none left", least.words(), 0);
        due("no thirteenth", least.method(12, 0, 0, 0), FULL);
        StackRoom most = new StackRoom(32768, 4096);
        most.method(0, 0, 31, 63);
        for (int i = 0; i < 317; i++) {
            due("317 contexts of 103 words", most.context(1, 0, 1), 5 + i);
        }
        due("99 words left", most.words(), 99);
        due("103 in 99", most.context(1, 0, 1), FULL);
        most.change(0, 0, 31, 60);
        due("100 in 99", most.context(1, 0, 1), FULL);
        most.change(0, 0, 31, 59);
        due("99 in 99", most.context(1, 0, 1), 322);
        due("none left", most.words(), 0);
    }

    // ---- promises 1 to 6

    private static void sentencesOfRegisters() {
        test("1: so many words (128 .. 32768; 32768 for any other number)", BoundaryTest::wordsGiven);
        test("1: entries (16 .. 4096; 4096 for any other)", BoundaryTest::entriesGiven);
        test("2: Answers true; false when it can't be", BoundaryTest::numberOrNot);
        test("3: Register r becomes what another one is", BoundaryTest::moved);
        test("4: Register r becomes nil", BoundaryTest::cleared);
        test("5: 0 nil, 1 a number, ..; NONE when there is no such register", BoundaryTest::kinds);
        test("6: 0 for nil, and when there is none such", BoundaryTest::values);
    }

    private static void wordsGiven() {
        int[] fine = {128, 129, 130, 32766, 32767, 32768};
        for (int words : fine) {
            due("words " + words, new StackRoom(words, 16).words(), words - 8);
            due("words " + words + ", entries any other", new StackRoom(words, 15).words(), words - 8);
        }
        int[] other = {127, 126, 32769, 32770, 65536, 0, 1, -1, -128, -32768, LEAST, LEAST + 128, GREATEST};
        for (int words : other) {
            due("words " + words, new StackRoom(words, 16).words(), 32760);
            due("its entries", new StackRoom(words, 16).entries(), 14);
        }
    }

    private static void entriesGiven() {
        int[] fine = {16, 17, 18, 4094, 4095, 4096};
        for (int entries : fine) {
            due("entries " + entries, new StackRoom(128, entries).entries(), entries - 2);
            due("entries " + entries + ", words any other", new StackRoom(127, entries).entries(), entries - 2);
        }
        int[] other = {15, 14, 4097, 4098, 8192, 0, 1, -1, -16, -4096, LEAST, LEAST + 16, GREATEST};
        for (int entries : other) {
            due("entries " + entries, new StackRoom(128, entries).entries(), 4094);
            due("its words", new StackRoom(128, entries).words(), 120);
        }
    }

    private static void numberOrNot() {
        StackRoom x = withContext(0, 0);
        due("over a context", x.number(1, LEAST_NUMBER), true);
        due("the context is gone", x.contexts(), 0);
        due("first register", x.number(0, GREATEST_NUMBER), true);
        due("the method is gone", x.words(), 32760);
        due("last register", x.number(15, 0), true);
        holdsNumber("last register", x, 15, 0);
        due("too small", x.number(0, LEAST_NUMBER - 1), false);
        due("too large", x.number(0, GREATEST_NUMBER + 1), false);
        due("before the first register", x.number(-1, 0), false);
        due("behind the last register", x.number(16, 0), false);
        holdsNumber("as before", x, 0, GREATEST_NUMBER);
    }

    private static void moved() {
        StackRoom x = withContext(0, 1);
        due("from the first to the last", x.move(15, 0), true);
        due("method", x.value(15), 4);
        due("from the last to the first", x.move(0, 15), true);
        due("method", x.value(0), 4);
        due("to itself", x.move(1, 1), true);
        due("itself", x.value(1), 5);
        due("nil", x.move(15, 7), true);
        holdsNil("nil", x, 15);
        due("nil over the last that has it", x.move(1, 7), true);
        due("it is gone", x.contexts(), 0);
        due("to before the first", x.move(-1, 0), false);
        due("to behind the last", x.move(16, 0), false);
        due("from before the first", x.move(0, -1), false);
        due("from behind the last", x.move(0, 16), false);
        due("as before", x.value(0), 4);
    }

    private static void cleared() {
        StackRoom x = withContext(0, 1);
        x.number(15, 5);
        due("the last", x.clear(15), true);
        holdsNil("the last", x, 15);
        due("nil again", x.clear(15), true);
        holdsNil("nil again", x, 15);
        due("the first", x.clear(0), true);
        holdsNil("the first", x, 0);
        due("its method is still had", x.words(), 32760 - 10 - 10);
        due("before the first", x.clear(-1), false);
        due("behind the last", x.clear(16), false);
        due("as before", x.value(1), 5);
    }

    private static void kinds() {
        StackRoom x = withBlock(0, 0);
        int[] kinds = {2, 3, 4, 1, 0};
        x.number(3, -1);
        for (int r = 0; r < kinds.length; r++) {
            due("kind", x.kind(r), kinds[r]);
            x.move(0, r);
            due("kind in the first", x.kind(0), kinds[r]);
            x.move(15, r);
            due("kind in the last", x.kind(15), kinds[r]);
        }
        due("before the first", x.kind(-1), NONE);
        due("behind the last", x.kind(16), NONE);
        due("least", x.kind(LEAST), NONE);
        due("greatest", x.kind(GREATEST), NONE);
    }

    private static void values() {
        StackRoom x = withBlock(0, 0);
        due("method", x.value(0), 4);
        due("context", x.value(1), 5);
        due("block", x.value(2), 6);
        due("nil", x.value(3), 0);
        int[] numbers = {LEAST_NUMBER, -2, -1, 0, 1, GREATEST_NUMBER};
        for (int v : numbers) {
            x.number(15, v);
            due("number in the last", x.value(15), v);
        }
        due("before the first", x.value(-1), 0);
        due("behind the last", x.value(16), 0);
        due("least", x.value(LEAST), 0);
        due("greatest", x.value(GREATEST), 0);
    }

    // ---- promises 7 to 10

    private static void sentencesOfMaking() {
        test("7: Answers its identity; NONE when a, t, d are not such", BoundaryTest::methodOrNone);
        test("7: FULL when there is no room", BoundaryTest::methodOrFull);
        test("8: false when it is none, or they are not such", BoundaryTest::changeOrNot);
        test("9: not dead, its T temporaries nil, height T", BoundaryTest::newContext);
        test("9: NONE when m is no method, or s neither nil nor a context", BoundaryTest::contextOrNone);
        test("9: FULL when there is no room", BoundaryTest::contextOrFull);
        test("10: whose home is that of the context: without a sender, dead, height 0", BoundaryTest::newBlock);
        test("10: a count (0 .. 15); NONE when .. the count not such", BoundaryTest::blockCounts);
        test("10: NONE when c is no context", BoundaryTest::blockOrNone);
        test("10: FULL when there is no room", BoundaryTest::blockOrFull);
    }

    private static void methodOrNone() {
        StackRoom x = new StackRoom(128, 16);
        due("least", x.method(0, 0, 0, 0), 4);
        due("greatest", x.method(15, 15, 31, 63), 6);
        due("a is T", x.method(1, 15, 15, 0), 8);
        int words = x.words();
        int[][] none = {{-1, 0, 0}, {16, 16, 0}, {1, 0, 0}, {0, -1, 0}, {0, 32, 0}, {0, 0, -1}, {0, 0, 64},
            {16, 32, 64}, {-1, -1, -1}};
        for (int[] n : none) {
            due("not such", x.method(0, n[0], n[1], n[2]), NONE);
            due("as before", x.value(0), 4);
        }
        due("into before the first", x.method(-1, 0, 0, 0), NONE);
        due("into behind the last", x.method(16, 0, 0, 0), NONE);
        due("words", x.words(), words);
        due("the next identity", x.method(2, 0, 0, 0), 10);
    }

    private static void methodOrFull() {
        StackRoom x = leavingWords(10);
        due("ten words", x.method(3, 0, 0, 0), 8);
        due("none", x.method(4, 0, 0, 0), FULL);
        holdsNil("none", x, 4);
        due("not such, and no room", x.method(4, 1, 0, 0), NONE);
        x.clear(3);
        due("the next identity", x.method(4, 0, 0, 0), 10);
        due("nine words", leavingWords(9).method(3, 0, 0, 0), FULL);
        due("two entries", leavingEntries(2).method(3, 0, 0, 0), 16);
        due("one entry", leavingEntries(1).method(3, 0, 0, 0), FULL);
    }

    private static void changeOrNot() {
        StackRoom x = leavingWords(0);
        due("change needs no room", x.change(0, 15, 31, 63), true);
        due("change to the least", x.change(0, 0, 0, 0), true);
        due("floor", x.floor(1), 0);
        due("words", x.words(), 0);
        due("identity", x.value(0), 4);
        int[][] none = {{-1, 0, 0}, {16, 16, 0}, {1, 0, 0}, {0, -1, 0}, {0, 32, 0}, {0, 0, -1}, {0, 0, 64}};
        for (int[] n : none) {
            due("not such", x.change(0, n[0], n[1], n[2]), false);
            due("floor as before", x.floor(1), 0);
        }
        x.number(3, 4);
        due("a context", x.change(1, 0, 1, 1), false);
        due("a number", x.change(3, 0, 1, 1), false);
        due("nil", x.change(4, 0, 1, 1), false);
        due("before the first", x.change(-1, 0, 1, 1), false);
        due("behind the last", x.change(16, 0, 1, 1), false);
        due("floor as before", x.floor(1), 0);
        x.clear(1);
        due("a new one", x.context(1, 0, NIL), 7);
        due("room as D is", x.room(1), 0);
    }

    private static void newContext() {
        int[] temporaries = {0, 1, 31};
        for (int t : temporaries) {
            StackRoom x = withContext(t, 2);
            due("kind", x.kind(1), 3);
            due("height", x.height(1), t);
            due("dead", x.kill(1, false), false);
            for (int i = 0; i < t; i++) {
                x.number(2, 5);
                due("temporary", x.temporary(2, 1, i), true);
                holdsNil("temporary", x, 2);
            }
            due("temporary T", x.temporary(2, 1, t), false);
            due("no depth", x.pop(2, 1), false);
            due("two on top", x.fill(1, 0, 3), 2);
        }
    }

    private static void contextOrNone() {
        StackRoom x = withBlock(1, 1);
        x.number(3, 5);
        int[] noMethods = {1, 2, 3, NIL, -1, 16};
        for (int m : noMethods) {
            due("no method " + m, x.context(4, m, NIL), NONE);
            due("no method " + m + ", with a sender", x.context(4, m, 1), NONE);
        }
        int[] noSenders = {0, 3, -1, 16};
        for (int s : noSenders) {
            due("no sender " + s, x.context(4, 0, s), NONE);
        }
        due("into none", x.context(-1, 0, NIL), NONE);
        due("into none", x.context(16, 0, NIL), NONE);
        holdsNil("as before", x, 4);
        due("with nil", x.context(4, 0, NIL), 7);
        due("no sender", x.sender(5, 4) && x.kind(5) == 0, true);
        due("with a method context", x.context(4, 0, 1), 8);
        due("its sender", x.sender(5, 4) && x.value(5) == 5, true);
        due("with a block context", x.context(4, 0, 2), 9);
        due("its sender", x.sender(5, 4) && x.value(5) == 6, true);
        due("over its sender", x.context(4, 0, 4), 10);
        due("its sender", x.sender(5, 4) && x.value(5) == 9, true);
        due("over its method", x.context(0, 0, 0), NONE);
        due("over its method", x.context(0, 0, NIL), 11);
        due("no method any more", x.context(0, 0, NIL), NONE);
    }

    private static void contextOrFull() {
        StackRoom x = leavingWords(9);
        due("103 words in 9", x.context(3, 0, NIL), FULL);
        due("no method, and no room", x.context(3, 1, NIL), NONE);
        due("no sender, and no room", x.context(3, 0, 0), NONE);
        holdsNil("as before", x, 3);
        x.change(0, 0, 0, 0);
        due("9 words in 9", x.context(3, 0, NIL), 7);
        due("9 words in none", x.context(4, 0, 3), FULL);
        due("one entry", leavingEntries(1).context(3, 0, 1), 16);
        due("no entry", leavingEntries(0).context(3, 0, 1), FULL);
    }

    private static void newBlock() {
        int[] depths = {0, 1, 63};
        for (int d : depths) {
            StackRoom x = withContext(31, d);
            x.context(2, 0, 1);
            due("of a method context with a sender", x.block(3, 2, 0), 7);
            due("kind", x.kind(3), 4);
            due("height", x.height(3), 0);
            due("room", x.room(3), d);
            due("sender", x.sender(4, 3) && x.kind(4) == 0, true);
            due("home", x.home(4, 3) && x.value(4) == 6, true);
            due("dead", x.kill(3, false), true);
            x.send(3, 1);
            due("of a block with a sender, not dead", x.block(5, 3, 0), 8);
            due("sender", x.sender(4, 5) && x.kind(4) == 0, true);
            due("home", x.home(4, 5) && x.value(4) == 6, true);
            due("dead", x.kill(5, true), true);
        }
    }

    private static void blockCounts() {
        StackRoom x = withBlock(0, 0);
        int[] fine = {0, 1, 14, 15};
        for (int count : fine) {
            due("of a method context", x.block(3, 1, count) > 0, true);
            due("count", x.count(3), count);
            due("of a block context", x.block(3, 2, count) > 0, true);
            due("count", x.count(3), count);
        }
        int[] none = {-1, 16, -15, 17, LEAST, GREATEST};
        for (int count : none) {
            due("of a method context", x.block(3, 1, count), NONE);
            due("of a block context", x.block(3, 2, count), NONE);
            due("count as before", x.count(3), 15);
        }
        due("the next identity", x.block(3, 1, 0), 15);
    }

    private static void blockOrNone() {
        StackRoom x = withBlock(0, 0);
        x.number(3, 5);
        int[] noContexts = {0, 3, NIL, -1, 16};
        for (int c : noContexts) {
            due("of " + c, x.block(4, c, 0), NONE);
            due("of " + c + " with the last count", x.block(4, c, 15), NONE);
        }
        due("into none", x.block(-1, 1, 0), NONE);
        due("into none", x.block(16, 1, 0), NONE);
        holdsNil("as before", x, 4);
        due("over its own context", x.block(1, 1, 0), 7);
        due("its home is still had", x.contexts(), 3);
        due("its home", x.home(1, 1) && x.value(1) == 5, true);
    }

    private static void blockOrFull() {
        StackRoom x = leavingWords(10);
        due("73 words in 10", x.block(3, 1, 0), FULL);
        due("count not such, and no room", x.block(3, 1, 16), NONE);
        due("no context, and no room", x.block(3, 0, 0), NONE);
        holdsNil("as before", x, 3);
        x.change(0, 0, 31, 0);
        due("10 words in 10", x.block(3, 1, 0), 7);
        due("10 words in none", x.block(4, 3, 0), FULL);
        StackRoom y = leavingWords(9);
        y.change(0, 0, 0, 0);
        due("10 words in 9", y.block(3, 1, 0), FULL);
        due("one entry", leavingEntries(1).block(3, 1, 0), 16);
        due("no entry", leavingEntries(0).block(3, 1, 0), FULL);
    }

    // ---- promises 11 to 19

    private static void sentencesOfStacks() {
        test("11: false when c has no context, or it is full", BoundaryTest::pushOrNot);
        test("12: so many (0 .. 100)", BoundaryTest::fillSoMany);
        test("12: as long as it is not full. Answers how many were", BoundaryTest::fillUntilFull);
        test("12: NONE when .. one of the many numbers is none", BoundaryTest::fillOfNumbers);
        test("12: also of those that would not be pushed", BoundaryTest::fillOfNumbersNotPushed);
        test("12: with many 0 v is not looked at", BoundaryTest::fillOfNothing);
        test("12: NONE when c has no context", BoundaryTest::fillOrNone);
        test("13: false when c has no context, or its depth is 0 or less", BoundaryTest::popOrNot);
        test("14: under so many others (0 for the last one), all of which could be popped", BoundaryTest::peekUnder);
        test("14: false when there is no context, or none such", BoundaryTest::peekOrNot);
        test("15: false when .. many is below 0, or above 0 and above the depth", BoundaryTest::dropSoMany);
        test("15: false when there is no context", BoundaryTest::dropOrNot);
        test("16: The height; NONE when c has no context", BoundaryTest::heights);
        test("17: How many the height can be; NONE as above", BoundaryTest::rooms);
        test("18: The floor; NONE as above", BoundaryTest::floors);
        test("19: The count of a block context; NONE when c has none", BoundaryTest::counts);
    }

    private static void pushOrNot() {
        StackRoom x = withBlock(1, 2);
        x.number(3, 33);
        for (int c = 1; c <= 2; c++) {
            due("onto an empty one", x.push(c, 3), true);
            due("nil, the last that there is room for", x.push(c, NIL), true);
            due("onto a full one", x.push(c, 3), false);
            due("itself onto a full one", x.push(c, c), false);
            due("height", x.height(c), x.room(c));
            due("the last one as before", x.peek(4, c, 0), true);
            holdsNil("the last one as before", x, 4);
            due("room again", x.drop(c, 1), true);
            due("itself", x.push(c, c), true);
        }
        int[] none = {0, 3, NIL, -1, 16};
        for (int c : none) {
            due("no context " + c, x.push(c, 3), false);
        }
        x.drop(1, 1);
        due("from before the first", x.push(1, -1), false);
        due("from behind the last", x.push(1, 16), false);
        due("height", x.height(1), 2);
        StackRoom y = withBlock(0, 0);
        due("no room at all", y.push(1, 0), false);
        due("no room at all, a block", y.push(2, 0), false);
        due("height", y.height(1), 0);
    }

    private static void fillSoMany() {
        StackRoom x = withBlock(31, 63);
        due("none", x.fill(1, 5, 0), 0);
        due("height", x.height(1), 31);
        due("one", x.fill(1, 5, 1), 1);
        due("99", x.fill(1, 6, 99), 62);
        due("100", x.fill(2, 6, 100), 63);
        x.drop(2, 63);
        int[] none = {-1, 101, 102, -100, LEAST, GREATEST, LEAST + 1};
        for (int many : none) {
            due("so many: " + many, x.fill(2, 5, many), NONE);
            due("height", x.height(2), 0);
        }
        due("63", x.fill(2, 6, 63), 63);
        x.drop(2, 63);
        due("62", x.fill(2, 6, 62), 62);
    }

    private static void fillUntilFull() {
        for (int many = 0; many <= 5; many++) {
            StackRoom x = withBlock(2, 3);
            int pushed = many < 3 ? many : 3;
            for (int c = 1; c <= 2; c++) {
                due("so many: " + many, x.fill(c, -1, many), pushed);
                due("height", x.height(c), x.floor(c) + pushed);
                for (int i = 0; i < pushed; i++) {
                    due("peek", x.peek(3, c, i), true);
                    holdsNumber("number", x, 3, pushed - 2 - i);
                }
                due("no more of them", x.peek(3, c, pushed), false);
                due("the rest", x.fill(c, 9, 100), 3 - pushed);
                due("full", x.fill(c, 9, 100), 0);
                due("full", x.fill(c, 9, 1), 0);
            }
        }
        StackRoom y = withContext(0, 3);
        y.change(0, 0, 31, 0);
        due("below the floor", y.fill(1, 5, 9), 3);
        due("below the floor, no depth", y.pop(2, 1), false);
    }

    private static void fillOfNumbers() {
        int[] manys = {1, 2, 3, 50, 99, 100};
        for (int many : manys) {
            StackRoom x = withContext(0, 63);
            int pushed = many < 63 ? many : 63;
            due("from the least, " + many, x.fill(1, LEAST_NUMBER, many), pushed);
            x.drop(1, pushed);
            due("from before the least, " + many, x.fill(1, LEAST_NUMBER - 1, many), NONE);
            due("up to the greatest, " + many, x.fill(1, GREATEST_NUMBER - many + 1, many), pushed);
            x.peek(2, 1, 0);
            holdsNumber("the last pushed", x, 2, GREATEST_NUMBER - many + pushed);
            x.drop(1, pushed);
            due("up to behind the greatest, " + many, x.fill(1, GREATEST_NUMBER - many + 2, many), NONE);
            due("from the least int, " + many, x.fill(1, LEAST, many), NONE);
            due("from the greatest int, " + many, x.fill(1, GREATEST, many), NONE);
            due("wrapping around, " + many, x.fill(1, GREATEST - many + 1, many), NONE);
            due("before the least number, " + many, x.fill(1, LEAST_NUMBER - many, many), NONE);
            due("height", x.height(1), 0);
        }
    }

    private static void fillOfNumbersNotPushed() {
        StackRoom x = withContext(0, 2);
        due("two of three, the third is one", x.fill(1, GREATEST_NUMBER - 2, 3), 2);
        x.drop(1, 2);
        due("two of three, the third is none", x.fill(1, GREATEST_NUMBER - 1, 3), NONE);
        due("nothing pushed", x.height(1), 0);
        x.fill(1, 0, 2);
        due("of a full one, all are", x.fill(1, GREATEST_NUMBER, 1), 0);
        due("of a full one, the only one is none", x.fill(1, GREATEST_NUMBER + 1, 1), NONE);
        due("of a full one, the second is none", x.fill(1, GREATEST_NUMBER, 2), NONE);
        due("of a full one, the last is one", x.fill(1, GREATEST_NUMBER - 99, 100), 0);
        due("of a full one, the last is none", x.fill(1, GREATEST_NUMBER - 98, 100), NONE);
        due("of a full one, the first is none", x.fill(1, LEAST_NUMBER - 1, 2), NONE);
        StackRoom y = withContext(0, 0);
        due("of one without room, all are", y.fill(1, LEAST_NUMBER, 100), 0);
        due("of one without room, the last is none", y.fill(1, GREATEST_NUMBER, 2), NONE);
    }

    private static void fillOfNothing() {
        StackRoom x = withBlock(0, 2);
        int[] any = {LEAST, LEAST_NUMBER - 1, LEAST_NUMBER, 0, GREATEST_NUMBER, GREATEST_NUMBER + 1, GREATEST};
        for (int v : any) {
            due("an empty one, v " + v, x.fill(1, v, 0), 0);
            due("an empty block, v " + v, x.fill(2, v, 0), 0);
            due("no context, v " + v, x.fill(0, v, 0), NONE);
        }
        due("height", x.height(1), 0);
        x.fill(1, 0, 2);
        for (int v : any) {
            due("a full one, v " + v, x.fill(1, v, 0), 0);
        }
        due("height", x.height(1), 2);
    }

    private static void fillOrNone() {
        StackRoom x = withBlock(0, 2);
        x.number(3, 1);
        int[] none = {0, 3, NIL, -1, 16, LEAST, GREATEST};
        for (int c : none) {
            due("no context " + c, x.fill(c, 1, 1), NONE);
            due("no context " + c + ", none", x.fill(c, 1, 0), NONE);
            due("no context " + c + ", not such", x.fill(c, 1, 101), NONE);
        }
    }

    private static void popOrNot() {
        StackRoom x = withBlock(2, 3);
        x.number(3, 33);
        for (int c = 1; c <= 2; c++) {
            due("depth 0", x.pop(3, c), false);
            holdsNumber("depth 0", x, 3, 33);
            x.fill(c, 40, 9);
            for (int i = 2; i >= 0; i--) {
                due("depth " + (i + 1), x.pop(4, c), true);
                holdsNumber("depth " + (i + 1), x, 4, 40 + i);
            }
            due("depth 0", x.pop(3, c), false);
            holdsNumber("depth 0", x, 3, 33);
        }
        int[] none = {0, 3, NIL, -1, 16};
        for (int c : none) {
            due("no context " + c, x.pop(4, c), false);
        }
        x.fill(1, 50, 1);
        due("into before the first", x.pop(-1, 1), false);
        due("into behind the last", x.pop(16, 1), false);
        due("height", x.height(1), 3);
        x.change(0, 0, 3, 0);
        due("depth 0, as T has grown", x.pop(3, 1), false);
        x.change(0, 0, 4, 0);
        due("depth -1, as T has grown", x.pop(3, 1), false);
        holdsNumber("as before", x, 3, 33);
        x.change(0, 0, 2, 0);
        due("over itself", x.pop(1, 1), true);
        holdsNumber("over itself", x, 1, 50);
    }

    private static void peekUnder() {
        StackRoom x = withBlock(2, 3);
        for (int c = 1; c <= 2; c++) {
            for (int depth = 0; depth <= 3; depth++) {
                for (int under = 0; under < depth; under++) {
                    due("under " + under + " of " + depth, x.peek(3, c, under), true);
                    holdsNumber("under " + under + " of " + depth, x, 3, 59 + depth - under);
                }
                x.number(3, 33);
                due("under " + depth + " of " + depth, x.peek(3, c, depth), false);
                due("under " + (depth + 1) + " of " + depth, x.peek(3, c, depth + 1), false);
                due("under -1 of " + depth, x.peek(3, c, -1), false);
                holdsNumber("as before", x, 3, 33);
                due("height", x.height(c), x.floor(c) + depth);
                x.fill(c, 60 + depth, 1);
            }
        }
        x.change(0, 0, 4, 0);
        due("as T has grown, the last above the floor", x.peek(3, 1, 0), true);
        due("as T has grown, the first below it", x.peek(3, 1, 1), false);
        x.change(0, 0, 5, 0);
        due("as T has grown, depth 0", x.peek(3, 1, 0), false);
        x.change(0, 0, 31, 0);
        due("as T has grown, depth -26", x.peek(3, 1, 0), false);
        due("as T has grown, depth -26, under -27", x.peek(3, 1, -27), false);
        x.change(0, 0, 0, 0);
        due("as T has shrunk, the first field", x.peek(3, 1, 4), true);
        holdsNil("as T has shrunk, the first field", x, 3);
        due("as T has shrunk, before the first field", x.peek(3, 1, 5), false);
    }

    private static void peekOrNot() {
        StackRoom x = withBlock(2, 3);
        x.number(3, 33);
        x.fill(1, 60, 1);
        int[] none = {0, 3, NIL, -1, 16};
        for (int c : none) {
            due("no context " + c, x.peek(3, c, 0), false);
        }
        int[] notSuch = {LEAST, LEAST + 1, -1, 1, GREATEST - 1, GREATEST};
        for (int under : notSuch) {
            due("under " + under, x.peek(3, 1, under), false);
            due("under " + under + " of an empty one", x.peek(3, 2, under), false);
        }
        due("into before the first", x.peek(-1, 1, 0), false);
        due("into behind the last", x.peek(16, 1, 0), false);
        holdsNumber("as before", x, 3, 33);
        due("over itself", x.peek(1, 1, 0), true);
        holdsNumber("over itself", x, 1, 60);
    }

    private static void dropSoMany() {
        for (int depth = 0; depth <= 3; depth++) {
            for (int many = 0; many <= 4; many++) {
                StackRoom x = withBlock(2, 3);
                for (int c = 1; c <= 2; c++) {
                    x.fill(c, 70, depth);
                    boolean fine = many <= depth;
                    due(many + " of " + depth, x.drop(c, many), fine);
                    due("height", x.height(c), x.floor(c) + (fine ? depth - many : depth));
                }
            }
        }
        StackRoom y = withBlock(2, 3);
        y.fill(1, 70, 2);
        int[] none = {-1, -2, 3, LEAST, GREATEST};
        for (int many : none) {
            due("so many: " + many, y.drop(1, many), false);
            due("so many of an empty one: " + many, y.drop(2, many), false);
        }
        int[] grown = {4, 5, 31};
        for (int t : grown) {
            y.change(0, 0, t, 0);
            due("depth 0 or less, none", y.drop(1, 0), true);
            due("depth 0 or less, one", y.drop(1, 1), false);
            due("depth 0 or less, -1", y.drop(1, -1), false);
            due("depth 0 or less, as the depth is", y.drop(1, 4 - t), t == 4);
        }
        due("height", y.height(1), 4);
    }

    private static void dropOrNot() {
        StackRoom x = withBlock(2, 3);
        x.number(3, 33);
        int[] none = {0, 3, NIL, -1, 16, LEAST, GREATEST};
        for (int c : none) {
            due("no context " + c + ", none", x.drop(c, 0), false);
            due("no context " + c + ", one", x.drop(c, 1), false);
        }
        due("all of a full one", x.fill(2, 0, 3) == 3 && x.drop(2, 3), true);
        due("height", x.height(2), 0);
    }

    private static void heights() {
        StackRoom x = withBlock(2, 3);
        noContextAnswersNone("height", x, 0);
        due("least of a block", x.height(2), 0);
        due("greatest of a block", x.fill(2, 0, 9) + x.height(2), 6);
        due("at first", x.height(1), 2);
        due("greatest", x.fill(1, 0, 9) + x.height(1), 8);
        x.change(0, 0, 0, 0);
        due("least, as T has shrunk", x.drop(1, 5), true);
        due("least, as T has shrunk", x.height(1), 0);
        due("greatest of all", withContext(31, 63).fill(1, 0, 100), 63);
        due("least of all", withContext(0, 0).height(1), 0);
    }

    private static void rooms() {
        StackRoom x = withBlock(2, 3);
        noContextAnswersNone("room", x, 1);
        due("context", x.room(1), 5);
        due("block", x.room(2), 3);
        due("context, full", x.fill(1, 0, 9) + x.room(1), 8);
        due("greatest", withBlock(31, 63).room(1), 94);
        due("greatest of a block", withBlock(31, 63).room(2), 63);
        due("least", withBlock(0, 0).room(1), 0);
        due("least of a block", withBlock(31, 0).room(2), 0);
    }

    private static void floors() {
        StackRoom x = withBlock(2, 3);
        noContextAnswersNone("floor", x, 2);
        due("context", x.floor(1), 2);
        due("block", x.floor(2), 0);
        due("context, full", x.fill(1, 0, 9) + x.floor(1), 5);
        due("greatest", withBlock(31, 63).floor(1), 31);
        due("of a block", withBlock(31, 63).floor(2), 0);
        due("least", withBlock(0, 63).floor(1), 0);
    }

    private static void noContextAnswersNone(String what, StackRoom x, int which) {
        x.number(3, 7);
        int[] none = {0, 3, NIL, -1, 16, LEAST, GREATEST};
        for (int c : none) {
            int got = which == 0 ? x.height(c) : which == 1 ? x.room(c) : x.floor(c);
            due(what + " of register " + c, got, NONE);
        }
    }

    private static void counts() {
        StackRoom x = withBlock(2, 3);
        x.number(3, 7);
        int[] none = {0, 1, 3, NIL, -1, 16, LEAST, GREATEST};
        for (int c : none) {
            due("register " + c, x.count(c), NONE);
        }
        due("block", x.count(2), 3);
        x.home(2, 2);
        due("its home has none", x.count(2), NONE);
        x.block(0, 1, 0);
        due("least, in the first", x.count(0), 0);
        x.block(14, 1, 15);
        due("greatest", x.count(14), 15);
    }

    // ---- promises 20 to 25

    private static void sentencesOfLinks() {
        test("20: Answers true; false when c has no context", BoundaryTest::homeOrNot);
        test("21: Answers true; false when c has no context", BoundaryTest::senderOrNot);
        test("22: false when c has no context, or s is neither nil nor one", BoundaryTest::sendOrNot);
        test("23: Answers whether it was; false also when c has no context", BoundaryTest::killOrNot);
        test("24: if i is from 0 on, below the T that its method has now", BoundaryTest::temporaryBelowT);
        test("24: and there is such a field", BoundaryTest::temporaryWithoutField);
        test("24: false when c has no context, or there is none", BoundaryTest::temporaryOrNot);
        test("25: Answers as temporary()", BoundaryTest::keepOrNot);
        test("25: Temporary i of the home becomes what register from is", BoundaryTest::keepOfFields);
    }

    private static void homeOrNot() {
        StackRoom x = withBlock(0, 0);
        x.number(3, 7);
        int[] none = {0, 3, NIL, -1, 16, LEAST, GREATEST};
        for (int c : none) {
            due("register " + c, x.home(3, c), false);
        }
        due("into before the first", x.home(-1, 2), false);
        due("into behind the last", x.home(16, 2), false);
        holdsNumber("as before", x, 3, 7);
        due("over itself", x.home(2, 2), true);
        due("home", x.value(2), 5);
        due("the block is gone", x.contexts(), 1);
        due("its own home over itself", x.home(2, 2), true);
        due("home", x.value(2), 5);
    }

    private static void senderOrNot() {
        StackRoom x = withBlock(0, 0);
        x.number(3, 7);
        int[] none = {0, 3, NIL, -1, 16, LEAST, GREATEST};
        for (int c : none) {
            due("register " + c, x.sender(3, c), false);
        }
        due("into before the first", x.sender(-1, 2), false);
        due("into behind the last", x.sender(16, 2), false);
        holdsNumber("as before", x, 3, 7);
        due("there is none", x.sender(3, 2), true);
        holdsNil("there is none", x, 3);
        x.send(1, 2);
        due("over itself", x.sender(1, 1), true);
        due("sender", x.value(1), 6);
        due("none over itself", x.sender(2, 2), true);
        holdsNil("none over itself", x, 2);
        due("none over the last that has it", x.sender(1, 1), true);
        due("it is gone, and its home", x.contexts(), 0);
    }

    private static void sendOrNot() {
        StackRoom x = withBlock(0, 0);
        x.number(3, 7);
        due("to itself", x.send(1, 1), true);
        due("to itself", x.sender(4, 1) && x.value(4) == 5, true);
        due("to a block", x.send(1, 2), true);
        due("of a block", x.send(2, 1), true);
        int[] none = {0, 3, NIL, -1, 16, LEAST, GREATEST};
        for (int c : none) {
            due("of register " + c, x.send(c, 1), false);
            due("of register " + c + " to nil", x.send(c, NIL), false);
        }
        int[] noSenders = {0, 3, -1, 16, LEAST, GREATEST};
        for (int s : noSenders) {
            due("to register " + s, x.send(1, s), false);
        }
        due("sender as before", x.sender(4, 1) && x.value(4) == 6, true);
        due("to nil", x.send(1, NIL), true);
        due("to nil", x.sender(4, 1) && x.kind(4) == 0, true);
        due("to nil again", x.send(1, NIL), true);
    }

    private static void killOrNot() {
        StackRoom x = withBlock(0, 0);
        x.number(3, 7);
        int[] none = {0, 3, NIL, -1, 16, LEAST, GREATEST};
        for (int c : none) {
            due("register " + c, x.kill(c, true), false);
            due("register " + c + " again", x.kill(c, true), false);
            due("register " + c + ", not", x.kill(c, false), false);
        }
        due("a context was not", x.kill(1, true), false);
        due("then it was", x.kill(1, true), true);
        due("still", x.kill(1, false), true);
        due("then it was not", x.kill(1, false), false);
        due("a block was", x.kill(2, true), true);
        due("still", x.kill(2, false), true);
        due("then it was not", x.kill(2, false), false);
        due("not", x.kill(2, true), false);
    }

    private static void temporaryBelowT() {
        for (int t = 0; t <= 3; t++) {
            StackRoom x = withBlock(t, 2);
            x.number(3, 33);
            for (int i = 0; i < t; i++) {
                due("T " + t + ", " + i, x.temporary(4, 1, i), true);
                due("T " + t + ", " + i + " of a home", x.temporary(4, 2, i), true);
                holdsNil("temporary", x, 4);
            }
            due("T " + t + ", T", x.temporary(3, 1, t), false);
            due("T " + t + ", T of a home", x.temporary(3, 2, t), false);
            due("T " + t + ", -1", x.temporary(3, 1, -1), false);
            due("T " + t + ", -1 of a home", x.temporary(3, 2, -1), false);
            holdsNumber("as before", x, 3, 33);
        }
        StackRoom y = withContext(4, 2);
        y.fill(1, 50, 1);
        y.change(0, 0, 2, 0);
        due("T has shrunk, the last", y.temporary(3, 1, 1), true);
        due("T has shrunk, T", y.temporary(3, 1, 2), false);
        y.change(0, 0, 0, 0);
        due("T has shrunk to 0", y.temporary(3, 1, 0), false);
        y.change(0, 0, 5, 0);
        due("T has grown, the last", y.temporary(3, 1, 4), true);
        holdsNumber("T has grown, the last", y, 3, 50);
        due("T has grown, T, where there is a field", y.temporary(3, 1, 5), false);
        StackRoom z = withContext(31, 0);
        due("30", z.temporary(3, 1, 30), true);
        due("31", z.temporary(3, 1, 31), false);
    }

    private static void temporaryWithoutField() {
        StackRoom x = withBlock(1, 2);
        x.change(0, 0, 31, 63);
        for (int c = 1; c <= 2; c++) {
            x.number(3, 33);
            due("the last field", x.temporary(3, c, 2), true);
            holdsNil("the last field", x, 3);
            x.number(3, 33);
            due("behind the last field", x.temporary(3, c, 3), false);
            due("below T", x.temporary(3, c, 30), false);
            due("keep behind the last field", x.keep(c, 3, 0), false);
            due("keep below T", x.keep(c, 30, 0), false);
            holdsNumber("as before", x, 3, 33);
        }
        StackRoom y = withContext(0, 0);
        y.change(0, 0, 31, 0);
        due("no field at all", y.temporary(3, 1, 0), false);
        due("no field at all", y.keep(1, 0, 0), false);
    }

    private static void temporaryOrNot() {
        StackRoom x = withBlock(2, 2);
        x.number(3, 33);
        int[] none = {0, 3, NIL, -1, 16, LEAST, GREATEST};
        for (int c : none) {
            due("register " + c, x.temporary(3, c, 0), false);
        }
        int[] notThere = {LEAST, LEAST + 1, -2, -1, 2, 3, GREATEST - 1, GREATEST};
        for (int i : notThere) {
            due("temporary " + i, x.temporary(3, 1, i), false);
            due("temporary " + i + " of a home", x.temporary(3, 2, i), false);
        }
        due("into before the first", x.temporary(-1, 1, 0), false);
        due("into behind the last", x.temporary(16, 1, 0), false);
        holdsNumber("as before", x, 3, 33);
        due("over itself", x.temporary(2, 2, 1), true);
        holdsNil("over itself", x, 2);
    }

    private static void keepOrNot() {
        StackRoom x = withBlock(2, 2);
        x.number(3, 33);
        x.keep(1, 0, 3);
        x.keep(2, 1, 3);
        int[] none = {0, 3, NIL, -1, 16, LEAST, GREATEST};
        for (int c : none) {
            due("register " + c, x.keep(c, 0, 1), false);
        }
        int[] notThere = {LEAST, LEAST + 1, -2, -1, 2, 3, 4, GREATEST - 1, GREATEST};
        for (int i : notThere) {
            due("temporary " + i, x.keep(1, i, 1), false);
            due("temporary " + i + " of a home", x.keep(2, i, 1), false);
        }
        due("from before the first", x.keep(1, 0, -1), false);
        due("from behind the last", x.keep(1, 0, 16), false);
        for (int i = 0; i < 2; i++) {
            due("temporary " + i, x.temporary(4, 1, i), true);
            holdsNumber("temporary " + i + " as before", x, 4, 33);
        }
        due("height as before", x.height(1), 2);
        due("a block's height as before", x.height(2), 0);
    }

    private static void keepOfFields() {
        StackRoom x = withContext(31, 1);
        x.number(2, 50);
        due("the first", x.keep(1, 0, 2), true);
        x.number(2, 51);
        due("the last", x.keep(1, 30, 2), true);
        due("T", x.keep(1, 31, 2), false);
        x.temporary(3, 1, 0);
        holdsNumber("the first", x, 3, 50);
        x.temporary(3, 1, 30);
        holdsNumber("the last", x, 3, 51);
        x.temporary(3, 1, 1);
        holdsNil("the second", x, 3);
        x.temporary(3, 1, 29);
        holdsNil("the last but one", x, 3);
        due("nil", x.keep(1, 30, NIL), true);
        x.temporary(3, 1, 30);
        holdsNil("the last", x, 3);
        StackRoom y = withBlock(0, 3);
        y.fill(1, 60, 2);
        y.change(0, 0, 3, 0);
        due("what was pushed", y.keep(2, 1, 1), true);
        due("beyond the height", y.keep(2, 2, 2), true);
        due("height", y.height(1), 2);
        y.change(0, 0, 0, 0);
        due("pop", y.pop(4, 1) && y.value(4) == 5, true);
        due("pop", y.pop(4, 1), true);
        holdsNumber("pop", y, 4, 60);
        y.change(0, 0, 3, 0);
        due("beyond the height", y.temporary(4, 1, 2) && y.value(4) == 6, true);
    }

    // ---- promises 26 to 28

    private static void sentencesOfRoom() {
        test("26: How many words are left for what could be made", BoundaryTest::wordsLeft);
        test("27: How many entries are left", BoundaryTest::entriesLeft);
        test("28: How many reachable contexts there are", BoundaryTest::contextsThere);
    }

    private static void wordsLeft() {
        due("least room, empty", new StackRoom(128, 4096).words(), 120);
        due("greatest room, empty", new StackRoom(32768, 16).words(), 32760);
        int[] left = {0, 1, 8, 9, 10, 102, 103};
        for (int words : left) {
            StackRoom x = leavingWords(words);
            x.fill(1, 0, 100);
            x.number(3, 5);
            x.push(2, 1);
            due("numbers and links take none", x.words(), words);
            x.clear(2);
            due("one gone", x.words(), words + 103);
            x.clear(0);
            due("the method is still had", x.words(), words + 103);
            x.clear(1);
            due("all gone", x.words(), words + 216);
        }
    }

    private static void entriesLeft() {
        due("least room, empty", new StackRoom(128, 16).entries(), 14);
        due("greatest room, empty", new StackRoom(128, 4096).entries(), 4094);
        for (int entries = 0; entries <= 11; entries++) {
            StackRoom x = leavingEntries(entries);
            x.number(3, 5);
            x.move(4, 1);
            due("numbers and links take none", x.entries(), entries);
            x.clear(4);
            x.clear(0);
            due("the method is still had", x.entries(), entries);
            x.send(1, NIL);
            due("one and its method", x.entries(), 11);
            x.clear(1);
            due("all gone", x.entries(), 14);
        }
    }

    private static void contextsThere() {
        StackRoom x = new StackRoom(32768, 4096);
        due("none", x.contexts(), 0);
        x.method(0, 0, 0, 1);
        due("a method is none", x.contexts(), 0);
        x.context(1, 0, NIL);
        due("one", x.contexts(), 1);
        x.move(2, 1);
        x.push(1, 1);
        x.send(1, 1);
        due("one, had four times", x.contexts(), 1);
        x.block(3, 1, 0);
        due("two", x.contexts(), 2);
        x.clear(1);
        x.clear(2);
        due("two, one by the other", x.contexts(), 2);
        x.push(3, 3);
        due("two, one by itself, too", x.contexts(), 2);
        x.clear(3);
        due("none", x.contexts(), 0);
    }
}
