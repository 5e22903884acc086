/** Every promise of the document by itself: ordinary inputs, the edges that it names, and wrong inputs. */
public final class PromiseTest {
    private static final int NIL = 15;
    private static final int[] NO_REGISTERS = {-1, 16, 17, Integer.MIN_VALUE, Integer.MAX_VALUE};

    private static int wrong = 0;
    private static int looked = 0;

    public static void main(String[] args) {
        constants();
        newObject();
        number();
        move();
        clear();
        kind();
        value();
        method();
        methodWithoutRoom();
        change();
        context();
        contextWithoutRoom();
        block();
        blockWithoutRoom();
        push();
        fill();
        pop();
        peek();
        drop();
        height();
        room();
        floor();
        count();
        home();
        sender();
        send();
        kill();
        temporary();
        keep();
        words();
        entries();
        contexts();
        noRegister();
        refusedCallsChangeNothing();
        System.out.println(looked + " answers looked at, " + wrong + " not as due");
        if (wrong != 0) {
            System.exit(1);
        }
    }

    private static void due(String what, int got, int want) {
        looked++;
        if (got != want) {
            wrong++;
            System.out.println(what + ": answered " + got + ", due is " + want);
        }
    }

    private static void due(String what, boolean got, boolean want) {
        due(what, got ? 1 : 0, want ? 1 : 0);
    }

    /** Register 0 has a method (0, t, d), identity 4, register 1 a context of it, identity 5. */
    private static StackRoom withContext(int t, int d) {
        StackRoom x = new StackRoom(32768, 4096);
        due("setup method", x.method(0, 0, t, d), 4);
        due("setup context", x.context(1, 0, NIL), 5);
        return x;
    }

    /** As above, and register 2 has a block context of it, identity 6. */
    private static StackRoom withBlock(int t, int d) {
        StackRoom x = withContext(t, d);
        due("setup block", x.block(2, 1, 3), 6);
        return x;
    }

    private static void constants() {
        due("NONE", StackRoom.NONE, -1);
        due("FULL", StackRoom.FULL, -2);
    }

    private static void newObject() {
        int[][] given = {{128, 128}, {129, 129}, {32767, 32767}, {32768, 32768}, {127, 32768}, {32769, 32768},
            {0, 32768}, {-1, 32768}, {-128, 32768}, {Integer.MIN_VALUE, 32768}, {Integer.MAX_VALUE, 32768}};
        for (int[] row : given) {
            due("1 words of " + row[0], new StackRoom(row[0], 16).words(), row[1] - 8);
        }
        int[][] entries = {{16, 16}, {17, 17}, {4095, 4095}, {4096, 4096}, {15, 4096}, {4097, 4096},
            {0, 4096}, {-1, 4096}, {-16, 4096}, {Integer.MIN_VALUE, 4096}, {Integer.MAX_VALUE, 4096}};
        for (int[] row : entries) {
            due("1 entries of " + row[0], new StackRoom(128, row[0]).entries(), row[1] - 2);
        }
        StackRoom x = new StackRoom(200, 20);
        for (int r = 0; r < 16; r++) {
            due("1 kind at first", x.kind(r), 0);
            due("1 value at first", x.value(r), 0);
        }
        due("1 contexts at first", x.contexts(), 0);
        due("1 first identity", x.method(0, 0, 0, 0), 4);
    }

    private static void number() {
        StackRoom x = new StackRoom(128, 16);
        int[] numbers = {0, 1, -1, 1073741823, -1073741824, 1073741822, -1073741823, -2, 77};
        for (int v : numbers) {
            for (int r = 0; r < 16; r++) {
                due("2 number " + v, x.number(r, v), true);
                due("2 kind of " + v, x.kind(r), 1);
                due("2 value of " + v, x.value(r), v);
            }
        }
        due("2 others stay", x.number(3, 8), true);
        due("2 others stay", x.value(4), 77);
        int[] none = {1073741824, -1073741825, Integer.MAX_VALUE, Integer.MIN_VALUE};
        for (int v : none) {
            due("2 no number " + v, x.number(3, v), false);
            due("2 left alone", x.value(3), 8);
        }
        for (int r : NO_REGISTERS) {
            due("2 no register", x.number(r, 1), false);
        }
    }

    private static void move() {
        StackRoom x = withBlock(1, 2);
        x.number(3, 40);
        int[] kinds = {2, 3, 4, 1, 0};
        int[] values = {4, 5, 6, 40, 0};
        for (int from = 0; from < 5; from++) {
            due("3 move", x.move(10, from), true);
            due("3 kind", x.kind(10), kinds[from]);
            due("3 value", x.value(10), values[from]);
            due("3 from stays", x.value(from), values[from]);
        }
        due("3 to itself", x.move(3, 3), true);
        due("3 itself", x.value(3), 40);
        x.move(11, 1);
        x.push(11, 3);
        due("3 the same object", x.height(1), 2);
        for (int r : NO_REGISTERS) {
            due("3 no register", x.move(r, 3), false);
            due("3 no register from", x.move(3, r), false);
            due("3 left alone", x.value(3), 40);
        }
    }

    private static void clear() {
        StackRoom x = withContext(1, 2);
        x.number(2, 5);
        for (int r = 0; r < 4; r++) {
            due("4 clear", x.clear(r), true);
            due("4 nil", x.kind(r), 0);
            due("4 nil's value", x.value(r), 0);
        }
        due("4 all room again", x.words(), 32760);
        for (int r : NO_REGISTERS) {
            due("4 no register", x.clear(r), false);
        }
    }

    private static void kind() {
        StackRoom x = withBlock(1, 2);
        x.number(3, 0);
        due("5 method", x.kind(0), 2);
        due("5 method context", x.kind(1), 3);
        due("5 block context", x.kind(2), 4);
        due("5 number", x.kind(3), 1);
        due("5 nil", x.kind(4), 0);
        for (int r : NO_REGISTERS) {
            due("5 no register", x.kind(r), -1);
        }
    }

    private static void value() {
        StackRoom x = withBlock(1, 2);
        x.number(3, -9);
        due("6 method", x.value(0), 4);
        due("6 method context", x.value(1), 5);
        due("6 block context", x.value(2), 6);
        due("6 number", x.value(3), -9);
        due("6 nil", x.value(4), 0);
        for (int r : NO_REGISTERS) {
            due("6 no register", x.value(r), 0);
        }
    }

    private static void method() {
        StackRoom x = new StackRoom(128, 16);
        int[][] fine = {{0, 0, 0}, {15, 15, 0}, {15, 31, 63}, {0, 31, 63}, {0, 0, 63}, {7, 8, 9}};
        int identity = 2;
        for (int[] n : fine) {
            identity += 2;
            due("7 method", x.method(5, n[0], n[1], n[2]), identity);
            due("7 kind", x.kind(5), 2);
            due("7 identity", x.value(5), identity);
            due("7 the old one is gone", x.words(), 110);
        }
        int[][] none = {{-1, 0, 0}, {16, 16, 0}, {16, 31, 0}, {1, 0, 0}, {15, 14, 0}, {0, -1, 0}, {0, 32, 0},
            {0, 0, -1}, {0, 0, 64}, {-1, -1, 0}, {0, Integer.MAX_VALUE, 0}, {0, 0, Integer.MIN_VALUE}};
        for (int[] n : none) {
            due("7 not such", x.method(5, n[0], n[1], n[2]), -1);
            due("7 left alone", x.value(5), identity);
        }
        for (int r : NO_REGISTERS) {
            due("7 no register", x.method(r, 0, 0, 0), -1);
        }
        due("7 refused ones have no identity", x.method(6, 0, 0, 0), identity + 2);
    }

    private static void methodWithoutRoom() {
        StackRoom few = new StackRoom(128, 16);
        for (int r = 0; r < 7; r++) {
            due("7 seven methods", few.method(r, 0, 0, 0), 4 + 2 * r);
        }
        due("7 no entries", few.method(7, 0, 0, 0), -2);
        due("7 no entries, not even for its own register", few.method(0, 0, 0, 0), -2);
        due("7 NONE before FULL", few.method(7, 0, 0, 64), -1);
        due("7 register stays", few.value(0), 4);
        few.clear(0);
        due("7 room again", few.method(7, 0, 0, 0), 18);

        StackRoom odd = new StackRoom(200, 17);
        for (int r = 0; r < 7; r++) {
            odd.method(r, 0, 0, 0);
        }
        due("7 one entry left", odd.entries(), 1);
        due("7 one entry is too few", odd.method(7, 0, 0, 0), -2);
        due("7 but enough for a context", odd.context(7, 0, NIL), 17);

        StackRoom exact = new StackRoom(128, 4096);
        for (int r = 0; r < 12; r++) {
            due("7 twelve methods in 120 words", exact.method(r, 0, 0, 0), 4 + 2 * r);
        }
        due("7 no word left", exact.words(), 0);
        due("7 no words", exact.method(12, 0, 0, 0), -2);

        StackRoom nine = new StackRoom(137, 4096);
        for (int r = 0; r < 12; r++) {
            nine.method(r, 0, 0, 0);
        }
        due("7 nine words left", nine.words(), 9);
        due("7 nine are too few", nine.method(12, 0, 0, 0), -2);
    }

    private static void change() {
        StackRoom x = withContext(2, 3);
        due("8 change", x.change(0, 1, 4, 10), true);
        due("8 T", x.floor(1), 4);
        due("8 the context keeps its room", x.room(1), 5);
        due("8 its height", x.height(1), 2);
        due("8 its identity", x.value(0), 4);
        due("8 a new context", x.context(3, 0, NIL), 6);
        due("8 its room", x.room(3), 14);
        due("8 its height", x.height(3), 4);
        int[][] fine = {{15, 15, 0}, {15, 31, 63}, {0, 31, 63}, {0, 0, 0}};
        for (int[] n : fine) {
            due("8 edges", x.change(0, n[0], n[1], n[2]), true);
            due("8 edges' T", x.floor(1), n[1]);
        }
        int[][] none = {{-1, 0, 0}, {16, 16, 0}, {1, 0, 0}, {0, -1, 0}, {0, 32, 0}, {0, 0, -1}, {0, 0, 64}};
        for (int[] n : none) {
            due("8 not such", x.change(0, n[0], n[1], n[2]), false);
            due("8 left alone", x.floor(1), 0);
        }
        due("8 of a context", x.change(1, 0, 1, 1), false);
        x.number(5, 1);
        due("8 of a number", x.change(5, 0, 1, 1), false);
        due("8 of nil", x.change(6, 0, 1, 1), false);
        for (int r : NO_REGISTERS) {
            due("8 no register", x.change(r, 0, 1, 1), false);
        }
    }

    private static void context() {
        StackRoom x = withContext(3, 4);
        due("9 kind", x.kind(1), 3);
        due("9 height", x.height(1), 3);
        due("9 room", x.room(1), 7);
        due("9 no sender", x.sender(2, 1), true);
        due("9 no sender", x.kind(2), 0);
        for (int i = 0; i < 3; i++) {
            x.number(2, 1);
            due("9 temporary", x.temporary(2, 1, i), true);
            due("9 is nil", x.kind(2), 0);
        }
        due("9 not dead", x.kill(1, false), false);
        due("9 with a sender", x.context(2, 0, 1), 6);
        x.sender(3, 2);
        due("9 its sender", x.value(3), 5);
        x.block(4, 1, 0);
        due("9 a block as sender", x.context(5, 0, 4), 8);
        x.sender(3, 5);
        due("9 its sender", x.value(3), 7);
        due("9 into the sender's register", x.context(1, 0, 1), 9);
        x.sender(3, 1);
        due("9 its sender", x.value(3), 5);
        x.number(6, 1);
        due("9 a number as method", x.context(7, 6, NIL), -1);
        due("9 nil as method", x.context(7, 8, NIL), -1);
        due("9 a context as method", x.context(7, 1, NIL), -1);
        due("9 a block as method", x.context(7, 4, NIL), -1);
        due("9 a number as sender", x.context(7, 0, 6), -1);
        due("9 a method as sender", x.context(7, 0, 0), -1);
        due("9 left alone", x.kind(7), 0);
        for (int r : NO_REGISTERS) {
            due("9 no register", x.context(r, 0, NIL), -1);
            due("9 no register m", x.context(7, r, NIL), -1);
            due("9 no register s", x.context(7, 0, r), -1);
        }
        due("9 refused ones have no identity", x.context(0, 0, NIL), 10);
        due("9 into the method's register", x.kind(0), 3);
    }

    private static void contextWithoutRoom() {
        // 128 - 8 - 10 = 110 words are left: 4 + 5 + 101 would be all of them, 99 the most that can be had.
        StackRoom x = new StackRoom(128, 16);
        x.method(0, 0, 31, 63);
        due("9 words left", x.words(), 110);
        due("9 a large one", x.context(1, 0, NIL), 5);
        due("9 words left then", x.words(), 7);
        x.change(0, 0, 0, 0);
        due("9 nine words in seven", x.context(2, 0, NIL), -2);
        due("9 the register's own words count", x.context(1, 0, NIL), -2);
        due("9 NONE before FULL", x.context(2, 0, 0), -1);
        due("9 left alone", x.value(1), 5);
        x.clear(1);
        due("9 room again", x.context(2, 0, NIL), 6);

        StackRoom exact = new StackRoom(130, 16);
        exact.method(0, 0, 31, 63);
        exact.context(1, 0, NIL);
        exact.change(0, 0, 0, 0);
        due("9 nine words left", exact.words(), 9);
        due("9 nine words in nine", exact.context(2, 0, NIL), 6);
        exact.clear(2);
        exact.change(0, 0, 0, 1);
        due("9 ten words in nine, by D", exact.context(2, 0, NIL), -2);
        exact.change(0, 0, 1, 0);
        due("9 ten words in nine, by T", exact.context(2, 0, NIL), -2);

        StackRoom few = new StackRoom(32768, 16);
        few.method(0, 0, 0, 0);
        for (int i = 0; i < 12; i++) {
            due("9 twelve entries", few.context(1, 0, 1), 5 + i);
        }
        due("9 no thirteenth", few.context(1, 0, 1), -2);
    }

    private static void block() {
        StackRoom x = withContext(2, 3);
        due("10 block", x.block(2, 1, 0), 6);
        due("10 kind", x.kind(2), 4);
        due("10 height", x.height(2), 0);
        due("10 room", x.room(2), 3);
        due("10 sender", x.sender(3, 2), true);
        due("10 no sender", x.kind(3), 0);
        due("10 dead", x.kill(2, true), true);
        due("10 home", x.home(3, 2), true);
        due("10 home", x.value(3), 5);
        due("10 of a block", x.block(4, 2, 15), 7);
        x.home(3, 4);
        due("10 has its home", x.value(3), 5);
        due("10 count", x.count(4), 15);
        x.change(0, 0, 0, 9);
        due("10 with D as it is now", x.block(5, 1, 7), 8);
        due("10 with D as it is now", x.room(5), 9);
        due("10 the others keep theirs", x.room(4), 3);
        int[] none = {-1, 16, Integer.MIN_VALUE, Integer.MAX_VALUE};
        for (int count : none) {
            due("10 count not such", x.block(6, 1, count), -1);
        }
        x.number(7, 1);
        due("10 of a method", x.block(6, 0, 1), -1);
        due("10 of a number", x.block(6, 7, 1), -1);
        due("10 of nil", x.block(6, 8, 1), -1);
        due("10 left alone", x.kind(6), 0);
        for (int r : NO_REGISTERS) {
            due("10 no register", x.block(r, 1, 1), -1);
            due("10 no register c", x.block(6, r, 1), -1);
        }
        due("10 refused ones have no identity", x.block(1, 1, 1), 9);
        due("10 into its own register", x.kind(1), 4);
    }

    private static void blockWithoutRoom() {
        StackRoom x = new StackRoom(200, 16);
        x.method(0, 0, 31, 63);
        x.context(1, 0, NIL);
        due("10 words left", x.words(), 79);
        due("10 of 73 words", x.block(2, 1, 0), 6);
        due("10 six left", x.words(), 6);
        x.change(0, 0, 0, 0);
        due("10 ten words in six", x.block(3, 1, 0), -2);
        due("10 the register's own words count", x.block(2, 1, 0), -2);
        due("10 NONE before FULL", x.block(3, 1, 16), -1);
        due("10 left alone", x.value(2), 6);

        StackRoom exact = new StackRoom(131, 16);
        exact.method(0, 0, 31, 63);
        exact.context(1, 0, NIL);
        exact.change(0, 0, 31, 0);
        due("10 ten words left", exact.words(), 10);
        due("10 ten words in ten", exact.block(2, 1, 0), 6);
        exact.clear(2);
        exact.change(0, 0, 0, 1);
        due("10 eleven words in ten", exact.block(2, 1, 0), -2);

        StackRoom few = new StackRoom(32768, 16);
        few.method(0, 0, 0, 0);
        few.context(1, 0, NIL);
        for (int r = 2; r < 13; r++) {
            due("10 entries", few.block(r, 1, 0), 4 + r);
        }
        due("10 no entry left", few.block(13, 1, 0), -2);
    }

    private static void push() {
        StackRoom x = withBlock(1, 3);
        x.number(3, 30);
        due("11 a number", x.push(1, 3), true);
        due("11 nil", x.push(1, NIL), true);
        due("11 itself", x.push(1, 1), true);
        due("11 height", x.height(1), 4);
        due("11 full", x.push(1, 3), false);
        due("11 height stays", x.height(1), 4);
        x.peek(4, 1, 0);
        due("11 itself", x.value(4), 5);
        x.peek(4, 1, 1);
        due("11 nil", x.kind(4), 0);
        x.peek(4, 1, 2);
        due("11 a number", x.value(4), 30);
        x.peek(4, 1, 3);
        for (int i = 0; i < 3; i++) {
            due("11 onto a block", x.push(2, 0), true);
        }
        due("11 a full block", x.push(2, 0), false);
        due("11 onto a method", x.push(0, 3), false);
        due("11 onto a number", x.push(3, 3), false);
        due("11 onto nil", x.push(NIL, 3), false);
        x.drop(1, 3);
        for (int r : NO_REGISTERS) {
            due("11 no register", x.push(r, 3), false);
            due("11 no register from", x.push(1, r), false);
        }
        due("11 left alone", x.height(1), 1);
        // A temporary that was kept beyond the height is what the next push replaces.
        x.change(0, 0, 2, 3);
        x.keep(1, 1, 0);
        x.push(1, 3);
        x.temporary(4, 1, 1);
        due("11 the next field", x.value(4), 30);
    }

    private static void fill() {
        StackRoom x = withContext(1, 10);
        due("12 none at all", x.fill(1, 5, 0), 0);
        due("12 four", x.fill(1, -2, 4), 4);
        due("12 height", x.height(1), 5);
        for (int i = 0; i < 4; i++) {
            x.peek(2, 1, i);
            due("12 kind", x.kind(2), 1);
            due("12 in order", x.value(2), 1 - i);
        }
        due("12 until it is full", x.fill(1, 100, 100), 6);
        x.peek(2, 1, 0);
        due("12 the last", x.value(2), 105);
        due("12 when full", x.fill(1, 100, 1), 0);
        due("12 wrong though full", x.fill(1, 1073741823, 2), -1);
        x.drop(1, 10);
        due("12 many -1", x.fill(1, 0, -1), -1);
        due("12 many 101", x.fill(1, 0, 101), -1);
        due("12 many least", x.fill(1, 0, Integer.MIN_VALUE), -1);
        due("12 many greatest", x.fill(1, 0, Integer.MAX_VALUE), -1);
        due("12 v too great", x.fill(1, 1073741824, 1), -1);
        due("12 v too small", x.fill(1, -1073741825, 1), -1);
        due("12 v too small for the first only", x.fill(1, -1073741825, 3), -1);
        due("12 v greatest int", x.fill(1, Integer.MAX_VALUE, 2), -1);
        due("12 v least int", x.fill(1, Integer.MIN_VALUE, 2), -1);
        due("12 one beyond, not to be pushed", x.fill(1, 1073741823 - 98, 100), -1);
        due("12 nothing pushed", x.height(1), 1);
        due("12 v not looked at", x.fill(1, Integer.MAX_VALUE, 0), 0);
        due("12 v not looked at", x.fill(1, Integer.MIN_VALUE, 0), 0);
        due("12 the greatest", x.fill(1, 1073741823, 1), 1);
        due("12 the least", x.fill(1, -1073741824, 1), 1);
        due("12 up to the greatest", x.fill(1, 1073741823 - 99, 100), 8);
        due("12 of a method", x.fill(0, 0, 1), -1);
        due("12 of nil", x.fill(NIL, 0, 0), -1);
        x.number(3, 1);
        due("12 of a number", x.fill(3, 0, 1), -1);
        for (int r : NO_REGISTERS) {
            due("12 no register", x.fill(r, 0, 1), -1);
        }
        StackRoom y = withBlock(0, 63);
        due("12 a block", y.fill(2, 0, 100), 63);
        due("12 a block is full", y.height(2), 63);
    }

    private static void pop() {
        StackRoom x = withBlock(2, 3);
        due("13 depth 0", x.pop(3, 1), false);
        x.number(4, 44);
        x.push(1, 4);
        x.push(1, 0);
        due("13 an object", x.pop(3, 1), true);
        due("13 an object", x.value(3), 4);
        due("13 height", x.height(1), 3);
        due("13 a number", x.pop(3, 1), true);
        due("13 a number", x.value(3), 44);
        due("13 depth 0", x.pop(3, 1), false);
        due("13 left alone", x.value(3), 44);
        due("13 a block's depth 0", x.pop(3, 2), false);
        x.push(2, NIL);
        due("13 nil", x.pop(3, 2), true);
        due("13 nil", x.kind(3), 0);
        due("13 a block's height", x.height(2), 0);
        x.push(1, 4);
        x.change(0, 0, 4, 3);
        due("13 depth below 0", x.pop(3, 1), false);
        x.change(0, 0, 3, 3);
        due("13 depth 0 now", x.pop(3, 1), false);
        x.change(0, 0, 2, 3);
        due("13 depth 1 now", x.pop(3, 1), true);
        x.change(0, 0, 3, 3);
        due("13 field", x.temporary(3, 1, 2), true);
        due("13 the popped field is nil", x.kind(3), 0);
        x.change(0, 0, 0, 3);
        due("13 a temporary, when T is less", x.pop(3, 1), true);
        due("13 height below the old T", x.height(1), 1);
        due("13 of a method", x.pop(3, 0), false);
        due("13 of a number", x.pop(3, 4), false);
        due("13 of nil", x.pop(3, NIL), false);
        for (int r : NO_REGISTERS) {
            due("13 no register", x.pop(r, 1), false);
            due("13 no register c", x.pop(3, r), false);
        }
        due("13 left alone", x.height(1), 1);
        x.push(2, 4);
        due("13 into its own register", x.pop(2, 2), true);
        due("13 into its own register", x.value(2), 44);
    }

    private static void peek() {
        StackRoom x = withBlock(2, 3);
        due("14 depth 0", x.peek(3, 1, 0), false);
        x.fill(1, 10, 3);
        for (int i = 0; i < 3; i++) {
            due("14 peek", x.peek(3, 1, i), true);
            due("14 peek", x.value(3), 12 - i);
        }
        due("14 below the floor", x.peek(3, 1, 3), false);
        due("14 far below", x.peek(3, 1, 5), false);
        due("14 -1", x.peek(3, 1, -1), false);
        due("14 least", x.peek(3, 1, Integer.MIN_VALUE), false);
        due("14 greatest", x.peek(3, 1, Integer.MAX_VALUE), false);
        due("14 left alone", x.value(3), 10);
        due("14 nothing popped", x.height(1), 5);
        x.change(0, 0, 4, 3);
        due("14 one above the floor", x.peek(3, 1, 0), true);
        due("14 the floor has grown", x.peek(3, 1, 1), false);
        x.change(0, 0, 9, 3);
        due("14 depth below 0", x.peek(3, 1, 0), false);
        x.change(0, 0, 0, 3);
        due("14 a temporary, when T is less", x.peek(3, 1, 4), true);
        due("14 a temporary is nil", x.kind(3), 0);
        x.fill(2, 7, 1);
        due("14 a block", x.peek(3, 2, 0), true);
        due("14 a block", x.value(3), 7);
        due("14 a block's end", x.peek(3, 2, 1), false);
        due("14 of a method", x.peek(3, 0, 0), false);
        due("14 of a number", x.peek(4, 3, 0), false);
        due("14 of nil", x.peek(3, NIL, 0), false);
        for (int r : NO_REGISTERS) {
            due("14 no register", x.peek(r, 1, 0), false);
            due("14 no register c", x.peek(3, r, 0), false);
        }
        due("14 into its own register", x.peek(2, 2, 0), true);
        due("14 into its own register", x.value(2), 7);
    }

    private static void drop() {
        StackRoom x = withBlock(2, 3);
        due("15 none", x.drop(1, 0), true);
        due("15 depth 0", x.drop(1, 1), false);
        x.fill(1, 10, 3);
        due("15 too many", x.drop(1, 4), false);
        due("15 nothing gone", x.height(1), 5);
        due("15 -1", x.drop(1, -1), false);
        due("15 least", x.drop(1, Integer.MIN_VALUE), false);
        due("15 greatest", x.drop(1, Integer.MAX_VALUE), false);
        due("15 two", x.drop(1, 2), true);
        due("15 height", x.height(1), 3);
        x.change(0, 0, 5, 3);
        for (int i = 3; i < 5; i++) {
            x.number(3, 1);
            due("15 field", x.temporary(3, 1, i), true);
            due("15 the dropped fields are nil", x.kind(3), 0);
        }
        x.temporary(3, 1, 2);
        due("15 the others stay", x.value(3), 10);
        due("15 none, depth below 0", x.drop(1, 0), true);
        due("15 -1, depth below 0", x.drop(1, -1), false);
        due("15 one, depth below 0", x.drop(1, 1), false);
        x.change(0, 0, 0, 3);
        due("15 all, when T is less", x.drop(1, 3), true);
        due("15 height 0", x.height(1), 0);
        due("15 none of a block", x.drop(2, 0), true);
        x.fill(2, 1, 3);
        due("15 all of a block", x.drop(2, 3), true);
        due("15 height of a block", x.height(2), 0);
        due("15 of a method", x.drop(0, 0), false);
        due("15 of nil", x.drop(NIL, 0), false);
        due("15 of a number", x.drop(3, 0), false);
        for (int r : NO_REGISTERS) {
            due("15 no register", x.drop(r, 0), false);
        }
        int words = x.words();
        x.context(5, 0, NIL);
        x.push(2, 5);
        x.clear(5);
        x.drop(2, 1);
        due("15 what was dropped is gone", x.words(), words);
    }

    private static void height() {
        StackRoom x = withBlock(2, 3);
        due("16 method context", x.height(1), 2);
        due("16 block context", x.height(2), 0);
        x.fill(1, 0, 2);
        x.fill(2, 0, 1);
        due("16 pushed", x.height(1), 4);
        due("16 pushed", x.height(2), 1);
        x.change(0, 0, 9, 9);
        due("16 as it was", x.height(1), 4);
        x.number(3, 3);
        due("16 of a method", x.height(0), -1);
        due("16 of a number", x.height(3), -1);
        due("16 of nil", x.height(NIL), -1);
        for (int r : NO_REGISTERS) {
            due("16 no register", x.height(r), -1);
        }
    }

    private static void room() {
        StackRoom x = withBlock(2, 3);
        due("17 method context", x.room(1), 5);
        due("17 block context", x.room(2), 3);
        x.change(0, 0, 9, 9);
        due("17 as it was", x.room(1), 5);
        due("17 as it was", x.room(2), 3);
        x.number(3, 3);
        due("17 of a method", x.room(0), -1);
        due("17 of a number", x.room(3), -1);
        due("17 of nil", x.room(NIL), -1);
        for (int r : NO_REGISTERS) {
            due("17 no register", x.room(r), -1);
        }
        StackRoom y = withBlock(31, 63);
        due("17 greatest", y.room(1), 94);
        due("17 greatest", y.room(2), 63);
        StackRoom z = withBlock(0, 0);
        due("17 least", z.room(1), 0);
        due("17 least", z.room(2), 0);
    }

    private static void floor() {
        StackRoom x = withBlock(2, 3);
        due("18 method context", x.floor(1), 2);
        due("18 block context", x.floor(2), 0);
        x.change(0, 0, 9, 9);
        due("18 as it is now", x.floor(1), 9);
        due("18 a block's stays", x.floor(2), 0);
        x.clear(0);
        due("18 of a method nobody else has", x.floor(1), 9);
        x.method(0, 0, 1, 1);
        due("18 of another method", x.floor(1), 9);
        x.number(3, 3);
        due("18 of a method", x.floor(0), -1);
        due("18 of a number", x.floor(3), -1);
        due("18 of nil", x.floor(NIL), -1);
        for (int r : NO_REGISTERS) {
            due("18 no register", x.floor(r), -1);
        }
    }

    private static void count() {
        StackRoom x = withBlock(2, 3);
        due("19 count", x.count(2), 3);
        for (int count = 0; count <= 15; count++) {
            x.block(3, 2, count);
            due("19 count", x.count(3), count);
        }
        x.number(3, 3);
        due("19 of a method context", x.count(1), -1);
        due("19 of a method", x.count(0), -1);
        due("19 of a number", x.count(3), -1);
        due("19 of nil", x.count(NIL), -1);
        for (int r : NO_REGISTERS) {
            due("19 no register", x.count(r), -1);
        }
    }

    private static void home() {
        StackRoom x = withBlock(2, 3);
        due("20 of a method context", x.home(3, 1), true);
        due("20 is itself", x.value(3), 5);
        due("20 of a block context", x.home(4, 2), true);
        due("20 is its", x.value(4), 5);
        due("20 into its own register", x.home(2, 2), true);
        due("20 into its own register", x.value(2), 5);
        x.number(6, 3);
        due("20 of a method", x.home(5, 0), false);
        due("20 of a number", x.home(5, 6), false);
        due("20 of nil", x.home(6, NIL), false);
        due("20 left alone", x.value(6), 3);
        for (int r : NO_REGISTERS) {
            due("20 no register", x.home(r, 1), false);
            due("20 no register c", x.home(6, r), false);
        }
    }

    private static void sender() {
        StackRoom x = withBlock(2, 3);
        x.number(6, 3);
        due("21 nil", x.sender(6, 1), true);
        due("21 nil", x.kind(6), 0);
        x.send(2, 1);
        due("21 of a block", x.sender(6, 2), true);
        due("21 of a block", x.value(6), 5);
        x.context(3, 0, 2);
        due("21 of a context", x.sender(3, 3), true);
        due("21 into its own register", x.value(3), 6);
        x.number(6, 3);
        due("21 of a method", x.sender(6, 0), false);
        due("21 of a number", x.sender(6, 6), false);
        due("21 of nil", x.sender(6, NIL), false);
        due("21 left alone", x.value(6), 3);
        for (int r : NO_REGISTERS) {
            due("21 no register", x.sender(r, 1), false);
            due("21 no register c", x.sender(6, r), false);
        }
    }

    private static void send() {
        StackRoom x = withBlock(2, 3);
        due("22 a block", x.send(1, 2), true);
        x.sender(3, 1);
        due("22 a block", x.value(3), 6);
        due("22 itself", x.send(1, 1), true);
        x.sender(3, 1);
        due("22 itself", x.value(3), 5);
        due("22 of a block", x.send(2, 1), true);
        x.sender(3, 2);
        due("22 of a block", x.value(3), 5);
        x.number(6, 3);
        due("22 a method", x.send(2, 0), false);
        due("22 a number", x.send(2, 6), false);
        due("22 of a method", x.send(0, 1), false);
        due("22 of a number", x.send(6, 1), false);
        due("22 of nil", x.send(NIL, 1), false);
        for (int r : NO_REGISTERS) {
            due("22 no register", x.send(r, 1), false);
            due("22 no register s", x.send(2, r), false);
        }
        x.sender(3, 2);
        due("22 left alone", x.value(3), 5);
        due("22 nil", x.send(2, NIL), true);
        x.sender(3, 2);
        due("22 nil", x.kind(3), 0);
    }

    private static void kill() {
        StackRoom x = withBlock(2, 3);
        due("23 a new context", x.kill(1, true), false);
        due("23 is dead now", x.kill(1, true), true);
        due("23 still", x.kill(1, false), true);
        due("23 no more", x.kill(1, false), false);
        due("23 a new block", x.kill(2, false), true);
        due("23 no more", x.kill(2, true), false);
        due("23 again", x.kill(2, true), true);
        due("23 the other one", x.kill(1, false), false);
        x.kill(1, true);
        due("23 the dead can be pushed to", x.push(1, 0), true);
        x.number(6, 3);
        due("23 a method", x.kill(0, true), false);
        due("23 a method", x.kill(0, true), false);
        due("23 a number", x.kill(6, true), false);
        due("23 nil", x.kill(NIL, true), false);
        for (int r : NO_REGISTERS) {
            due("23 no register", x.kill(r, true), false);
        }
    }

    private static void temporary() {
        StackRoom x = withBlock(2, 3);
        x.number(3, 20);
        x.keep(1, 0, 3);
        x.number(3, 21);
        x.keep(2, 1, 3);
        x.fill(1, 22, 2);
        for (int c = 1; c <= 2; c++) {
            due("24 first", x.temporary(4, c, 0), true);
            due("24 first", x.value(4), 20);
            due("24 second", x.temporary(4, c, 1), true);
            due("24 second", x.value(4), 21);
            due("24 T", x.temporary(4, c, 2), false);
            due("24 -1", x.temporary(4, c, -1), false);
            due("24 least", x.temporary(4, c, Integer.MIN_VALUE), false);
            due("24 greatest", x.temporary(4, c, Integer.MAX_VALUE), false);
            due("24 left alone", x.value(4), 21);
        }
        x.change(0, 0, 31, 0);
        due("24 what was pushed", x.temporary(4, 2, 3), true);
        due("24 what was pushed", x.value(4), 23);
        due("24 beyond the height", x.temporary(4, 2, 4), true);
        due("24 beyond the height", x.kind(4), 0);
        due("24 beyond the room", x.temporary(4, 2, 5), false);
        due("24 beyond the room", x.temporary(4, 1, 30), false);
        x.change(0, 0, 1, 0);
        due("24 T is less", x.temporary(4, 1, 1), false);
        due("24 of a method", x.temporary(4, 0, 0), false);
        due("24 of a number", x.temporary(4, 3, 0), false);
        due("24 of nil", x.temporary(4, NIL, 0), false);
        for (int r : NO_REGISTERS) {
            due("24 no register", x.temporary(r, 1, 0), false);
            due("24 no register c", x.temporary(4, r, 0), false);
        }
        due("24 into its own register", x.temporary(1, 1, 0), true);
        due("24 into its own register", x.value(1), 20);
    }

    private static void keep() {
        StackRoom x = withBlock(2, 3);
        x.number(3, 20);
        due("25 a number", x.keep(1, 1, 3), true);
        x.temporary(4, 1, 1);
        due("25 a number", x.value(4), 20);
        due("25 by a block", x.keep(2, 0, 2), true);
        x.temporary(4, 1, 0);
        due("25 by a block", x.value(4), 6);
        due("25 a block's stack is not touched", x.height(2), 0);
        due("25 nil", x.keep(1, 0, NIL), true);
        x.temporary(4, 1, 0);
        due("25 nil", x.kind(4), 0);
        due("25 T", x.keep(1, 2, 3), false);
        due("25 -1", x.keep(1, -1, 3), false);
        due("25 least", x.keep(1, Integer.MIN_VALUE, 3), false);
        due("25 greatest", x.keep(1, Integer.MAX_VALUE, 3), false);
        x.change(0, 0, 31, 0);
        due("25 the last field", x.keep(1, 4, 0), true);
        due("25 height stays", x.height(1), 2);
        x.temporary(4, 1, 4);
        due("25 the last field", x.value(4), 4);
        due("25 beyond the room", x.keep(1, 5, 3), false);
        x.change(0, 0, 0, 0);
        due("25 no temporaries", x.keep(1, 0, 3), false);
        x.change(0, 0, 1, 0);
        due("25 of a method", x.keep(0, 0, 3), false);
        due("25 of a number", x.keep(3, 0, 3), false);
        due("25 of nil", x.keep(NIL, 0, 3), false);
        for (int r : NO_REGISTERS) {
            due("25 no register", x.keep(r, 0, 3), false);
            due("25 no register from", x.keep(1, 0, r), false);
        }
        x.temporary(4, 1, 0);
        due("25 left alone", x.kind(4), 0);
    }

    private static void words() {
        StackRoom x = new StackRoom(1000, 100);
        due("26 at first", x.words(), 992);
        x.method(0, 0, 2, 3);
        due("26 a method", x.words(), 982);
        x.context(1, 0, NIL);
        due("26 a method context", x.words(), 968);
        x.block(2, 1, 0);
        due("26 a block context", x.words(), 955);
        x.number(3, 7);
        x.fill(2, 0, 3);
        due("26 numbers take none", x.words(), 955);
        x.change(0, 0, 31, 63);
        due("26 as they were made", x.words(), 955);
        x.move(4, 2);
        due("26 twice had is once taken", x.words(), 955);
        x.clear(0);
        x.clear(1);
        due("26 by home and method", x.words(), 955);
        x.clear(2);
        due("26 by the other register", x.words(), 955);
        x.clear(4);
        due("26 all gone", x.words(), 992);
        x.method(0, 0, 2, 3);
        x.context(1, 0, NIL);
        x.context(2, 0, 1);
        x.send(1, 2);
        x.push(1, 1);
        x.keep(1, 0, 2);
        due("26 a ring", x.words(), 954);
        x.clear(1);
        due("26 a ring, still had", x.words(), 954);
        x.clear(2);
        due("26 a ring that nobody has", x.words(), 982);
        wordsOfFieldsBeyondTheHeight();
    }

    private static void wordsOfFieldsBeyondTheHeight() {
        StackRoom x = withContext(0, 3);
        x.change(0, 0, 3, 3);
        x.method(2, 0, 0, 0);
        x.keep(1, 2, 2);
        int words = x.words();
        x.clear(2);
        due("26 kept beyond the height", x.words(), words);
        x.keep(1, 2, NIL);
        due("26 kept no more", x.words(), words + 10);
        x.method(2, 0, 0, 0);
        x.keep(1, 0, 2);
        x.clear(2);
        due("26 kept again", x.words(), words);
        x.number(2, 1);
        x.push(1, 2);
        due("26 a push in its place", x.words(), words + 10);
    }

    private static void entries() {
        StackRoom x = new StackRoom(1000, 100);
        due("27 at first", x.entries(), 98);
        x.method(0, 0, 2, 3);
        due("27 a method is two", x.entries(), 96);
        x.context(1, 0, NIL);
        due("27 a method context", x.entries(), 95);
        x.block(2, 1, 0);
        due("27 a block context", x.entries(), 94);
        x.number(3, 7);
        x.fill(2, 0, 3);
        due("27 numbers are none", x.entries(), 94);
        x.clear(0);
        x.clear(1);
        due("27 still had", x.entries(), 94);
        x.clear(2);
        due("27 all gone", x.entries(), 98);
    }

    private static void contexts() {
        StackRoom x = new StackRoom(1000, 100);
        due("28 at first", x.contexts(), 0);
        x.method(0, 0, 2, 3);
        due("28 a method is none", x.contexts(), 0);
        x.context(1, 0, NIL);
        due("28 a method context", x.contexts(), 1);
        x.block(2, 1, 0);
        due("28 a block context", x.contexts(), 2);
        x.move(3, 2);
        due("28 had twice", x.contexts(), 2);
        x.clear(1);
        due("28 a home", x.contexts(), 2);
        x.context(4, 0, 2);
        due("28 three", x.contexts(), 3);
        x.clear(2);
        x.clear(3);
        due("28 a sender", x.contexts(), 3);
        x.block(5, 4, 1);
        x.push(4, 5);
        x.clear(5);
        due("28 on a stack", x.contexts(), 4);
        x.keep(4, 1, 4);
        x.sender(4, 4);
        due("28 the sender is left, and its home", x.contexts(), 2);
        x.clear(4);
        due("28 none", x.contexts(), 0);
    }

    private static void noRegister() {
        StackRoom x = withBlock(2, 3);
        for (int r : NO_REGISTERS) {
            due("no register, and other things wrong", x.method(r, 99, 99, 99), -1);
            due("no register, and other things wrong", x.block(r, r, 99), -1);
            due("no register, and other things wrong", x.fill(r, Integer.MAX_VALUE, 0), -1);
        }
        StackRoom full = new StackRoom(128, 16);
        for (int i = 0; i < 7; i++) {
            full.method(i, 0, 0, 0);
        }
        due("no register, and no room", full.method(16, 0, 0, 0), -1);
        due("no register, and no room", full.context(16, 0, NIL), -1);
        due("no register, and no room", full.context(7, 0, 16), -1);
    }

    private static void refusedCallsChangeNothing() {
        StackRoom x = new StackRoom(128, 16);
        x.method(0, 0, 1, 2);
        x.context(1, 0, NIL);
        x.push(1, 1);
        x.number(2, 9);
        for (int r = 3; r < 13; r++) {
            x.method(r, 0, 0, 0);
        }
        int words = x.words();
        int entries = x.entries();
        x.number(1, 1073741824);
        x.context(1, 2, NIL);
        x.context(1, 0, 0);
        x.block(1, 1, 16);
        x.pop(1, 2);
        x.peek(1, 1, 1);
        x.temporary(1, 1, 1);
        x.home(1, 0);
        x.sender(1, 0);
        x.fill(1, 1073741823, 2);
        x.drop(1, 2);
        x.send(1, 0);
        x.move(1, 16);
        due("refused: register", x.value(1), 5);
        due("refused: height", x.height(1), 2);
        due("refused: words", x.words(), words);
        due("refused: entries", x.entries(), entries);
        x.sender(14, 1);
        due("refused: sender", x.kind(14), 0);
    }
}
