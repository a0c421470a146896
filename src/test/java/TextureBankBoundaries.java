import com.sun.management.ThreadMXBean;
import java.lang.management.ManagementFactory;
import java.lang.reflect.InvocationTargetException;
import java.lang.reflect.Method;
import java.util.ArrayList;
import java.util.List;
import java.util.NoSuchElementException;
import java.util.function.LongSupplier;

/**
 * Each sentence of the document that names a boundary case, with a test of its own, named after the promise that it
 * shows in (or after its section): the last input that is allowed, the first one that isn't on either side, and what
 * later calls answer after a refused one. Every method whose name begins with "promise", "terms" or "whatItIs" is run.
 */
public final class TextureBankBoundaries {
    private static final long NONE = -1;
    private static final long MISSING = Long.MIN_VALUE;
    private static final long WRONG_ARGUMENT = Long.MIN_VALUE + 1;
    private static final int LEAST = Integer.MIN_VALUE;
    private static final int MOST = Integer.MAX_VALUE;
    private static final int FAR = 16777216;
    private static final long MOST_SPREAD = 1L << 40;
    private static final int MOST_AREA = 1 << 24;

    private static String test = "";
    private static int wrong = 0;

    public static void main(String[] args) throws IllegalAccessException {
        List<Method> tests = new ArrayList<>();
        for (Method m : TextureBankBoundaries.class.getDeclaredMethods()) {
            if (m.getName().matches("(promise|terms|whatItIs).*")) {
                tests.add(m);
            }
        }
        tests.sort((a, b) -> a.getName().compareTo(b.getName()));
        for (Method m : tests) {
            run(m);
        }
        System.out.println(tests.size() + " tests, " + wrong + " answers are not as due");
        if (wrong != 0 || tests.isEmpty()) {
            System.exit(1);
        }
    }

    private static void run(Method m) throws IllegalAccessException {
        test = m.getName();
        try {
            m.invoke(null);
        } catch (InvocationTargetException e) {
            wrong++;
            System.out.println(test + ": throws " + e.getCause());
        }
    }

    // What it is, and the terms that no promise tells by itself

    private static void whatItIsThe512thCallIsStillAnswered() {
        Calls puts = new Calls();
        for (int n = 1; n <= 512; n++) {
            due("put " + n, puts.put(n & 255, 0, 0), n);
        }
        Calls mixed = columnsAndRows(16, 0, 0);
        while (mixed.made < 511) {
            due("texel", mixed.texel(0, 0, 15, 15), at(15, 15));
        }
        due("the 512th call", mixed.lookUp(0, 0, 65535, 0), at(15, 0));
    }

    private static void termsNoneIsMinus1() {
        due("NONE", TextureBank.NONE, -1);
    }

    /** Counts what the machine hands out; one object a call, or one row an add, would be far above the limit. */
    private static void termsAllMemoryIsMadeOnce() {
        ThreadMXBean machine = (ThreadMXBean) ManagementFactory.getThreadMXBean();
        TextureBank[] banks = new TextureBank[60];
        for (int n = 0; n < banks.length; n++) {
            banks[n] = new TextureBank();
        }
        // The first ones load what the machine itself needs.
        for (int n = 0; n < 10; n++) {
            useUpTo512Calls(banks[n]);
        }
        machine.getThreadAllocatedBytes(Thread.currentThread().getId());
        long before = machine.getThreadAllocatedBytes(Thread.currentThread().getId());
        for (int n = 10; n < banks.length; n++) {
            useUpTo512Calls(banks[n]);
        }
        long handedOut = machine.getThreadAllocatedBytes(Thread.currentThread().getId()) - before;
        due("some 23,000 calls ask for less than 4096 bytes, not for " + handedOut, handedOut < 4096, true);
    }

    /** Every kind of call, none of which throws: an exception is an object, too. */
    private static void useUpTo512Calls(TextureBank bank) {
        for (int side = 8; side > 0; side /= 2) {
            for (int again = 0; again < 3; again++) {
                for (int n = 0; n < side * side; n++) {
                    bank.put(n, n, n);
                }
                bank.add(side, again, again & 1);
            }
            for (int n = 0; n < 8; n++) {
                bank.lookUp(n % 3, 0, n * 9999, -n);
                bank.texel(n % 3, 0, 0, 0);
                bank.level(n % 3, 1L << 40, 1);
                bank.lit(n, n, n);
                bank.about(n, n);
                bank.count(n);
            }
            bank.put(-1, 0, 0);
            bank.add(3, 0, 0);
            bank.clear();
        }
    }

    // Promise 1: a new object

    private static void promise1NewHasNoTextures() {
        due("count 0", new Calls().count(0), 0);
        due("about", new Calls().about(0, 0), NONE);
        due("level", new Calls().level(0, 0, 1), MISSING);
        due("lookUp", new Calls().lookUp(0, 0, 0, 0), MISSING);
        due("texel", new Calls().texel(0, 0, 0, 0), MISSING);
    }

    private static void promise1NewHasATextWithoutTexels() {
        due("count 1", new Calls().count(1), 0);
        due("the first put", new Calls().put(0, 0, 0), 1);
        for (int side = 1; side <= 32; side *= 2) {
            due("add side " + side, new Calls().add(side, 0, 0), NONE);
        }
        Calls c = new Calls();
        c.clear();
        due("count 0 after clear", c.count(0), 0);
        due("count 1 after clear", c.count(1), 0);
    }

    private static void promise1NewHasAMemoryOfItsOwn() {
        Calls one = new Calls();
        Calls other = new Calls();
        one.put(1, 1, 1);
        due("the other's text", other.count(1), 0);
        one.add(1, 0, 0);
        due("the other's textures", other.count(0), 0);
        other.put(2, 2, 2);
        other.add(1, 2, 1);
        one.clear();
        due("the other's textures", other.count(0), 1);
        due("the other's texel", other.texel(0, 0, 0, 0), 0x020202);
    }

    // Promise 2: put

    private static void promise2PutTakes0And255() {
        int[] numbers = {0, 1, 254, 255};
        Calls c = new Calls();
        int due = 0;
        for (int n : numbers) {
            due("red " + n, c.put(n, 7, 7), ++due);
            due("green " + n, c.put(7, n, 7), ++due);
            due("blue " + n, c.put(7, 7, n), ++due);
        }
        due("count 1", c.count(1), due);
    }

    private static void promise2PutRefusesRedBeyond0To255() {
        refusesNumbers(0);
    }

    private static void promise2PutRefusesGreenBeyond0To255() {
        refusesNumbers(1);
    }

    private static void promise2PutRefusesBlueBeyond0To255() {
        refusesNumbers(2);
    }

    private static void refusesNumbers(int which) {
        for (int bad : new int[] {-1, 256, 257, -256, 65536, 1 << 24, LEAST, MOST}) {
            Calls c = oneTextureAndText();
            int[] n = {7, 7, 7};
            n[which] = bad;
            refused(c, "number " + bad, () -> c.put(n[0], n[1], n[2]), NONE);
            int[] first = {bad, bad, bad};
            refused(c, "all three " + bad, () -> c.put(first[0], first[1], first[2]), NONE);
            due("the next put", c.put(4, 4, 4), 2);
            due("one more", c.put(5, 5, 5), 3);
            due("one more", c.put(6, 6, 6), 4);
            due("add", c.add(2, 0, 0), 1);
            due("the texel before it", c.texel(1, 0, 0, 0), 0x090909);
            due("the texel behind it", c.texel(1, 0, 1, 0), 0x040404);
            due("the last texel", c.texel(1, 0, 1, 1), 0x060606);
        }
    }

    /** 1024 texels take more than 512 calls, so what is answered here is free; the document's words are kept anyway. */
    private static void promise2PutRefusesATexelMoreThan1024() {
        TextureBank bank = new TextureBank();
        for (int n = 1; n <= 1024; n++) {
            due("put " + n, bank.put(1, 1, 1), n);
        }
        due("put 1025", bank.put(2, 2, 2), NONE);
        due("put 1026", bank.put(2, 2, 2), NONE);
        due("count 1", bank.count(1), 1024);
        due("add", bank.add(32, 0, 0), 0);
        due("the last texel", bank.texel(0, 0, 31, 31), 0x010101);
        due("put begins anew", bank.put(3, 3, 3), 1);
    }

    private static void promise2PutGoesOnWhenThereAre8Textures() {
        Calls c = eightTextures();
        due("put", c.put(1, 1, 1), 1);
        due("put", c.put(1, 1, 1), 2);
        due("count 0", c.count(0), 8);
    }

    // Promise 3: add

    private static void promise3AddLeavesTheTextEmptyWhenItTakesIt() {
        Calls c = withText(4);
        due("add", c.add(2, 0, 0), 0);
        due("count 1", c.count(1), 0);
        due("add again", c.add(2, 0, 0), NONE);
        due("put begins anew", c.put(1, 1, 1), 1);
    }

    private static void promise3AddLeavesTheTextEmptyWhenItRefuses() {
        int[][] bad = {{3, 0, 0}, {2, 3, 0}, {2, 0, 2}, {1, 0, 0}, {2, -1, 0}, {2, 0, -1}, {-2, 0, 0}, {0, 0, 0}, {4, 0, 0}};
        for (int[] row : bad) {
            Calls c = withText(4);
            due("add " + row[0] + ", " + row[1] + ", " + row[2], c.add(row[0], row[1], row[2]), NONE);
            due("count 1", c.count(1), 0);
            due("the same text is gone", c.add(2, 0, 0), NONE);
            due("put begins anew", c.put(1, 2, 3), 1);
            due("add", c.add(1, 0, 0), 0);
            due("only the new texel came", c.texel(0, 0, 0, 0), 0x010203);
        }
    }

    private static void promise3AddNumbersFrom0To7() {
        Calls c = new Calls();
        for (int n = 0; n < 8; n++) {
            c.put(n, 0, 0);
            due("add", c.add(1, 0, 0), n);
            due("count 0", c.count(0), n + 1);
        }
        for (int n = 0; n < 8; n++) {
            due("texture " + n, c.texel(n, 0, 0, 0), n * 65536L);
        }
    }

    private static void promise3AddRefusesA9th() {
        Calls c = eightTextures();
        String before = state(c);
        c.put(99, 99, 99);
        due("a ninth", c.add(1, 0, 0), NONE);
        due("what stands after it", state(c), before);
        c.put(99, 99, 99);
        due("a ninth again", c.add(1, 0, 0), NONE);
        due("a texture 8", c.texel(8, 0, 0, 0), MISSING);
        c.clear();
        c.put(98, 98, 98);
        due("after clear", c.add(1, 0, 0), 0);
        due("its texel", c.texel(0, 0, 0, 0), 0x626262);
    }

    private static void promise3AddRefusesASideThatThereIsNot() {
        int[] sides = {3, 5, 6, 7, 9, 10, 12, 14, 15, 17, 18, 20, -1, -2, -3, -4, -8, -16, 0};
        for (int side : sides) {
            Calls c = withText(side * side);
            due("side " + side, c.add(side, 0, 0), NONE);
            due("count 0", c.count(0), 0);
            due("count 1", c.count(1), 0);
            due("about", c.about(0, 0), NONE);
        }
    }

    private static void promise3AddRefusesASideTooFarOut() {
        // The squares of these wrap around to 0 or to 1.
        int[][] sides = {{0, 65536}, {0, -65536}, {0, LEAST}, {0, 1 << 20}, {1, MOST}, {1, LEAST + 1}, {1, LEAST}, {0, 64}, {0, 33}};
        for (int[] row : sides) {
            Calls c = withText(row[0]);
            due("side " + row[1], c.add(row[1], 0, 0), NONE);
            due("count 0", c.count(0), 0);
            due("count 1", c.count(1), 0);
        }
    }

    private static void promise3AddRefusesAWrapThatThereIsNot() {
        for (int wrap = 0; wrap <= 2; wrap++) {
            Calls c = withText(1);
            due("wrap " + wrap, c.add(1, wrap, 0), 0);
            due("its wrap", c.about(0, 1), wrap);
        }
        for (int wrap : new int[] {-1, 3, 4, 256, LEAST, MOST}) {
            Calls c = oneTextureAndText();
            due("wrap " + wrap, c.add(1, wrap, 0), NONE);
            theOneTextureStandsAndTheTextIsEmpty(c);
        }
    }

    private static void promise3AddRefusesASoftThatThereIsNot() {
        for (int soft = 0; soft <= 1; soft++) {
            Calls c = withText(1);
            due("soft " + soft, c.add(1, 0, soft), 0);
            due("its soft", c.about(0, 2), soft);
        }
        for (int soft : new int[] {-1, 2, 3, 256, LEAST, MOST}) {
            Calls c = oneTextureAndText();
            due("soft " + soft, c.add(1, 0, soft), NONE);
            theOneTextureStandsAndTheTextIsEmpty(c);
        }
    }

    private static void promise3AddRefusesATexelTooFew() {
        for (int side = 1; side <= 16; side *= 2) {
            Calls c = withText(side * side - 1);
            due("side " + side, c.add(side, 0, 0), NONE);
            due("count 0", c.count(0), 0);
            due("count 1", c.count(1), 0);
        }
        Calls c = withText(500);
        due("side 32", c.add(32, 0, 0), NONE);
        due("count 0", c.count(0), 0);
        due("count 1", c.count(1), 0);
    }

    private static void promise3AddRefusesATexelTooMany() {
        for (int side = 1; side <= 16; side *= 2) {
            Calls c = withText(side * side + 1);
            due("side " + side, c.add(side, 0, 0), NONE);
            due("count 0", c.count(0), 0);
            due("count 1", c.count(1), 0);
        }
    }

    private static void promise3AddRefusesAnotherSidesTexels() {
        int[] sides = {1, 2, 4, 8, 16, 32};
        for (int side : sides) {
            for (int other : new int[] {1, 2, 4, 8, 16}) {
                Calls c = withText(other * other);
                due("side " + side + " of " + other * other, c.add(side, 0, 0), side == other ? 0 : NONE);
                due("count 1", c.count(1), 0);
            }
        }
    }

    private static void promise3AddGoesOnBehindARefusedOne() {
        Calls c = oneTextureAndText();
        due("refused", c.add(2, 0, 0), NONE);
        theOneTextureStandsAndTheTextIsEmpty(c);
        c.put(8, 8, 8);
        due("the next number", c.add(1, 1, 1), 1);
        due("its texel", c.texel(1, 0, 0, 0), 0x080808);
        due("count 0", c.count(0), 2);
    }

    private static void promise3AddKeepsItsTexelsWhenTheTextGoesOn() {
        Calls c = columnsAndRows(2, 0, 0);
        for (int n = 0; n < 4; n++) {
            c.put(200, 200, 200);
        }
        due("level 0", c.texel(0, 0, 1, 1), at(1, 1));
        due("the next number", c.add(2, 0, 0), 1);
        due("level 0", c.texel(0, 0, 0, 0), at(0, 0));
        due("level 0 of the next", c.texel(1, 0, 0, 0), 0xC8C8C8);
        due("level 1", c.texel(0, 1, 0, 0), at(0, 0));
    }

    private static void promise3AddTakesTheSidesThatThereAre() {
        for (int side = 1; side <= 16; side *= 2) {
            Calls c = withText(side * side);
            due("add side " + side, c.add(side, 0, 0), 0);
            due("its side", c.about(0, 0), side);
        }
    }

    /** 1024 texels take more than 512 calls, so what is answered here is free; the document's words are kept anyway. */
    private static void promise3AddTakes32AsTheGreatestSide() {
        TextureBank bank = new TextureBank();
        for (int n = 0; n < 1024; n++) {
            bank.put(n & 31, n >> 5, 0);
        }
        due("add side 32", bank.add(32, 0, 0), 0);
        due("its levels", bank.about(0, 3), 6);
        due("its last texel", bank.texel(0, 0, 31, 31), 31 * 65536 + 31 * 256);
        due("its last level", bank.texel(0, 5, 0, 0), 15 * 65536 + 15 * 256);
    }

    private static void promise3AddTakesTheTexelsRowByRow() {
        Calls c = withText(4);
        c.add(2, 0, 0);
        due("first of row 0", c.texel(0, 0, 0, 0), textTexel(0));
        due("last of row 0", c.texel(0, 0, 1, 0), textTexel(1));
        due("first of row 1", c.texel(0, 0, 0, 1), textTexel(2));
        due("last of row 1", c.texel(0, 0, 1, 1), textTexel(3));
    }

    // Promise 4: clear

    private static void promise4ClearOfNoTextures() {
        Calls c = new Calls();
        c.clear();
        c.clear();
        due("count 0", c.count(0), 0);
        c.put(1, 1, 1);
        due("add", c.add(1, 0, 0), 0);
    }

    private static void promise4ClearOfAllEight() {
        Calls c = eightTextures();
        c.clear();
        due("count 0", c.count(0), 0);
        for (int n = 0; n < 8; n++) {
            due("about " + n, c.about(n, 0), NONE);
            due("level " + n, c.level(n, 0, 1), MISSING);
            due("lookUp " + n, c.lookUp(n, 0, 0, 0), MISSING);
            due("texel " + n, c.texel(n, 0, 0, 0), MISSING);
        }
    }

    private static void promise4ClearLeavesTheText() {
        Calls c = oneTextureAndText();
        c.clear();
        due("count 1", c.count(1), 1);
        due("put", c.put(1, 1, 1), 2);
        c.clear();
        c.put(2, 2, 2);
        c.put(3, 3, 3);
        due("add", c.add(2, 0, 0), 0);
        due("the first texel", c.texel(0, 0, 0, 0), 0x090909);
        due("the last texel", c.texel(0, 0, 1, 1), 0x030303);
    }

    private static void promise4ClearMakesRoomForEightAgain() {
        Calls c = new Calls();
        for (int round = 0; round < 3; round++) {
            for (int n = 0; n < 8; n++) {
                c.put(n + round, 0, 0);
                due("add", c.add(1, 0, 0), n);
            }
            c.put(1, 1, 1);
            due("a ninth", c.add(1, 0, 0), NONE);
            due("the last", c.texel(7, 0, 0, 0), (7 + round) * 65536L);
            c.clear();
        }
    }

    private static void promise4ClearLeavesNothingOfTheOldInTheNew() {
        Calls c = columnsAndRows(8, 2, 1);
        c.clear();
        c.put(1, 2, 3);
        due("add", c.add(1, 1, 0), 0);
        due("side", c.about(0, 0), 1);
        due("wrap", c.about(0, 1), 1);
        due("soft", c.about(0, 2), 0);
        due("levels", c.about(0, 3), 1);
        due("its texel", c.texel(0, 0, 0, 0), 0x010203);
        due("no column more", c.texel(0, 0, 1, 0), MISSING);
        due("no row more", c.texel(0, 0, 0, 1), MISSING);
        due("no level more", c.lookUp(0, 1, 0, 0), MISSING);
        due("looked up", c.lookUp(0, 0, 65535, 65535), 0x010203);
        due("its only level", c.level(0, MOST_SPREAD, 1), 0);
    }

    private static void promise4ClearLeavesNothingOfTheSmallInTheGreat() {
        Calls c = columnsAndRows(2, 0, 0);
        c.clear();
        for (int n = 0; n < 16; n++) {
            c.put(40, 50, 60);
        }
        due("add", c.add(4, 0, 0), 0);
        for (int level = 0; level < 3; level++) {
            due("level " + level, c.texel(0, level, 0, 0), 0x28323C);
        }
    }

    // Promise 5: level

    private static void promise5LevelIsTheLeastThatFits() {
        Calls c = columnsAndRows(16, 0, 0);
        long edge = 65536;
        for (int level = 0; level < 4; level++) {
            due("before edge " + level, c.level(0, edge - 1, 1), level);
            due("at edge " + level, c.level(0, edge, 1), level);
            due("behind edge " + level, c.level(0, edge + 1, 1), level + 1);
            due("at edge " + level + " of area 3", c.level(0, 3 * edge, 3), level);
            due("behind edge " + level + " of area 3", c.level(0, 3 * edge + 1, 3), level + 1);
            edge *= 4;
        }
    }

    private static void promise5LevelIsTheLastOneIfNoneFits() {
        for (int side = 1, last = 0; side <= 16; side *= 2, last++) {
            Calls c = columnsAndRows(side, 0, 0);
            // At the last level area * 2^24 * 4^last is spread * side * side for a spread of 2^24.
            due("the last that fits", c.level(0, 1L << 24, 1), last);
            due("the first that doesn't", c.level(0, (1L << 24) + 1, 1), last);
            due("the greatest", c.level(0, MOST_SPREAD, 1), last);
        }
    }

    private static void promise5LevelGoesByTheSideOfLevel0() {
        for (int side = 2; side <= 16; side *= 2) {
            Calls c = columnsAndRows(side, 0, 0);
            long edge = 16777216L / (side * side);
            due("at the edge of " + side, c.level(0, edge, 1), 0);
            due("behind the edge of " + side, c.level(0, edge + 1, 1), 1);
            due("at the next edge of " + side, c.level(0, 4 * edge, 1), 1);
        }
    }

    private static void promise5LevelTakesASpreadOf0To2To40() {
        Calls c = oneTextureAndText();
        due("spread 0", c.level(0, 0, 1), 0);
        due("spread 1", c.level(0, 1, 1), 0);
        due("spread 2^40 - 1", c.level(0, MOST_SPREAD - 1, 1), 1);
        due("spread 2^40", c.level(0, MOST_SPREAD, 1), 1);
    }

    private static void promise5LevelRefusesASpreadBeyond0To2To40() {
        for (long spread : new long[] {-1, MOST_SPREAD + 1, -(1L << 32), 1L << 41, 1L << 62, Long.MIN_VALUE, Long.MAX_VALUE}) {
            Calls c = oneTextureAndText();
            refused(c, "spread " + spread, () -> c.level(0, spread, 1), WRONG_ARGUMENT);
            refused(c, "spread " + spread, () -> c.level(0, spread, MOST_AREA), WRONG_ARGUMENT);
            due("the next call", c.level(0, 0, 1), 0);
        }
    }

    private static void promise5LevelTakesAnAreaOf1To2To24() {
        Calls c = columnsAndRows(16, 0, 0);
        due("area 1", c.level(0, 65536, 1), 0);
        due("area 2", c.level(0, 65537, 2), 0);
        due("area 2^24 - 1", c.level(0, MOST_SPREAD, MOST_AREA - 1), 1);
        due("area 2^24", c.level(0, MOST_SPREAD, MOST_AREA), 0);
    }

    private static void promise5LevelRefusesAnAreaBeyond1To2To24() {
        for (int area : new int[] {0, -1, MOST_AREA + 1, -MOST_AREA, LEAST, MOST}) {
            Calls c = oneTextureAndText();
            refused(c, "area " + area, () -> c.level(0, 0, area), WRONG_ARGUMENT);
            refused(c, "area " + area, () -> c.level(0, MOST_SPREAD, area), WRONG_ARGUMENT);
            due("the next call", c.level(0, 0, 1), 0);
        }
    }

    private static void promise5LevelIsWorkedOutInLongs() {
        Calls c = columnsAndRows(2, 0, 0);
        // These areas times 2^24 do not fit into an int.
        for (int area : new int[] {127, 128, 255, 256, 65536, 100000}) {
            due("at the edge of area " + area, c.level(0, area * 4194304L, area), 0);
            due("behind the edge of area " + area, c.level(0, area * 4194304L + 1, area), 1);
        }
    }

    private static void promise5LevelRefusesATextureThatThereIsNot() {
        for (int texture : new int[] {1, -1, 8, LEAST, MOST}) {
            Calls c = oneTextureAndText();
            refused(c, "texture " + texture, () -> c.level(texture, 0, 1), MISSING);
            due("the next call", c.level(0, 0, 1), 0);
        }
        Calls full = eightTextures();
        due("texture 7 of eight", full.level(7, 0, 1), 0);
        due("texture 8 of eight", full.level(8, 0, 1), MISSING);
    }

    private static void promise5LevelLooksForTheTextureFirst() {
        Calls c = oneTextureAndText();
        due("no texture, wrong spread", c.level(1, -1, 1), MISSING);
        due("no texture, wrong area", c.level(1, 0, 0), MISSING);
        due("wrong spread and area", c.level(0, -1, 0), WRONG_ARGUMENT);
    }

    // Promise 6: lookUp

    private static void promise6LookUpTakesPlacesToTheFarEnds() {
        // The texel at -FAR, at FAR - 1 and at FAR, in the three ways, of side 16.
        int[][] columns = {{0, 15, 0}, {0, 15, 15}, {0, 0, 0}};
        for (int wrap = 0; wrap < 3; wrap++) {
            Calls c = columnsAndRows(16, wrap, 0);
            int[] places = {-FAR, FAR - 1, FAR};
            for (int n = 0; n < 3; n++) {
                due("u " + places[n] + ", wrap " + wrap, c.lookUp(0, 0, places[n], 0), at(columns[wrap][n], 0));
                due("v " + places[n] + ", wrap " + wrap, c.lookUp(0, 0, 0, places[n]), at(0, columns[wrap][n]));
            }
            due("both at the ends", c.lookUp(0, 0, -FAR, FAR), at(columns[wrap][0], columns[wrap][2]));
        }
    }

    private static void promise6LookUpRefusesAUBeyondTheFarEnds() {
        for (int u : new int[] {FAR + 1, -FAR - 1, LEAST, MOST}) {
            Calls c = oneTextureAndText();
            refused(c, "u " + u, () -> c.lookUp(0, 0, u, 0), WRONG_ARGUMENT);
            refused(c, "u " + u + " in the last level", () -> c.lookUp(0, 1, u, FAR), WRONG_ARGUMENT);
            due("the next call", c.lookUp(0, 0, 0, 0), at(0, 0));
        }
    }

    private static void promise6LookUpRefusesAVBeyondTheFarEnds() {
        for (int v : new int[] {FAR + 1, -FAR - 1, LEAST, MOST}) {
            Calls c = oneTextureAndText();
            refused(c, "v " + v, () -> c.lookUp(0, 0, 0, v), WRONG_ARGUMENT);
            refused(c, "v " + v + " in the last level", () -> c.lookUp(0, 1, FAR, v), WRONG_ARGUMENT);
            due("the next call", c.lookUp(0, 0, 0, 0), at(0, 0));
        }
    }

    private static void promise6LookUpRefusesATextureThatThereIsNot() {
        for (int texture : new int[] {1, -1, 8, LEAST, MOST}) {
            Calls c = oneTextureAndText();
            refused(c, "texture " + texture, () -> c.lookUp(texture, 0, 0, 0), MISSING);
            due("the next call", c.lookUp(0, 0, 0, 0), at(0, 0));
        }
        Calls full = eightTextures();
        due("texture 7 of eight", full.lookUp(7, 0, 0, 0), 0x070707);
        due("texture 8 of eight", full.lookUp(8, 0, 0, 0), MISSING);
    }

    private static void promise6LookUpRefusesALevelThatThereIsNot() {
        for (int side = 1, levels = 1; side <= 16; side *= 2, levels++) {
            Calls c = columnsAndRows(side, 0, 0);
            due("the last level of " + side, c.lookUp(0, levels - 1, 0, 0), at((side - 1) / 2, (side - 1) / 2));
            for (int level : new int[] {levels, -1, 31, 32, 33, -32, LEAST, MOST}) {
                due("level " + level + " of " + side, c.lookUp(0, level, 0, 0), MISSING);
            }
        }
        Calls c = oneTextureAndText();
        refused(c, "level 2", () -> c.lookUp(0, 2, 0, 0), MISSING);
        refused(c, "level -1", () -> c.lookUp(0, -1, 0, 0), MISSING);
    }

    private static void promise6LookUpLooksForTheTextureAndLevelFirst() {
        Calls c = oneTextureAndText();
        due("no texture, wrong u", c.lookUp(1, 0, FAR + 1, 0), MISSING);
        due("no texture, wrong v", c.lookUp(-1, 0, 0, -FAR - 1), MISSING);
        due("no level, wrong u", c.lookUp(0, 2, FAR + 1, 0), MISSING);
        due("no level, wrong v", c.lookUp(0, -1, 0, -FAR - 1), MISSING);
    }

    private static void promise6LookUpNearestStepsAtTheTexelsEnds() {
        Calls c = columnsAndRows(4, 1, 0);
        for (int n = 0; n < 4; n++) {
            due("first of column " + n, c.lookUp(0, 0, n * 16384, 0), at(n, 0));
            due("last of column " + n, c.lookUp(0, 0, n * 16384 + 16383, 0), at(n, 0));
            due("first of row " + n, c.lookUp(0, 0, 0, n * 16384), at(0, n));
            due("last of row " + n, c.lookUp(0, 0, 0, n * 16384 + 16383), at(0, n));
        }
    }

    private static void promise6LookUpDivOfNumbersBelow0GoesDown() {
        Calls c = columnsAndRows(4, 0, 0);
        due("u -1", c.lookUp(0, 0, -1, 0), at(3, 0));
        due("v -1", c.lookUp(0, 0, 0, -1), at(0, 3));
        due("u a texel below 0", c.lookUp(0, 0, -16384, 0), at(3, 0));
        due("u a texel and 1 below 0", c.lookUp(0, 0, -16385, 0), at(2, 0));
        due("v a texel below 0", c.lookUp(0, 0, 0, -16384), at(0, 3));
        due("v a texel and 1 below 0", c.lookUp(0, 0, 0, -16385), at(0, 2));
    }

    private static void promise6LookUpColumnsGoByUAndRowsByV() {
        for (int soft = 0; soft < 2; soft++) {
            Calls c = columnsAndRows(4, 0, soft);
            due("u right, v above", c.lookUp(0, 0, 57344, 8192), at(3, 0));
            due("u left, v below", c.lookUp(0, 0, 8192, 57344), at(0, 3));
            due("texel right above", c.texel(0, 0, 3, 0), at(3, 0));
        }
    }

    private static void promise6LookUpInALevelGoesByItsOwnSide() {
        for (int wrap = 0; wrap < 3; wrap++) {
            // Level 1 has the means of two columns or rows: 10.5, 12.5 and 20.5, 22.5, rounded down.
            Calls c = columnsAndRows(4, wrap, 0);
            due("u the last of column 0", c.lookUp(0, 1, 32767, 0), 0x0A1400);
            due("u the first of column 1", c.lookUp(0, 1, 32768, 0), 0x0C1400);
            due("v the last of row 0", c.lookUp(0, 1, 0, 32767), 0x0A1400);
            due("v the first of row 1", c.lookUp(0, 1, 0, 32768), 0x0A1600);
            due("u at the end", c.lookUp(0, 1, 65536, 0), wrap == 0 ? 0x0A1400 : 0x0C1400);
            due("u a texel before 0", c.lookUp(0, 1, -32769, 0), wrap == 2 ? 0x0C1400 : 0x0A1400);
        }
    }

    private static void promise6LookUpRoundIsModuloTheSide() {
        int[][] columns = {{-9, 3}, {-8, 0}, {-5, 3}, {-4, 0}, {-3, 1}, {-1, 3}, {0, 0}, {3, 3}, {4, 0}, {5, 1}, {7, 3}, {8, 0}};
        wrapsSideOf4(0, columns);
    }

    private static void promise6LookUpTheLastOneIsTheNearest() {
        int[][] columns = {{-9, 0}, {-8, 0}, {-5, 0}, {-4, 0}, {-1, 0}, {0, 0}, {1, 1}, {2, 2}, {3, 3}, {4, 3}, {7, 3}, {8, 3}};
        wrapsSideOf4(1, columns);
    }

    private static void promise6LookUpToAndFroIsModuloTwiceTheSideAndBack() {
        int[][] columns = {
            {-9, 0}, {-8, 0}, {-7, 1}, {-5, 3}, {-4, 3}, {-3, 2}, {-1, 0}, {0, 0}, {3, 3}, {4, 3}, {5, 2}, {7, 0}, {8, 0}, {9, 1}, {11, 3},
            {12, 3}, {13, 2},
        };
        wrapsSideOf4(2, columns);
    }

    private static void wrapsSideOf4(int wrap, int[][] columns) {
        Calls c = columnsAndRows(4, wrap, 0);
        for (int[] row : columns) {
            int first = row[0] * 16384;
            due("column " + row[0], c.lookUp(0, 0, first, 0), at(row[1], 0));
            due("column " + row[0] + ", its last", c.lookUp(0, 0, first + 16383, 0), at(row[1], 0));
            due("row " + row[0], c.lookUp(0, 0, 0, first), at(0, row[1]));
            due("row " + row[0] + ", its last", c.lookUp(0, 0, 0, first + 16383), at(0, row[1]));
        }
    }

    private static void promise6LookUpWrapsTheOtherSides() {
        int[] sides = {1, 2, 8, 16};
        for (int s : sides) {
            // The columns -2 s, -s - 1, -s, -1, s - 1, s, 2 s - 1, 2 s in the three ways.
            int last = s - 1;
            int[] numbers = {-2 * s, -s - 1, -s, -1, last, s, 2 * s - 1, 2 * s};
            int[][] columns = {
                {0, last, 0, last, last, 0, last, 0}, {0, 0, 0, 0, last, last, last, last}, {0, last, last, 0, last, last, 0, 0},
            };
            for (int wrap = 0; wrap < 3; wrap++) {
                Calls c = columnsAndRows(s, wrap, 0);
                for (int n = 0; n < numbers.length; n++) {
                    int place = numbers[n] * (65536 / s);
                    String what = "side " + s + ", wrap " + wrap + ", number " + numbers[n];
                    due(what, c.lookUp(0, 0, place, 0), at(columns[wrap][n], 0));
                    due(what, c.lookUp(0, 0, 0, place), at(0, columns[wrap][n]));
                }
            }
        }
    }

    private static void promise6LookUpSoftHasATexelsOwnColourAtItsMiddle() {
        for (int wrap = 0; wrap < 3; wrap++) {
            Calls c = columnsAndRows(4, wrap, 1);
            for (int n = 0; n < 4; n++) {
                int middle = n * 16384 + 8192;
                due("column " + n, c.lookUp(0, 0, middle, 8192), at(n, 0));
                due("row " + n, c.lookUp(0, 0, 8192, middle), at(0, n));
            }
        }
    }

    private static void promise6LookUpSoftSharesStepByThe256th() {
        Calls c = blackAndBright(1);
        // Of side 2: 128 of a place is one share of 256; red 200 times g / 256, rounded down.
        int[][] reds = {
            {0, 0}, {127, 0}, {128, 0}, {255, 0}, {256, 1}, {383, 1}, {384, 2}, {16383, 99}, {16384, 100}, {32639, 198}, {32640, 199},
            {32767, 199}, {32768, 200},
        };
        for (int[] row : reds) {
            due("u " + row[0] + " behind the middle", c.lookUp(0, 0, 16384 + row[0], 16384), row[1] * 65536L);
            due("v " + row[0] + " behind the middle", c.lookUp(0, 0, 16384, 16384 + row[0]), row[1] / 2 * 256L);
        }
    }

    private static void promise6LookUpSoftIsRoundedOnceAndDown() {
        Calls c = new Calls();
        c.put(1, 255, 0);
        c.put(2, 255, 0);
        c.put(2, 255, 0);
        c.put(3, 255, 3);
        c.add(2, 0, 1);
        // Red (1 + 2 + 2 + 3) / 4 is 2, though the rows are 1.5 and 2.5; blue 3 / 4 is 0.
        due("between four", c.lookUp(0, 0, 32768, 32768), 0x02FF00);
        due("the shares sum to all", c.lookUp(0, 0, 16384 + 12345, 16384 + 23456) & 0xFF00, 0xFF00);
    }

    private static void promise6LookUpSoftMixesTheFourByTheirShares() {
        Calls c = new Calls();
        c.put(255, 0, 0);
        c.put(0, 255, 0);
        c.put(0, 0, 255);
        c.put(0, 0, 0);
        c.add(2, 1, 1);
        // g = 64, k = 192: 255 * 192 * 64, 255 * 64 * 64, 255 * 192 * 192, each / 65536.
        due("g 64, k 192", c.lookUp(0, 0, 24576, 40960), 0x2F0F8F);
        due("g 192, k 64", c.lookUp(0, 0, 40960, 24576), 0x2F8F0F);
    }

    private static void promise6LookUpSoftGoesRoundTheEnds() {
        int[][] reds = {
            {16384, 0}, {16128, 1}, {0, 100}, {-16384, 200}, {-49152, 0}, {-81920, 200}, {-114688, 0}, {49152, 200}, {49151, 199},
            {49279, 200}, {49280, 199}, {65536, 100}, {81920, 0}, {98304, 100}, {114688, 200}, {FAR, 100}, {-FAR, 100},
        };
        softWrapsSideOf2(0, reds);
    }

    private static void promise6LookUpSoftStaysAtTheLastOne() {
        int[][] reds = {
            {16384, 0}, {16128, 0}, {0, 0}, {-16384, 0}, {-49152, 0}, {-81920, 0}, {49152, 200}, {49151, 199}, {49279, 200},
            {49280, 200}, {65536, 200}, {81920, 200}, {98304, 200}, {114688, 200}, {FAR, 200}, {-FAR, 0},
        };
        softWrapsSideOf2(1, reds);
    }

    private static void promise6LookUpSoftGoesToAndFro() {
        int[][] reds = {
            {16384, 0}, {16128, 0}, {0, 0}, {-16384, 0}, {-32768, 100}, {-49152, 200}, {-81920, 200}, {-98304, 100}, {-114688, 0},
            {49152, 200}, {49151, 199}, {49280, 200}, {65536, 200}, {81920, 200}, {98304, 100}, {114688, 0}, {131072, 0}, {147456, 0},
            {163840, 100}, {180224, 200}, {FAR, 0}, {-FAR, 0},
        };
        softWrapsSideOf2(2, reds);
    }

    private static void softWrapsSideOf2(int wrap, int[][] reds) {
        Calls c = blackAndBright(wrap);
        for (int[] row : reds) {
            due("u " + row[0], c.lookUp(0, 0, row[0], 16384), row[1] * 65536L);
            due("v " + row[0], c.lookUp(0, 0, 16384, row[0]), row[1] / 2 * 256L);
        }
    }

    private static void promise6LookUpSoftOfOneTexelIsThatTexel() {
        int[] places = {0, 1, -1, 32767, 32768, 32769, -32768, 65535, 65536, -65536, FAR, -FAR};
        for (int wrap = 0; wrap < 3; wrap++) {
            Calls c = new Calls();
            c.put(255, 1, 128);
            c.add(1, wrap, 1);
            for (int place : places) {
                due("u " + place + ", wrap " + wrap, c.lookUp(0, 0, place, 0), 0xFF0180);
                due("v " + place + ", wrap " + wrap, c.lookUp(0, 0, 0, place), 0xFF0180);
            }
        }
    }

    // Promise 7: texel

    private static void promise7TexelOfTheFirstAndLastColumnAndRow() {
        for (int side = 1; side <= 16; side *= 2) {
            Calls c = columnsAndRows(side, 1, 1);
            int last = side - 1;
            due("the first of all", c.texel(0, 0, 0, 0), at(0, 0));
            due("the last column", c.texel(0, 0, last, 0), at(last, 0));
            due("the last row", c.texel(0, 0, 0, last), at(0, last));
            due("the last of all", c.texel(0, 0, last, last), at(last, last));
        }
    }

    private static void promise7TexelRefusesAColumnThatThereIsNot() {
        for (int x : new int[] {-1, 2, -2, LEAST, MOST}) {
            Calls c = oneTextureAndText();
            refused(c, "column " + x, () -> c.texel(0, 0, x, 0), MISSING);
            refused(c, "column " + x + " of the last row", () -> c.texel(0, 0, x, 1), MISSING);
        }
    }

    private static void promise7TexelRefusesARowThatThereIsNot() {
        for (int y : new int[] {-1, 2, -2, LEAST, MOST, 1 << 30, 1 << 31}) {
            Calls c = oneTextureAndText();
            refused(c, "row " + y, () -> c.texel(0, 0, 0, y), MISSING);
            refused(c, "row " + y + " of the last column", () -> c.texel(0, 0, 1, y), MISSING);
        }
    }

    private static void promise7TexelDoesNotWrap() {
        for (int wrap = 0; wrap < 3; wrap++) {
            Calls c = columnsAndRows(4, wrap, 0);
            due("column -1", c.texel(0, 0, -1, 0), MISSING);
            due("column -1 of row 1", c.texel(0, 0, -1, 1), MISSING);
            due("column 4", c.texel(0, 0, 4, 0), MISSING);
            due("row -1", c.texel(0, 0, 0, -1), MISSING);
            due("row 4", c.texel(0, 0, 0, 4), MISSING);
            due("column 2 of level 1", c.texel(0, 1, 2, 0), MISSING);
            due("row 2 of level 1", c.texel(0, 1, 0, 2), MISSING);
        }
    }

    private static void promise7TexelRefusesALevelThatThereIsNot() {
        for (int level : new int[] {-1, 2, 31, 32, 33, 64, LEAST, MOST}) {
            Calls c = oneTextureAndText();
            refused(c, "level " + level, () -> c.texel(0, level, 0, 0), MISSING);
            due("the next call", c.texel(0, 0, 1, 1), at(1, 1));
        }
    }

    private static void promise7TexelRefusesATextureThatThereIsNot() {
        for (int texture : new int[] {1, -1, 8, LEAST, MOST}) {
            Calls c = oneTextureAndText();
            refused(c, "texture " + texture, () -> c.texel(texture, 0, 0, 0), MISSING);
            due("the next call", c.texel(0, 0, 1, 1), at(1, 1));
        }
        Calls full = eightTextures();
        due("texture 7 of eight", full.texel(7, 0, 0, 0), 0x070707);
        due("texture 8 of eight", full.texel(8, 0, 0, 0), MISSING);
    }

    private static void promise7TexelHasThreeNumbersOf0To255() {
        int[][] colours = {
            {0, 0, 0, 0}, {255, 0, 0, 16711680}, {0, 255, 0, 65280}, {0, 0, 255, 255}, {255, 255, 255, 16777215},
            {1, 0, 0, 65536}, {0, 1, 0, 256}, {0, 0, 1, 1},
        };
        Calls c = new Calls();
        for (int n = 0; n < 8; n++) {
            int[] row = colours[n];
            c.put(row[0], row[1], row[2]);
            c.add(1, 0, n % 2);
            due("texel", c.texel(n, 0, 0, 0), row[3]);
            due("lookUp", c.lookUp(n, 0, 0, 0), row[3]);
        }
    }

    private static void promise7TexelOfTheLastLevelWhichHasSide1() {
        int levels = 1;
        for (int side = 1; side <= 16; side *= 2) {
            Calls c = columnsAndRows(side, 0, 0);
            due("levels of side " + side, c.about(0, 3), levels);
            due("column 0 of the last", c.texel(0, levels - 1, 0, 0) != MISSING ? 1 : 0, 1);
            due("column 1 of the last", c.texel(0, levels - 1, 1, 0), MISSING);
            due("row 1 of the last", c.texel(0, levels - 1, 0, 1), MISSING);
            due("behind the last", c.texel(0, levels, 0, 0), MISSING);
            levels++;
        }
    }

    private static void promise7TexelOfEachLevelWithHalfTheSideOfTheOneBefore() {
        Calls c = columnsAndRows(16, 0, 0);
        for (int level = 0, side = 16; level <= 4; level++, side /= 2) {
            due("the last texel of level " + level, c.texel(0, level, side - 1, side - 1) != MISSING ? 1 : 0, 1);
            due("one column more", c.texel(0, level, side, 0), MISSING);
            due("one row more", c.texel(0, level, 0, side), MISSING);
        }
    }

    private static void promise7TexelOfANextLevelIsRoundedDown() {
        int[][] reds = {
            {0, 0, 0, 0, 0}, {1, 0, 0, 0, 0}, {1, 1, 0, 0, 0}, {1, 1, 1, 0, 0}, {0, 1, 1, 1, 0}, {1, 1, 1, 1, 1}, {255, 255, 255, 255, 255},
            {255, 255, 255, 254, 254},
        };
        Calls c = new Calls();
        for (int n = 0; n < reds.length; n++) {
            for (int i = 0; i < 4; i++) {
                c.put(reds[n][i], reds[n][i], reds[n][i]);
            }
            c.add(2, 0, 0);
            due("mean " + n, c.texel(n, 1, 0, 0), reds[n][4] * 0x010101);
        }
    }

    private static void promise7TexelOfANextLevelIsTakenNumberByNumber() {
        Calls c = new Calls();
        c.put(1, 255, 0);
        c.put(0, 255, 3);
        c.put(0, 255, 0);
        c.put(0, 254, 1);
        c.add(2, 0, 0);
        due("no number spills into the next", c.texel(0, 1, 0, 0), 0x00FE01);
    }

    private static void promise7TexelOfANextLevelIsOfTheFourOfTheLevelBefore() {
        Calls c = new Calls();
        int[] reds = {1, 1, 2, 1, 1, 0, 1, 1, 1, 1, 1, 1, 0, 1, 1, 3};
        for (int red : reds) {
            c.put(red, 0, 0);
        }
        c.add(4, 0, 0);
        // The quarters sum to 3, 5, 3, 6.
        due("left above", c.texel(0, 1, 0, 0), 0);
        due("right above", c.texel(0, 1, 1, 0), 65536);
        due("left below", c.texel(0, 1, 0, 1), 0);
        due("right below", c.texel(0, 1, 1, 1), 65536);
        // 0 + 1 + 0 + 1 makes 0; all sixteen sum to 17, whose sixteenth would be 1.
        due("rounded at each level", c.texel(0, 2, 0, 0), 0);
    }

    // Promise 8: lit

    private static void promise8LitTakesColoursOf0To16777215() {
        Calls c = new Calls();
        due("black", c.lit(0, 0, 65536), 0);
        due("black tinted white", c.lit(0, 0xFFFFFF, 65536), 0);
        due("white tinted black", c.lit(0xFFFFFF, 0, 65536), 0);
        due("white tinted white", c.lit(0xFFFFFF, 0xFFFFFF, 65536), 0xFFFFFF);
        due("red alone", c.lit(0xFF0000, 0xFFFFFF, 65536), 0xFF0000);
        due("green alone", c.lit(0xFFFFFF, 0x00FF00, 65536), 0x00FF00);
        due("blue alone", c.lit(0x0000FF, 0xFFFFFF, 65536), 0x0000FF);
    }

    private static void promise8LitRefusesWhatIsNoColour() {
        for (int colour : new int[] {-1, 0x1000000, 0x1FFFFFF, -0xFFFFFF, 0xFF000000, LEAST, MOST}) {
            Calls c = oneTextureAndText();
            refused(c, "colour " + colour, () -> c.lit(colour, 0xFFFFFF, 65536), WRONG_ARGUMENT);
            refused(c, "colour " + colour + ", black", () -> c.lit(colour, 0, 0), WRONG_ARGUMENT);
            due("the next call", c.lit(0x123456, 0xFFFFFF, 65536), 0x123456);
        }
    }

    private static void promise8LitRefusesATintThatIsNoColour() {
        for (int tint : new int[] {-1, 0x1000000, 0x1FFFFFF, -0xFFFFFF, 0xFF000000, LEAST, MOST}) {
            Calls c = oneTextureAndText();
            refused(c, "tint " + tint, () -> c.lit(0xFFFFFF, tint, 65536), WRONG_ARGUMENT);
            refused(c, "tint " + tint + ", black", () -> c.lit(0, tint, 0), WRONG_ARGUMENT);
            due("the next call", c.lit(0xFFFFFF, 0x123456, 65536), 0x123456);
        }
    }

    private static void promise8LitTakesALightOf0To65536() {
        Calls c = new Calls();
        due("light 0", c.lit(0xFFFFFF, 0xFFFFFF, 0), 0);
        due("light 1", c.lit(0xFFFFFF, 0xFFFFFF, 1), 0);
        // 255 * 257 is the last below 65536.
        due("light 257", c.lit(0xFFFFFF, 0xFFFFFF, 257), 0);
        due("light 258", c.lit(0xFFFFFF, 0xFFFFFF, 258), 0x010101);
        due("light 32768", c.lit(0xFFFFFF, 0xFFFFFF, 32768), 0x7F7F7F);
        due("light 65535", c.lit(0xFFFFFF, 0xFFFFFF, 65535), 0xFEFEFE);
        due("light 65536", c.lit(0xFFFFFF, 0xFFFFFF, 65536), 0xFFFFFF);
    }

    private static void promise8LitRefusesALightBeyond0To65536() {
        for (int light : new int[] {-1, 65537, -65536, 131072, LEAST, MOST}) {
            Calls c = oneTextureAndText();
            refused(c, "light " + light, () -> c.lit(0xFFFFFF, 0xFFFFFF, light), WRONG_ARGUMENT);
            refused(c, "light " + light + " on black", () -> c.lit(0, 0, light), WRONG_ARGUMENT);
            due("the next call", c.lit(0xFFFFFF, 0xFFFFFF, 65536), 0xFFFFFF);
        }
    }

    private static void promise8LitDividesTheTintBy255RoundingDown() {
        Calls c = new Calls();
        // 254 / 255 is 0, 255 / 255 is 1; 254 * 254 = 64516 is 253 of them and 1 more.
        due("just below 1", c.lit(0x010101, 0xFEFEFE, 65536), 0);
        due("just 1", c.lit(0x010101, 0xFFFFFF, 65536), 0x010101);
        due("254 of 254", c.lit(0xFEFEFE, 0xFEFEFE, 65536), 0xFDFDFD);
        // 15 * 17 = 255 is 1, 15 * 16 = 240 is 0, 2 * 128 = 256 is 1.
        due("number by number", c.lit(0x0F0F02, 0x111080, 65536), 0x010001);
    }

    private static void promise8LitRoundsTheTintBeforeTheLight() {
        Calls c = new Calls();
        // 2 * 254 is 1 with 253 more: 1 * 65535 / 65536 is 0, while 508 / 255 of 65535 would be 1.
        due("rounded twice", c.lit(0x020202, 0xFEFEFE, 65535), 0);
        due("rounded once", c.lit(0x020202, 0xFFFFFF, 65535), 0x010101);
    }

    private static void promise8LitNeedsNoTexture() {
        Calls c = new Calls();
        due("in a new bank", c.lit(0x123456, 0xFFFFFF, 65536), 0x123456);
        due("count 0", c.count(0), 0);
        due("count 1", c.count(1), 0);
    }

    // Promise 9: about

    private static void promise9AboutTellsSideWrapSoftAndLevels() {
        for (int side = 1, levels = 1; side <= 16; side *= 2, levels++) {
            for (int wrap = 0; wrap < 3; wrap++) {
                for (int soft = 0; soft < 2; soft++) {
                    Calls c = columnsAndRows(side, wrap, soft);
                    due("side", c.about(0, 0), side);
                    due("wrap", c.about(0, 1), wrap);
                    due("soft", c.about(0, 2), soft);
                    due("levels", c.about(0, 3), levels);
                }
            }
        }
    }

    private static void promise9AboutAnswersNoneForAnotherWhat() {
        for (int what : new int[] {-1, 4, 5, 256, LEAST, MOST}) {
            Calls c = oneTextureAndText();
            refused(c, "what " + what, () -> c.about(0, what), NONE);
            refused(c, "what " + what + " of no texture", () -> c.about(1, what), NONE);
        }
    }

    private static void promise9AboutAnswersNoneIfThereIsNoSuchTexture() {
        for (int texture : new int[] {-1, 1, 7, 8, LEAST, MOST}) {
            for (int what = 0; what < 4; what++) {
                Calls c = oneTextureAndText();
                int asked = what;
                refused(c, "what " + what + " of texture " + texture, () -> c.about(texture, asked), NONE);
            }
        }
        Calls full = eightTextures();
        due("texture 7 of eight", full.about(7, 0), 1);
        due("texture 8 of eight", full.about(8, 0), NONE);
    }

    // Promise 10: count

    private static void promise10CountOfTexturesFrom0To8() {
        Calls c = new Calls();
        for (int n = 0; n < 8; n++) {
            due("count 0", c.count(0), n);
            c.put(1, 1, 1);
            c.add(1, 0, 0);
        }
        due("count 0", c.count(0), 8);
        c.put(1, 1, 1);
        c.add(1, 0, 0);
        due("count 0 after a ninth", c.count(0), 8);
        c.clear();
        due("count 0 after clear", c.count(0), 0);
    }

    private static void promise10CountOfTheTextsTexels() {
        Calls c = new Calls();
        for (int n = 0; n < 100; n++) {
            due("count 1", c.count(1), n);
            due("put", c.put(n, n, n), n + 1);
        }
        c.put(256, 0, 0);
        due("count 1 after a refused put", c.count(1), 100);
        c.add(10, 0, 0);
        due("count 1 after a refused add", c.count(1), 0);
        due("count 0 after a refused add", c.count(0), 0);
        Calls most = withText(511);
        due("count 1 as the 512th call", most.count(1), 511);
    }

    private static void promise10CountAnswersNoneForAnotherWhat() {
        for (int what : new int[] {-1, 2, 3, 256, LEAST, MOST}) {
            Calls c = oneTextureAndText();
            refused(c, "what " + what, () -> c.count(what), NONE);
        }
    }

    // What the tests share

    /** Column x has red 10 + x, row y has green 20 + y. */
    private static Calls columnsAndRows(int side, int wrap, int soft) {
        Calls c = new Calls();
        for (int y = 0; y < side; y++) {
            for (int x = 0; x < side; x++) {
                c.put(10 + x, 20 + y, 0);
            }
        }
        due("add", c.add(side, wrap, soft), 0);
        return c;
    }

    private static long at(int x, int y) {
        return (10 + x) * 65536L + (20 + y) * 256L;
    }

    /** A soft one of side 2: the right column has red 200, the lower row has green 100. */
    private static Calls blackAndBright(int wrap) {
        Calls c = new Calls();
        c.put(0, 0, 0);
        c.put(200, 0, 0);
        c.put(0, 100, 0);
        c.put(200, 100, 0);
        due("add", c.add(2, wrap, 1), 0);
        return c;
    }

    /** A texture of side 2 and a text of one texel, 9, 9, 9. */
    private static Calls oneTextureAndText() {
        Calls c = columnsAndRows(2, 0, 0);
        due("put", c.put(9, 9, 9), 1);
        return c;
    }

    private static void theOneTextureStandsAndTheTextIsEmpty(Calls c) {
        due("count 0", c.count(0), 1);
        due("count 1", c.count(1), 0);
        due("no texture more", c.about(1, 0), NONE);
        due("side", c.about(0, 0), 2);
        due("wrap", c.about(0, 1), 0);
        due("soft", c.about(0, 2), 0);
        due("the last texel", c.texel(0, 0, 1, 1), at(1, 1));
        due("the last level", c.texel(0, 1, 0, 0), at(0, 0));
    }

    private static Calls eightTextures() {
        Calls c = new Calls();
        for (int n = 0; n < 8; n++) {
            c.put(n, n, n);
            due("add", c.add(1, n % 3, n % 2), n);
        }
        return c;
    }

    private static Calls withText(int texels) {
        Calls c = new Calls();
        for (int n = 0; n < texels; n++) {
            due("put", c.put(n & 255, n >> 8, 77), n + 1);
        }
        return c;
    }

    private static long textTexel(int n) {
        return (n & 255) * 65536L + (n >> 8) * 256L + 77;
    }

    /** A refused call answers what is due, and all that can be asked answers the same before and after it. */
    private static void refused(Calls c, String call, LongSupplier made, long due) {
        String before = state(c);
        due(call, made.getAsLong(), due);
        due(call + ", what stands after it", state(c), before);
    }

    private static String state(Calls c) {
        StringBuilder out = new StringBuilder();
        out.append(c.count(0)).append(" textures, ").append(c.count(1)).append(" texels");
        for (int t = 0; c.about(t, 0) != NONE && t < 8; t++) {
            for (int what = 0; what < 4; what++) {
                out.append(what == 0 ? "; " : " ").append(c.about(t, what));
            }
            int side = (int) c.about(t, 0);
            for (int level = 0; side > 0; level++, side /= 2) {
                for (int n = 0; n < side * side; n++) {
                    out.append(' ').append(Long.toHexString(c.texel(t, level, n % side, n / side)));
                }
            }
        }
        return out.toString();
    }

    private static void due(String call, Object got, Object want) {
        if (!got.equals(want)) {
            wrong++;
            System.out.println(test + ": " + call + ": " + got + ", due is " + want);
        }
    }

    private static void due(String call, long got, long want) {
        due(call, told(got), told(want));
    }

    private static String told(long answer) {
        if (answer == MISSING) {
            return "throws.NoSuchElementException";
        }
        return answer == WRONG_ARGUMENT ? "throws.IllegalArgumentException" : answer + " (0x" + Long.toHexString(answer) + ")";
    }

    /** A bank whose exceptions are answers, and whose calls are counted: behind the 512th nothing is promised. */
    private static final class Calls {
        private final TextureBank bank = new TextureBank();
        private int made = 0;

        private void oneMore() {
            made++;
            if (made == 513) {
                throw new IllegalStateException("the test makes more than 512 calls on one object");
            }
        }

        long put(int red, int green, int blue) {
            oneMore();
            return bank.put(red, green, blue);
        }

        long add(int side, int wrap, int soft) {
            oneMore();
            return bank.add(side, wrap, soft);
        }

        void clear() {
            oneMore();
            bank.clear();
        }

        long level(int texture, long spread, int area) {
            oneMore();
            try {
                return bank.level(texture, spread, area);
            } catch (NoSuchElementException e) {
                return MISSING;
            } catch (IllegalArgumentException e) {
                return WRONG_ARGUMENT;
            }
        }

        long lookUp(int texture, int level, int u, int v) {
            oneMore();
            try {
                return bank.lookUp(texture, level, u, v);
            } catch (NoSuchElementException e) {
                return MISSING;
            } catch (IllegalArgumentException e) {
                return WRONG_ARGUMENT;
            }
        }

        long texel(int texture, int level, int x, int y) {
            oneMore();
            try {
                return bank.texel(texture, level, x, y);
            } catch (NoSuchElementException e) {
                return MISSING;
            }
        }

        long lit(int colour, int tint, int light) {
            oneMore();
            try {
                return bank.lit(colour, tint, light);
            } catch (IllegalArgumentException e) {
                return WRONG_ARGUMENT;
            }
        }

        long about(int texture, int what) {
            oneMore();
            return bank.about(texture, what);
        }

        long count(int what) {
            oneMore();
            return bank.count(what);
        }
    }
}
