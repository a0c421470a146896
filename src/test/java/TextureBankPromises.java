import java.util.NoSuchElementException;

/** Each promise of the document: ordinary inputs, the edges it names, and wrong inputs. */
public final class TextureBankPromises {
    private static final long MISSING = Long.MIN_VALUE;
    private static final long WRONG_ARGUMENT = Long.MIN_VALUE + 1;
    private static int wrong = 0;

    public static void main(String[] args) {
        promise1ANewObject();
        promise2Put();
        promise2PutUpToTheMost();
        promise3Add();
        promise3AddRefuses();
        promise3AddUpToTheMost();
        promise4Clear();
        promise5Level();
        promise5LevelRefuses();
        promise5LevelOfTheGreatest();
        promise6LookUpNearest();
        promise6LookUpSoftly();
        promise6LookUpRefuses();
        promise7Texel();
        promise7TexelMeansAreRoundedAtEachLevel();
        promise8Lit();
        promise9About();
        promise10Count();
        promise1BanksAreApart();
        System.out.println(wrong == 0 ? "all answers are as due" : wrong + " answers are not as due");
        if (wrong != 0) {
            System.exit(1);
        }
    }

    private static void promise1ANewObject() {
        TextureBank bank = new TextureBank();
        due("new: NONE", TextureBank.NONE, -1);
        due("new: textures", bank.count(0), 0);
        due("new: texels", bank.count(1), 0);
        due("new: about", bank.about(0, 0), -1);
        due("new: texel", texel(bank, 0, 0, 0, 0), MISSING);
        due("new: lookUp", lookUp(bank, 0, 0, 0, 0), MISSING);
        due("new: level", level(bank, 0, 0, 1), MISSING);
        due("new: add", bank.add(1, 0, 0), -1);
    }

    private static void promise2Put() {
        TextureBank bank = new TextureBank();
        due("put the least", bank.put(0, 0, 0), 1);
        due("put the most", bank.put(255, 255, 255), 2);
        int[] bad = {-1, 256, Integer.MIN_VALUE, Integer.MAX_VALUE};
        for (int n : bad) {
            due("put red " + n, bank.put(n, 0, 0), -1);
            due("put green " + n, bank.put(0, n, 0), -1);
            due("put blue " + n, bank.put(0, 0, n), -1);
        }
        due("put: the bad ones did not come", bank.count(1), 2);
        due("put a third", bank.put(1, 2, 3), 3);
        due("put a fourth", bank.put(4, 5, 6), 4);
        due("put, then add", bank.add(2, 0, 0), 0);
        due("put: the order", texel(bank, 0, 0, 0, 0), 0);
        due("put: the order", texel(bank, 0, 0, 1, 0), 0xFFFFFF);
        due("put: the order", texel(bank, 0, 0, 0, 1), 0x010203);
        due("put: the order", texel(bank, 0, 0, 1, 1), 0x040506);
        due("put begins anew", bank.put(7, 7, 7), 1);
    }

    /** Answers behind the 512th call are free; the limit of 1024 that the document names is kept all the same. */
    private static void promise2PutUpToTheMost() {
        TextureBank bank = new TextureBank();
        for (int i = 1; i <= 1024; i++) {
            due("put " + i, bank.put(i & 255, i >> 8, 0), i);
        }
        due("put 1025", bank.put(0, 0, 0), -1);
        due("put 1025: texels", bank.count(1), 1024);
        due("add 32", bank.add(32, 2, 1), 0);
        due("add 32: levels", bank.about(0, 3), 6);
        due("add 32: last texel", texel(bank, 0, 0, 31, 31), 0x000400);
        due("add 32: last level", texel(bank, 0, 5, 0, 0), 0x7F0100);
        due("add 32: texel too far", texel(bank, 0, 0, 32, 31), MISSING);
        due("level of 32", level(bank, 0, 1L << 40, 1 << 24), 1);
        due("level of 32", level(bank, 0, 1L << 38, 1 << 24), 0);
        due("level of 32", level(bank, 0, (1L << 38) + 1, 1 << 24), 1);
        due("level of 32", level(bank, 0, 1L << 40, 1), 5);
    }

    private static void promise3Add() {
        TextureBank bank = new TextureBank();
        int number = 0;
        for (int side = 1; side <= 8; side *= 2) {
            putMany(bank, side * side);
            due("add side " + side, bank.add(side, side % 3, side & 1), number++);
            due("add: the text is used up", bank.count(1), 0);
            due("add: textures", bank.count(0), number);
        }
        TextureBank large = new TextureBank();
        putMany(large, 256);
        due("add side 16", large.add(16, 1, 1), 0);
        due("add side 16: levels", large.about(0, 3), 5);
        due("add side 16: a texel", texel(large, 0, 0, 15, 15), 0xFFFF00);
    }

    private static void promise3AddRefuses() {
        int[][] bad = {
            {0, 0, 0, 0}, {0, 1, 0, 0}, {1, 0, 0, 0}, {1, -1, 0, 0}, {4, -2, 0, 0}, {9, 3, 0, 0}, {25, 5, 0, 0},
            {36, 6, 0, 0}, {49, 7, 0, 0}, {0, 65536, 0, 0}, {0, 1 << 31, 0, 0}, {1, Integer.MAX_VALUE, 0, 0}, {16, 64, 0, 0},
            {3, 2, 0, 0}, {5, 2, 0, 0}, {1, 2, 0, 0}, {4, 1, 0, 0}, {4, 2, -1, 0}, {4, 2, 3, 0}, {4, 2, 0, -1},
            {4, 2, 0, 2}, {4, 2, Integer.MAX_VALUE, 0}, {4, 2, 0, Integer.MIN_VALUE}, {4, 2, 256, 0}, {4, 2, 0, 256},
        };
        for (int[] row : bad) {
            TextureBank bank = new TextureBank();
            putMany(bank, row[0]);
            String what = "add(" + row[1] + ", " + row[2] + ", " + row[3] + ") of " + row[0];
            due(what, bank.add(row[1], row[2], row[3]), -1);
            due(what + ": the text is used up", bank.count(1), 0);
            due(what + ": none more", bank.count(0), 0);
        }
    }

    private static void promise3AddUpToTheMost() {
        TextureBank bank = new TextureBank();
        for (int i = 0; i < 8; i++) {
            bank.put(i, 0, 0);
            due("add " + i, bank.add(1, 0, 0), i);
        }
        bank.put(9, 9, 9);
        due("add a ninth", bank.add(1, 0, 0), -1);
        due("add a ninth: the text is used up", bank.count(1), 0);
        due("add a ninth: none more", bank.count(0), 8);
        for (int i = 0; i < 8; i++) {
            due("eight textures: " + i, texel(bank, i, 0, 0, 0), i * 65536);
        }
        due("eight textures: no ninth", texel(bank, 8, 0, 0, 0), MISSING);
    }

    private static void promise4Clear() {
        TextureBank bank = new TextureBank();
        bank.clear();
        due("clear of none", bank.count(0), 0);
        putMany(bank, 16);
        bank.add(4, 1, 1);
        bank.put(5, 6, 7);
        bank.clear();
        due("clear", bank.count(0), 0);
        due("clear: the text stays", bank.count(1), 1);
        due("clear: about", bank.about(0, 0), -1);
        due("clear: texel", texel(bank, 0, 0, 0, 0), MISSING);
        due("clear: lookUp", lookUp(bank, 0, 0, 0, 0), MISSING);
        due("clear: level", level(bank, 0, 0, 1), MISSING);
        due("clear: numbers from 0 on", bank.add(1, 0, 0), 0);
        due("clear: the new one", texel(bank, 0, 0, 0, 0), 0x050607);
        due("clear: the new one's side", bank.about(0, 0), 1);
        due("clear: the new one's levels", bank.about(0, 3), 1);
        due("clear: no level of the old", texel(bank, 0, 1, 0, 0), MISSING);
        due("clear: no texel of the old", texel(bank, 0, 0, 1, 1), MISSING);
        due("clear: wrap and soft are new", bank.about(0, 1) + bank.about(0, 2), 0);
    }

    private static void promise5Level() {
        TextureBank bank = new TextureBank();
        putMany(bank, 64);
        bank.add(8, 0, 0);
        long edge = 16777216L / 64;
        for (int area : new int[] {1, 3, 1000}) {
            long most = edge * area;
            due("level of 0", level(bank, 0, 0, area), 0);
            for (int wanted = 0; wanted < 3; wanted++) {
                due("level at edge " + wanted, level(bank, 0, most, area), wanted);
                due("level behind edge " + wanted, level(bank, 0, most + 1, area), wanted + 1);
                most *= 4;
            }
            due("level: the last one", level(bank, 0, most + 1, area), 3);
            due("level: the last one", level(bank, 0, 1L << 40, area), 3);
        }
        due("level of the greatest area", level(bank, 0, 1L << 40, 1 << 24), 0);
        bank.put(1, 1, 1);
        bank.add(1, 0, 0);
        due("level of one texel", level(bank, 1, 1L << 40, 1), 0);
    }

    private static void promise5LevelRefuses() {
        TextureBank bank = new TextureBank();
        putMany(bank, 4);
        bank.add(2, 0, 0);
        due("level: spread -1", level(bank, 0, -1, 1), WRONG_ARGUMENT);
        due("level: spread 2^40 + 1", level(bank, 0, (1L << 40) + 1, 1), WRONG_ARGUMENT);
        due("level: spread least", level(bank, 0, Long.MIN_VALUE, 1), WRONG_ARGUMENT);
        due("level: spread most", level(bank, 0, Long.MAX_VALUE, 1), WRONG_ARGUMENT);
        due("level: area 0", level(bank, 0, 0, 0), WRONG_ARGUMENT);
        due("level: area -1", level(bank, 0, 0, -1), WRONG_ARGUMENT);
        due("level: area 2^24 + 1", level(bank, 0, 0, (1 << 24) + 1), WRONG_ARGUMENT);
        due("level: area 2^24", level(bank, 0, 0, 1 << 24), 0);
        due("level: no texture -1", level(bank, -1, 0, 1), MISSING);
        due("level: no texture 1", level(bank, 1, 0, 1), MISSING);
        due("level: no texture, and a wrong spread", level(bank, 1, -1, 0), MISSING);
        due("level: no texture least", level(bank, Integer.MIN_VALUE, 0, 1), MISSING);
        due("level: no texture most", level(bank, Integer.MAX_VALUE, 0, 1), MISSING);
    }

    private static void promise5LevelOfTheGreatest() {
        TextureBank bank = new TextureBank();
        putMany(bank, 256);
        bank.add(16, 0, 0);
        due("level of 16", level(bank, 0, 1L << 40, 1 << 24), 0);
        due("level of 16", level(bank, 0, 1L << 40, (1 << 24) - 1), 1);
        due("level of 16", level(bank, 0, 1L << 40, 1), 4);
    }

    private static void promise6LookUpNearest() {
        int[][] dueColumns = {
            // u, round, the last one, to and fro, of a side of 4
            {0, 0, 0, 0}, {16383, 0, 0, 0}, {16384, 1, 1, 1}, {65535, 3, 3, 3}, {65536, 0, 3, 3}, {81919, 0, 3, 3},
            {81920, 1, 3, 2}, {131071, 3, 3, 0}, {131072, 0, 3, 0}, {147456, 1, 3, 1}, {-1, 3, 0, 0}, {-16384, 3, 0, 0},
            {-16385, 2, 0, 1}, {-65536, 0, 0, 3}, {-65537, 3, 0, 3}, {-131072, 0, 0, 0}, {-131073, 3, 0, 0},
            {-16777216, 0, 0, 0}, {16777216, 0, 3, 0}, {16777215, 3, 3, 0}, {-16777215, 0, 0, 0},
        };
        for (int wrap = 0; wrap < 3; wrap++) {
            TextureBank bank = new TextureBank();
            putMany(bank, 16);
            bank.add(4, wrap, 0);
            for (int[] row : dueColumns) {
                int n = row[wrap + 1];
                due("nearest u " + row[0] + " wrap " + wrap, lookUp(bank, 0, 0, row[0], 0), colourOfPut(n));
                due("nearest v " + row[0] + " wrap " + wrap, lookUp(bank, 0, 0, 0, row[0]), colourOfPut(4 * n));
            }
            due("nearest in level 1", lookUp(bank, 0, 1, 32768, 32767), texel(bank, 0, 1, 1, 0));
            due("nearest in the last level", lookUp(bank, 0, 2, -16777216, 16777216), texel(bank, 0, 2, 0, 0));
        }
    }

    private static void promise6LookUpSoftly() {
        TextureBank bank = new TextureBank();
        int[] colours = {0x000000, 0xFF0000, 0x00FF00, 0x0000FF};
        for (int wrap = 0; wrap < 3; wrap++) {
            for (int colour : colours) {
                bank.put(colour >> 16, (colour >> 8) & 255, colour & 255);
            }
            bank.add(2, wrap, 1);
            due("soft at a middle", lookUp(bank, wrap, 0, 16384, 16384), 0x000000);
            due("soft at a middle", lookUp(bank, wrap, 0, 49152, 16384), 0xFF0000);
            due("soft at a middle", lookUp(bank, wrap, 0, 16384, 49152), 0x00FF00);
            due("soft at a middle", lookUp(bank, wrap, 0, 49152, 49152), 0x0000FF);
            due("soft between four", lookUp(bank, wrap, 0, 32768, 32768), 0x3F3F3F);
            due("soft between two", lookUp(bank, wrap, 0, 32768, 16384), 0x7F0000);
            // 128 / 65536 is the least share: DIV(255 * 1 * 256, 65536) is 0, with g = 2 it is 1.
            due("soft, g is 0", lookUp(bank, wrap, 0, 16384 + 127, 16384), 0x000000);
            due("soft, g is 1", lookUp(bank, wrap, 0, 16384 + 128, 16384), 0x000000);
            due("soft, g is 2", lookUp(bank, wrap, 0, 16384 + 256, 16384), 0x010000);
            due("soft, g is 255", lookUp(bank, wrap, 0, 49151, 16384), 0xFE0000);
            due("soft, k is 255", lookUp(bank, wrap, 0, 16384, 49151), 0x00FE00);
            // DIV(255 * 192 * 192, 65536), 255 * 192 * 64 and 255 * 64 * 64
            due("soft, three fourths", lookUp(bank, wrap, 0, 40960, 40960), 0x2F2F8F);
            due("soft in the last level", lookUp(bank, wrap, 1, 12345, -9), 0x3F3F3F);
        }
        due("soft round the end", lookUp(bank, 0, 0, 0, 16384), 0x7F0000);
        due("soft at the last one", lookUp(bank, 1, 0, 0, 16384), 0x000000);
        due("soft to and fro", lookUp(bank, 2, 0, 0, 16384), 0x000000);
        due("soft round the end", lookUp(bank, 0, 0, 65536, 16384), 0x7F0000);
        due("soft at the last one", lookUp(bank, 1, 0, 65536, 16384), 0xFF0000);
        due("soft to and fro", lookUp(bank, 2, 0, 65536, 16384), 0xFF0000);
        due("soft round the end", lookUp(bank, 0, 0, 98304, 16384), 0x7F0000);
        due("soft at the last one", lookUp(bank, 1, 0, 98304, 16384), 0xFF0000);
        due("soft to and fro", lookUp(bank, 2, 0, 98304, 16384), 0x7F0000);
        due("soft round the end", lookUp(bank, 0, 0, 16384, -16384), 0x00FF00);
        due("soft at the last one", lookUp(bank, 1, 0, 16384, -16384), 0x000000);
        due("soft to and fro", lookUp(bank, 2, 0, 16384, -49152), 0x00FF00);
    }

    private static void promise6LookUpRefuses() {
        TextureBank bank = new TextureBank();
        putMany(bank, 4);
        bank.add(2, 0, 1);
        int far = 16777216;
        due("lookUp at the far end", lookUp(bank, 0, 1, far, -far), texel(bank, 0, 1, 0, 0));
        for (int place : new int[] {far + 1, -far - 1, Integer.MAX_VALUE, Integer.MIN_VALUE}) {
            due("lookUp: u " + place, lookUp(bank, 0, 0, place, 0), WRONG_ARGUMENT);
            due("lookUp: v " + place, lookUp(bank, 0, 0, 0, place), WRONG_ARGUMENT);
            due("lookUp: no level, and u " + place, lookUp(bank, 0, 2, place, 0), MISSING);
            due("lookUp: no texture, and v " + place, lookUp(bank, 1, 0, 0, place), MISSING);
        }
        for (int none : new int[] {-1, 2, 32, 33, Integer.MAX_VALUE, Integer.MIN_VALUE}) {
            due("lookUp: no level " + none, lookUp(bank, 0, none, 0, 0), MISSING);
            due("lookUp: no texture " + none, lookUp(bank, none, 0, 0, 0), MISSING);
        }
    }

    private static void promise7Texel() {
        TextureBank bank = new TextureBank();
        putMany(bank, 16);
        bank.add(4, 0, 0);
        for (int y = 0; y < 4; y++) {
            for (int x = 0; x < 4; x++) {
                due("texel " + x + ", " + y, texel(bank, 0, 0, x, y), colourOfPut(4 * y + x));
            }
        }
        // Reds 0, 1, 4, 5 sum to 10, greens 0, 3, 12, 15 to 30.
        due("texel of level 1", texel(bank, 0, 1, 0, 0), 0x020700);
        due("texel of level 1, to the right", texel(bank, 0, 1, 1, 0), 0x040D00);
        due("texel of level 1, below", texel(bank, 0, 1, 0, 1), 0x0A1F00);
        for (int none : new int[] {-1, 4, Integer.MAX_VALUE, Integer.MIN_VALUE}) {
            due("texel: no column " + none, texel(bank, 0, 0, none, 0), MISSING);
            due("texel: no row " + none, texel(bank, 0, 0, 0, none), MISSING);
            due("texel: no level " + none, texel(bank, 0, none, 0, 0), MISSING);
            due("texel: no texture " + none, texel(bank, none, 0, 0, 0), MISSING);
        }
        due("texel: no level 3", texel(bank, 0, 3, 0, 0), MISSING);
        due("texel: no level 32", texel(bank, 0, 32, 0, 0), MISSING);
        due("texel: no column 2 of level 1", texel(bank, 0, 1, 2, 0), MISSING);
        due("texel: no row 2 of level 1", texel(bank, 0, 1, 0, 2), MISSING);
        due("texel: no row 1 of level 2", texel(bank, 0, 2, 0, 1), MISSING);
        due("texel: no texture 1", texel(bank, 1, 0, 0, 0), MISSING);
    }

    private static void promise7TexelMeansAreRoundedAtEachLevel() {
        TextureBank bank = new TextureBank();
        // Each quarter sums to 3, 4, 3, 4: means 0, 1, 0, 1, whose mean is 0.
        int[] reds = {1, 1, 1, 1, 1, 0, 1, 1, 1, 1, 1, 1, 1, 0, 1, 1};
        for (int red : reds) {
            bank.put(red, 255, 255 - red);
        }
        bank.add(4, 0, 0);
        due("mean", texel(bank, 0, 1, 0, 0), 0x00FFFE);
        due("mean", texel(bank, 0, 1, 1, 0), 0x01FFFE);
        due("mean of means", texel(bank, 0, 2, 0, 0), 0x00FFFE);
    }

    private static void promise8Lit() {
        TextureBank bank = new TextureBank();
        due("lit as it is", lit(bank, 0xFFFFFF, 0xFFFFFF, 65536), 0xFFFFFF);
        due("lit as it is", lit(bank, 0x123456, 0xFFFFFF, 65536), 0x123456);
        due("lit by the tint", lit(bank, 0xFFFFFF, 0x123456, 65536), 0x123456);
        due("lit by nothing", lit(bank, 0xFFFFFF, 0xFFFFFF, 0), 0);
        due("lit black", lit(bank, 0, 0xFFFFFF, 65536), 0);
        due("lit by a black tint", lit(bank, 0xFFFFFF, 0, 65536), 0);
        due("lit nearly", lit(bank, 0xFFFFFF, 0xFFFFFF, 65535), 0xFEFEFE);
        // Red DIV(200 * 100, 255) = 78, DIV(78 * 40000, 65536) = 47; green 254 * 254 gives 253, 154; blue 1 * 254 gives 0.
        due("lit, each by itself", lit(bank, 0xC8FE01, 0x64FEFE, 40000), 0x2F9A00);
        // Rounded twice: DIV(127 * 129, 255) = 64, DIV(64 * 65000, 65536) = 63.
        due("lit, rounded twice", lit(bank, 0x7F7F7F, 0x818181, 65000), 0x3F3F3F);
        for (int none : new int[] {-1, 16777216, Integer.MAX_VALUE, Integer.MIN_VALUE}) {
            due("lit: no colour " + none, lit(bank, none, 0, 0), WRONG_ARGUMENT);
            due("lit: no tint " + none, lit(bank, 0, none, 0), WRONG_ARGUMENT);
        }
        for (int light : new int[] {-1, 65537, Integer.MAX_VALUE, Integer.MIN_VALUE}) {
            due("lit: light " + light, lit(bank, 0, 0, light), WRONG_ARGUMENT);
        }
    }

    private static void promise9About() {
        TextureBank bank = new TextureBank();
        int number = 0;
        for (int side = 1; side <= 8; side *= 2) {
            putMany(bank, side * side);
            bank.add(side, number % 3, number % 2);
            due("about: side", bank.about(number, 0), side);
            due("about: wrap", bank.about(number, 1), number % 3);
            due("about: soft", bank.about(number, 2), number % 2);
            due("about: levels", bank.about(number, 3), number + 1);
            number++;
        }
        for (int none : new int[] {-1, 4, Integer.MAX_VALUE, Integer.MIN_VALUE}) {
            due("about: no what " + none, bank.about(0, none), -1);
            for (int what = 0; what < 4; what++) {
                due("about: no texture " + none, bank.about(none, what), -1);
            }
        }
    }

    private static void promise10Count() {
        TextureBank bank = new TextureBank();
        putMany(bank, 4);
        due("count: textures", bank.count(0), 0);
        due("count: texels", bank.count(1), 4);
        bank.add(2, 0, 0);
        due("count: textures", bank.count(0), 1);
        due("count: texels", bank.count(1), 0);
        for (int none : new int[] {-1, 2, Integer.MAX_VALUE, Integer.MIN_VALUE}) {
            due("count: no what " + none, bank.count(none), -1);
        }
    }

    private static void promise1BanksAreApart() {
        TextureBank one = new TextureBank();
        TextureBank other = new TextureBank();
        one.put(1, 1, 1);
        due("banks: the text is one's own", other.count(1), 0);
        one.add(1, 0, 0);
        due("banks: the textures are one's own", other.count(0), 0);
        other.put(2, 2, 2);
        other.add(1, 0, 0);
        due("banks: the texels are one's own", texel(one, 0, 0, 0, 0), 0x010101);
    }

    /** Texel n has red n and, where that stays a number, green 3 n; so each of up to 256 can be told apart. */
    private static void putMany(TextureBank bank, int texels) {
        for (int n = 0; n < texels; n++) {
            bank.put(n, texels > 64 ? n : 3 * n, 0);
        }
    }

    /** Of texel n of a text of at most 64. */
    private static long colourOfPut(int n) {
        return n * 65536L + 3 * n * 256L;
    }

    private static long level(TextureBank bank, int texture, long spread, int area) {
        try {
            return bank.level(texture, spread, area);
        } catch (NoSuchElementException e) {
            return MISSING;
        } catch (IllegalArgumentException e) {
            return WRONG_ARGUMENT;
        }
    }

    private static long lookUp(TextureBank bank, int texture, int level, int u, int v) {
        try {
            return bank.lookUp(texture, level, u, v);
        } catch (NoSuchElementException e) {
            return MISSING;
        } catch (IllegalArgumentException e) {
            return WRONG_ARGUMENT;
        }
    }

    private static long texel(TextureBank bank, int texture, int level, int x, int y) {
        try {
            return bank.texel(texture, level, x, y);
        } catch (NoSuchElementException e) {
            return MISSING;
        }
    }

    private static long lit(TextureBank bank, int colour, int tint, int light) {
        try {
            return bank.lit(colour, tint, light);
        } catch (IllegalArgumentException e) {
            return WRONG_ARGUMENT;
        }
    }

    private static void due(String call, long got, long want) {
        if (got != want) {
            wrong++;
            System.out.println(call + " answered " + told(got) + ", due is " + told(want));
        }
    }

    private static String told(long answer) {
        if (answer == MISSING) {
            return "throws.NoSuchElementException";
        }
        return answer == WRONG_ARGUMENT ? "throws.IllegalArgumentException" : answer + " (0x" + Long.toHexString(answer) + ")";
    }
}
