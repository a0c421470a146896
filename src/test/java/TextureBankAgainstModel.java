import java.math.BigInteger;
import java.util.ArrayList;
import java.util.List;
import java.util.Random;

/** Long mixed runs, each answer held against a slow model that follows the document's words one by one. */
public final class TextureBankAgainstModel {
    private static final int RUNS = 1500;
    private static final int CALLS = 512;
    private static final int[] EDGES = {
        0, 1, -1, 2, 255, 256, 8192, 16383, 16384, 32767, 32768, 65535, 65536, 65537, -32768, -65536, 16777215,
        16777216, 16777217, -16777215, -16777216, -16777217, Integer.MAX_VALUE, Integer.MIN_VALUE,
    };
    private static int wrong = 0;

    public static void main(String[] args) {
        for (int run = 0; run < RUNS && wrong < 20; run++) {
            play(run, new Random(run));
        }
        System.out.println(wrong == 0 ? "all answers are as due" : wrong + " answers are not as due");
        if (wrong != 0) {
            System.exit(1);
        }
    }

    private static void play(int run, Random random) {
        TextureBank bank = new TextureBank();
        Model model = new Model();
        int fixedSide = 1 << random.nextInt(5);
        int calls = 0;
        while (calls < CALLS) {
            long[] call = aCall(random, model);
            if (call[0] == 1 && random.nextInt(8) != 0) {
                int side = random.nextInt(3) == 0 ? 1 << random.nextInt(4) : fixedSide;
                calls += fillText(run, random, bank, model, side, CALLS - calls - 1);
                call[1] = side;
            }
            compare(run, bank, model, call);
            calls++;
        }
    }

    private static int fillText(int run, Random random, TextureBank bank, Model model, int side, int most) {
        int made = 0;
        while (made < most && model.text.size() < side * side) {
            compare(run, bank, model, new long[] {0, random.nextInt(256), random.nextInt(256), random.nextInt(256), 0});
            made++;
        }
        return made;
    }

    private static long[] aCall(Random random, Model model) {
        int kind = random.nextInt(40);
        int texture = random.nextInt(model.textures.size() + 1) - (random.nextInt(30) == 0 ? 1 : 0);
        int level = random.nextInt(12) == 0 ? random.nextInt(40) - 2 : random.nextInt(3);
        if (kind < 4) {
            return new long[] {0, random.nextInt(270) - 7, random.nextInt(256), random.nextInt(258) - 1, 0};
        }
        if (kind < 8) {
            return new long[] {1, random.nextInt(36) - 2, random.nextInt(20) == 0 ? 3 : random.nextInt(3),
                random.nextInt(20) == 0 ? -1 : random.nextInt(2), 0};
        }
        if (kind == 8) {
            return new long[] {random.nextInt(3) == 0 ? 2 : 8, random.nextInt(5) - 1, 0, 0, 0};
        }
        if (kind < 14) {
            long spread = random.nextInt(12) == 0 ? random.nextLong() : random.nextLong() >>> (23 + random.nextInt(41));
            return new long[] {3, texture, spread, random.nextInt(20) == 0 ? place(random) : 1 + (random.nextInt(1 << 24) >> random.nextInt(25)), 0};
        }
        if (kind < 28) {
            return new long[] {4, texture, level, place(random), place(random)};
        }
        if (kind < 33) {
            return new long[] {5, texture, level, random.nextInt(19) - 1, random.nextInt(19) - 1};
        }
        if (kind < 37) {
            return new long[] {6, colour(random), colour(random), random.nextInt(10) == 0 ? place(random) : random.nextInt(65537), 0};
        }
        return new long[] {7, texture, random.nextInt(6) - 1, 0, 0};
    }

    private static int place(Random random) {
        int kind = random.nextInt(4);
        if (kind == 0) {
            return EDGES[random.nextInt(EDGES.length)];
        }
        return kind == 1 ? random.nextInt(33554433) - 16777216 : random.nextInt(400000) - 200000;
    }

    private static int colour(Random random) {
        return random.nextInt(20) == 0 ? place(random) : random.nextInt(1 << 24);
    }

    private static void compare(int run, TextureBank bank, Model model, long[] call) {
        String want = model.answer(call);
        String got = answer(bank, call);
        if (!got.equals(want)) {
            wrong++;
            System.out.println("run " + run + ": " + java.util.Arrays.toString(call) + " answered " + got + ", due is " + want);
        }
    }

    private static String answer(TextureBank bank, long[] call) {
        int a = (int) call[1];
        int b = (int) call[2];
        int c = (int) call[3];
        int d = (int) call[4];
        try {
            switch ((int) call[0]) {
                case 0: return "" + bank.put(a, b, c);
                case 1: return "" + bank.add(a, b, c);
                case 2: bank.clear(); return "";
                case 3: return "" + bank.level(a, call[2], c);
                case 4: return "" + bank.lookUp(a, b, c, d);
                case 5: return "" + bank.texel(a, b, c, d);
                case 6: return "" + bank.lit(a, b, c);
                case 7: return "" + bank.about(a, b);
                default: return "" + bank.count(a);
            }
        } catch (RuntimeException e) {
            return e.getClass().getSimpleName();
        }
    }

    private static long div(long a, long b) {
        BigInteger[] parts = BigInteger.valueOf(a).divideAndRemainder(BigInteger.valueOf(b));
        return parts[0].longValueExact() - (parts[1].signum() < 0 ? 1 : 0);
    }

    private static final class ModelTexture {
        int wrap;
        int soft;
        final List<int[][][]> levels = new ArrayList<>();

        int[] at(int[][][] rows, long x, long y) {
            return rows[inside(y, rows.length)][inside(x, rows.length)];
        }

        int inside(long n, int s) {
            if (n >= 0 && n <= s - 1) {
                return (int) n;
            }
            if (wrap == 1) {
                return n < 0 ? 0 : s - 1;
            }
            long period = wrap == 0 ? s : 2 * s;
            long rest = n - period * div(n, period);
            return (int) (rest >= s ? 2 * s - 1 - rest : rest);
        }

        long lookedUp(int[][][] rows, long u, long v) {
            long a = u * rows.length;
            long b = v * rows.length;
            if (soft == 0) {
                return colour(at(rows, div(a, 65536), div(b, 65536)));
            }
            a -= 32768;
            b -= 32768;
            long i = div(a, 65536);
            long j = div(b, 65536);
            long g = div(a - 65536 * i, 256);
            long k = div(b - 65536 * j, 256);
            int[] numbers = new int[3];
            for (int n = 0; n < 3; n++) {
                long sum = at(rows, i, j)[n] * (256 - g) * (256 - k) + at(rows, i + 1, j)[n] * g * (256 - k)
                    + at(rows, i, j + 1)[n] * (256 - g) * k + at(rows, i + 1, j + 1)[n] * g * k;
                numbers[n] = (int) div(sum, 65536);
            }
            return colour(numbers);
        }
    }

    private static long colour(int[] numbers) {
        return numbers[0] * 65536L + numbers[1] * 256L + numbers[2];
    }

    private static final class Model {
        final List<int[]> text = new ArrayList<>();
        final List<ModelTexture> textures = new ArrayList<>();

        String answer(long[] call) {
            switch ((int) call[0]) {
                case 0: return "" + put(call);
                case 1: return "" + add(call);
                case 2: textures.clear(); return "";
                case 3: return level(call);
                case 4: return lookUp(call);
                case 5: return texel(call);
                case 6: return lit(call);
                case 7: return "" + about(call);
                default: return "" + (call[1] == 0 ? textures.size() : call[1] == 1 ? text.size() : -1);
            }
        }

        ModelTexture texture(long number) {
            return number >= 0 && number < textures.size() ? textures.get((int) number) : null;
        }

        int[][][] rows(long texture, long level) {
            ModelTexture t = texture(texture);
            return t != null && level >= 0 && level < t.levels.size() ? t.levels.get((int) level) : null;
        }

        int put(long[] call) {
            for (int n = 1; n <= 3; n++) {
                if (call[n] < 0 || call[n] > 255) {
                    return -1;
                }
            }
            if (text.size() == 1024) {
                return -1;
            }
            text.add(new int[] {(int) call[1], (int) call[2], (int) call[3]});
            return text.size();
        }

        int add(long[] call) {
            List<int[]> texels = new ArrayList<>(text);
            text.clear();
            boolean sideIsOne = List.of(1L, 2L, 4L, 8L, 16L, 32L).contains(call[1]);
            if (textures.size() == 8 || !sideIsOne || call[2] < 0 || call[2] > 2 || call[3] < 0 || call[3] > 1
                || texels.size() != call[1] * call[1]) {
                return -1;
            }
            ModelTexture t = new ModelTexture();
            t.wrap = (int) call[2];
            t.soft = (int) call[3];
            int side = (int) call[1];
            int[][][] rows = new int[side][side][];
            for (int n = 0; n < texels.size(); n++) {
                rows[n / side][n % side] = texels.get(n);
            }
            t.levels.add(rows);
            while (rows.length > 1) {
                rows = half(rows);
                t.levels.add(rows);
            }
            textures.add(t);
            return textures.size() - 1;
        }

        int[][][] half(int[][][] rows) {
            int side = rows.length / 2;
            int[][][] out = new int[side][side][3];
            for (int y = 0; y < rows.length; y++) {
                for (int x = 0; x < rows.length; x++) {
                    for (int n = 0; n < 3; n++) {
                        out[y / 2][x / 2][n] += rows[y][x][n];
                    }
                }
            }
            for (int[][] row : out) {
                for (int[] texel : row) {
                    for (int n = 0; n < 3; n++) {
                        texel[n] /= 4;
                    }
                }
            }
            return out;
        }

        String level(long[] call) {
            ModelTexture t = texture(call[1]);
            if (t == null) {
                return "NoSuchElementException";
            }
            if (call[2] < 0 || call[2] > 1099511627776L || call[3] < 1 || call[3] > 16777216) {
                return "IllegalArgumentException";
            }
            BigInteger side = BigInteger.valueOf(t.levels.get(0).length);
            BigInteger spread = BigInteger.valueOf(call[2]).multiply(side).multiply(side);
            for (int n = 0; n < t.levels.size(); n++) {
                BigInteger room = BigInteger.valueOf(call[3]).multiply(BigInteger.valueOf(16777216))
                    .multiply(BigInteger.valueOf(4).pow(n));
                if (spread.compareTo(room) <= 0) {
                    return "" + n;
                }
            }
            return "" + (t.levels.size() - 1);
        }

        String lookUp(long[] call) {
            int[][][] rows = rows(call[1], call[2]);
            if (rows == null) {
                return "NoSuchElementException";
            }
            if (Math.abs(call[3]) > 16777216 || Math.abs(call[4]) > 16777216) {
                return "IllegalArgumentException";
            }
            return "" + texture(call[1]).lookedUp(rows, call[3], call[4]);
        }

        String texel(long[] call) {
            int[][][] rows = rows(call[1], call[2]);
            if (rows == null || call[3] < 0 || call[3] >= rows.length || call[4] < 0 || call[4] >= rows.length) {
                return "NoSuchElementException";
            }
            return "" + colour(rows[(int) call[4]][(int) call[3]]);
        }

        String lit(long[] call) {
            if (call[1] < 0 || call[1] > 16777215 || call[2] < 0 || call[2] > 16777215 || call[3] < 0 || call[3] > 65536) {
                return "IllegalArgumentException";
            }
            int[] numbers = new int[3];
            long unit = 65536;
            for (int n = 0; n < 3; n++) {
                long product = (call[1] / unit % 256) * (call[2] / unit % 256);
                numbers[n] = (int) div(div(product, 255) * call[3], 65536);
                unit /= 256;
            }
            return "" + colour(numbers);
        }

        int about(long[] call) {
            ModelTexture t = texture(call[1]);
            if (t == null || call[2] < 0 || call[2] > 3) {
                return -1;
            }
            return new int[] {t.levels.get(0).length, t.wrap, t.soft, t.levels.size()}[(int) call[2]];
        }
    }
}
