import java.util.NoSuchElementException;

/** Textures in levels of half the size each, looked up at fixed places and lit. */
public final class TextureBank {
    public static final int NONE = -1;

    private static final int MOST_TEXTURES = 8;
    private static final int MOST_SIDE = 32;
    private static final int MOST_TEXELS = MOST_SIDE * MOST_SIDE;
    // 1024 + 256 + 64 + 16 + 4 + 1: the greatest texture with all its levels.
    private static final int MOST_TEXELS_OF_ALL_LEVELS = 1365;

    private static final int MOST_NUMBER = 255;
    private static final int MOST_COLOUR = 0xFFFFFF;
    private static final int RED_SHIFT = 16;
    private static final int GREEN_SHIFT = 8;
    private static final int BLUE_SHIFT = 0;

    private static final int ROUND = 0;
    private static final int THE_LAST_ONE = 1;
    private static final int TO_AND_FRO = 2;
    private static final int NEAREST = 0;
    private static final int SOFTLY = 1;

    private static final long ONE = 65536L;
    private static final long HALF = 32768L;
    private static final int FARTHEST_PLACE = 16777216;

    private static final long MOST_SPREAD = 1L << 40;
    private static final int MOST_AREA = 1 << 24;
    private static final long SPREAD_OF_AN_AREA = 16777216L;

    private final int[] text;
    private int textLength;
    private final Texture[] textures;
    private int textureCount;

    public TextureBank() {
        text = new int[MOST_TEXELS];
        textLength = 0;
        textures = new Texture[MOST_TEXTURES];
        for (int i = 0; i < MOST_TEXTURES; i++) {
            textures[i] = new Texture();
        }
        textureCount = 0;
    }

    public int put(int red, int green, int blue) {
        if (!isNumber(red) || !isNumber(green) || !isNumber(blue) || textLength >= MOST_TEXELS) {
            return NONE;
        }
        text[textLength] = colourOf(red, green, blue);
        textLength++;
        return textLength;
    }

    public int add(int side, int wrap, int soft) {
        int texels = textLength;
        textLength = 0;
        if (textureCount >= MOST_TEXTURES || !isSide(side) || !isWrap(wrap) || !isSoft(soft)) {
            return NONE;
        }
        if (texels != side * side) {
            return NONE;
        }
        int number = textureCount;
        textures[number].fill(text, side, wrap, soft);
        textureCount++;
        return number;
    }

    public void clear() {
        textureCount = 0;
    }

    public int level(int texture, long spread, int area) throws NoSuchElementException, IllegalArgumentException {
        Texture found = find(texture);
        if (found == null) {
            throw new NoSuchElementException("no such texture");
        }
        if (spread < 0 || spread > MOST_SPREAD) {
            throw new IllegalArgumentException("spread is not 0 .. 2^40");
        }
        if (area < 1 || area > MOST_AREA) {
            throw new IllegalArgumentException("area is not 1 .. 2^24");
        }
        return found.levelFor(spread, area);
    }

    public int lookUp(int texture, int level, int u, int v) throws NoSuchElementException, IllegalArgumentException {
        Texture found = find(texture);
        if (found == null || !found.hasLevel(level)) {
            throw new NoSuchElementException("no such texture or level");
        }
        if (!isPlace(u) || !isPlace(v)) {
            throw new IllegalArgumentException("a place is not -16777216 .. 16777216");
        }
        return found.colourAt(found.sideOf(level), u, v);
    }

    public int texel(int texture, int level, int x, int y) throws NoSuchElementException {
        Texture found = find(texture);
        if (found == null || !found.hasLevel(level)) {
            throw new NoSuchElementException("no such texture or level");
        }
        int colour = found.colourIn(found.sideOf(level), x, y);
        if (colour == NONE) {
            throw new NoSuchElementException("no such texel");
        }
        return colour;
    }

    public int lit(int colour, int tint, int light) throws IllegalArgumentException {
        if (!isColour(colour) || !isColour(tint)) {
            throw new IllegalArgumentException("no colour");
        }
        if (light < 0 || light > ONE) {
            throw new IllegalArgumentException("light is not 0 .. 65536");
        }
        return colourOf(
                litNumber(colour, tint, light, RED_SHIFT),
                litNumber(colour, tint, light, GREEN_SHIFT),
                litNumber(colour, tint, light, BLUE_SHIFT));
    }

    public int about(int texture, int what) {
        Texture found = find(texture);
        if (found == null) {
            return NONE;
        }
        switch (what) {
            case 0:
                return found.side;
            case 1:
                return found.wrap;
            case 2:
                return found.soft;
            case 3:
                return found.levels;
            default:
                return NONE;
        }
    }

    public int count(int what) {
        switch (what) {
            case 0:
                return textureCount;
            case 1:
                return textLength;
            default:
                return NONE;
        }
    }

    private Texture find(int texture) {
        if (texture < 0 || texture >= textureCount) {
            return null;
        }
        return textures[texture];
    }

    private static boolean isNumber(int number) {
        return number >= 0 && number <= MOST_NUMBER;
    }

    private static boolean isColour(int colour) {
        return colour >= 0 && colour <= MOST_COLOUR;
    }

    private static boolean isSide(int side) {
        return side >= 1 && side <= MOST_SIDE && Integer.bitCount(side) == 1;
    }

    private static boolean isWrap(int wrap) {
        return wrap == ROUND || wrap == THE_LAST_ONE || wrap == TO_AND_FRO;
    }

    private static boolean isSoft(int soft) {
        return soft == NEAREST || soft == SOFTLY;
    }

    private static boolean isPlace(int place) {
        return place >= -FARTHEST_PLACE && place <= FARTHEST_PLACE;
    }

    private static int colourOf(int red, int green, int blue) {
        return (red << RED_SHIFT) + (green << GREEN_SHIFT) + (blue << BLUE_SHIFT);
    }

    private static long numberOf(int colour, int shift) {
        return (colour >> shift) & MOST_NUMBER;
    }

    private static int litNumber(int colour, int tint, int light, int shift) {
        long tinted = Math.floorDiv(numberOf(colour, shift) * numberOf(tint, shift), 255L);
        return (int) Math.floorDiv(tinted * light, ONE);
    }

    /** Where one texture stands with all its levels; it is filled anew when its number is given again. */
    private static final class Texture {
        private final int[] colours = new int[MOST_TEXELS_OF_ALL_LEVELS];
        private int side;
        private int wrap;
        private int soft;
        private int levels;

        private void fill(int[] text, int newSide, int newWrap, int newSoft) {
            side = newSide;
            wrap = newWrap;
            soft = newSoft;
            levels = 1;
            System.arraycopy(text, 0, colours, startOf(newSide), newSide * newSide);
            for (int s = newSide / 2; s > 0; s = s / 2) {
                fillFromDouble(s);
                levels++;
            }
        }

        private void fillFromDouble(int s) {
            int start = startOf(s);
            for (int y = 0; y < s; y++) {
                for (int x = 0; x < s; x++) {
                    colours[start + y * s + x] = meanOfFour(2 * s, 2 * x, 2 * y);
                }
            }
        }

        private int meanOfFour(int s, int x, int y) {
            int c00 = colourIn(s, x, y);
            int c10 = colourIn(s, x + 1, y);
            int c01 = colourIn(s, x, y + 1);
            int c11 = colourIn(s, x + 1, y + 1);
            return colourOf(
                    meanNumber(c00, c10, c01, c11, RED_SHIFT),
                    meanNumber(c00, c10, c01, c11, GREEN_SHIFT),
                    meanNumber(c00, c10, c01, c11, BLUE_SHIFT));
        }

        private static int meanNumber(int c00, int c10, int c01, int c11, int shift) {
            long sum = numberOf(c00, shift) + numberOf(c10, shift) + numberOf(c01, shift) + numberOf(c11, shift);
            return (int) Math.floorDiv(sum, 4L);
        }

        /**
         * Levels stand from the smallest on, each at a start of its own for its side:
         * 1 + 4 + 16 + .. of all smaller ones is (s * s - 1) / 3.
         */
        private static int startOf(int s) {
            return (s * s - 1) / 3;
        }

        private boolean hasLevel(int level) {
            return level >= 0 && level < levels;
        }

        private int sideOf(int level) {
            return side >> level;
        }

        /** NONE if the level with this side has no such column or row. */
        private int colourIn(int s, int x, int y) {
            if (s > MOST_SIDE || x < 0 || x >= s || y < 0 || y >= s) {
                return NONE;
            }
            return colours[startOf(s) + y * s + x];
        }

        private int levelFor(long spread, long area) {
            long texels = spread * side * side;
            long room = area * SPREAD_OF_AN_AREA;
            int last = levels - 1;
            for (int level = 0; level < last; level++) {
                if (texels <= room) {
                    return level;
                }
                room = room * 4;
            }
            return last;
        }

        private int colourAt(int s, long u, long v) {
            long a = u * s;
            long b = v * s;
            if (soft == SOFTLY) {
                return softColour(s, a - HALF, b - HALF);
            }
            return colourIn(s, wrapped(Math.floorDiv(a, ONE), s), wrapped(Math.floorDiv(b, ONE), s));
        }

        private int softColour(int s, long a, long b) {
            long i = Math.floorDiv(a, ONE);
            long j = Math.floorDiv(b, ONE);
            long g = Math.floorDiv(a - ONE * i, 256L);
            long k = Math.floorDiv(b - ONE * j, 256L);
            int left = wrapped(i, s);
            int right = wrapped(i + 1, s);
            int upper = wrapped(j, s);
            int lower = wrapped(j + 1, s);
            int c00 = colourIn(s, left, upper);
            int c10 = colourIn(s, right, upper);
            int c01 = colourIn(s, left, lower);
            int c11 = colourIn(s, right, lower);
            int red = softNumber(mixed(c00, c10, g, RED_SHIFT), mixed(c01, c11, g, RED_SHIFT), k);
            int green = softNumber(mixed(c00, c10, g, GREEN_SHIFT), mixed(c01, c11, g, GREEN_SHIFT), k);
            int blue = softNumber(mixed(c00, c10, g, BLUE_SHIFT), mixed(c01, c11, g, BLUE_SHIFT), k);
            return colourOf(red, green, blue);
        }

        // Not divided here: the document rounds once, when all four are summed.
        private static long mixed(int left, int right, long g, int shift) {
            return numberOf(left, shift) * (256 - g) + numberOf(right, shift) * g;
        }

        private static int softNumber(long upper, long lower, long k) {
            return (int) Math.floorDiv(upper * (256 - k) + lower * k, ONE);
        }

        /** A side is a power of two, so a mask is the modulo, of numbers below 0 too. */
        private int wrapped(long number, int s) {
            if (wrap == ROUND) {
                return (int) (number & (s - 1));
            }
            if (wrap == THE_LAST_ONE) {
                return (int) Math.max(0L, Math.min(number, s - 1L));
            }
            int folded = (int) (number & (2 * s - 1));
            return folded >= s ? 2 * s - 1 - folded : folded;
        }
    }
}
