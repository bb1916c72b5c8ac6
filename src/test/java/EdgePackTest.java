import java.util.Arrays;
import java.util.function.ToIntFunction;

/**
 * The edges of promises 16, 18 and 19: the last number that fits and the first that does not, the
 * widths on both sides of where they change, and what is full.
 */
public final class EdgePackTest {
    private static final int NONE = PackedCodec.NONE;
    private static final int BAD = PackedCodec.BAD;
    private static final int FULL = PackedCodec.FULL;
    private static final int MISFIT = PackedCodec.MISFIT;
    private static final long MOST = 1L << 62;
    private static final long BOUND = 1L << 61;

    public static void main(String[] args) {
        truth();
        nothing();
        integerWithNone();
        integerWithLow();
        integerWithBoth();
        integerWithMarker();
        rangedBits();
        rangedBytes();
        rangedByteSteps();
        lowByteSteps();
        signedByteSteps();
        enumerationItems();
        enumerationMarker();
        small();
        sizes();
        sizesWithoutHigh();
        sizeBits();
        lengthBits();
        rowItems();
        bitsAlign();
        octetsAlign();
        textWidth();
        textAlign();
        optional();
        additions();
        howManyAdditions();
        choiceNumbers();
        noneToAlign();
        wholeWithoutBits();
        openLength();
        misfitIsTheFirst();
        misfitPlaces();
        badTypes();
        thousandBytes();
        thousandBytesInOpen();
        misfitAheadOfFull();
        place();
        bits();
        Due.end();
    }

    private static long[] row(long... numbers) {
        return numbers;
    }

    /** So many numbers, then that many of one kind. */
    private static long[] times(int n, long each) {
        long[] numbers = new long[n + 1];
        Arrays.fill(numbers, each);
        numbers[0] = n;
        return numbers;
    }

    /**
     * Packed behind so many bits 1, so that an ALIGN shows, it takes them to so many bits; and back.
     * Of many numbers some are looked at: an object has 512 calls.
     */
    private static void fits(String what, int ahead, int bits, ToIntFunction<PackedCodec> tell, long... numbers) {
        Bench b = new Bench();
        int front = b.codec.row(0, ahead, ahead);
        int both = b.sequence(false, front, 0, tell.applyAsInt(b.codec), 0);
        long[] value = Arrays.copyOf(times(ahead, 1), ahead + 1 + numbers.length);
        System.arraycopy(numbers, 0, value, ahead + 1, numbers.length);
        b.setValue(value);
        Due.is(what + ": pack", Math.max(1, (bits + 7) / 8), b.codec.pack(both));
        Due.is(what + ": place", NONE, b.codec.place());
        Due.is(what + ": bits", bits, b.codec.bits());
        Due.is(what + ": back", value.length, b.codec.unpack(both));
        int step = value.length > 150 ? 20 : 1;
        for (int i = value.length - 1; i >= 0; i -= step) {
            Due.is(what + ": number " + i, value[i], b.codec.number(i));
        }
    }

    private static void misfits(String what, int place, ToIntFunction<PackedCodec> tell, long... numbers) {
        Bench b = new Bench();
        b.codec.feed(99);
        b.misfits(what, tell.applyAsInt(b.codec), place, numbers);
    }

    private static void truth() {
        ToIntFunction<PackedCodec> type = x -> x.simple(0);
        misfits("TRUTH least", 0, type, Long.MIN_VALUE);
        misfits("TRUTH -1", 0, type, -1);
        fits("TRUTH 0", 1, 2, type, 0);
        fits("TRUTH 1", 1, 2, type, 1);
        misfits("TRUTH 2", 0, type, 2);
        misfits("TRUTH most", 0, type, Long.MAX_VALUE);
        misfits("TRUTH 2^32", 0, type, 1L << 32);
        misfits("TRUTH, none", 0, type);
        misfits("TRUTH, one too many", 1, type, 1, 0);
    }

    private static void nothing() {
        ToIntFunction<PackedCodec> type = x -> x.simple(1);
        fits("NOTHING", 0, 0, type);
        fits("NOTHING", 1, 1, type);
        misfits("NOTHING, one too many", 0, type, 0);
        misfits("NOTHING, two too many", 0, type, 0, 0);
    }

    private static void integerWithNone() {
        ToIntFunction<PackedCodec> type = x -> x.integer(0, 0, 0, false);
        misfits("INTEGER least", 0, type, Long.MIN_VALUE);
        misfits("INTEGER - 2^62 - 1", 0, type, -MOST - 1);
        fits("INTEGER - 2^62", 1, 8 + 8 + 64, type, -MOST);
        fits("INTEGER 2^62", 1, 8 + 8 + 64, type, MOST);
        misfits("INTEGER 2^62 + 1", 0, type, MOST + 1);
        misfits("INTEGER most", 0, type, Long.MAX_VALUE);
    }

    private static void integerWithLow() {
        for (long low : row(-BOUND, -5, 0, 5, BOUND)) {
            ToIntFunction<PackedCodec> type = x -> x.integer(low, 0, 1, false);
            misfits("from LOW on, least", 0, type, Long.MIN_VALUE);
            misfits("from LOW on, LOW - 1", 0, type, low - 1);
            fits("from LOW on, LOW", 1, 24, type, low);
            fits("from LOW on, LOW + 1", 1, 24, type, low + 1);
            fits("from LOW on, 2^62", 1, 8 + 8 + 64, type, MOST);
            misfits("from LOW on, 2^62 + 1", 0, type, MOST + 1);
            misfits("from LOW on, most", 0, type, Long.MAX_VALUE);
        }
    }

    private static void integerWithBoth() {
        for (long low : row(-BOUND, -5, 0, BOUND - 9)) {
            ToIntFunction<PackedCodec> type = x -> x.integer(low, low + 9, 2, false);
            misfits("LOW .. HIGH, least", 0, type, Long.MIN_VALUE);
            misfits("LOW .. HIGH, LOW - 1", 0, type, low - 1);
            fits("LOW .. HIGH, LOW", 1, 5, type, low);
            fits("LOW .. HIGH, HIGH", 1, 5, type, low + 9);
            misfits("LOW .. HIGH, HIGH + 1", 0, type, low + 10);
            misfits("LOW .. HIGH, most", 0, type, Long.MAX_VALUE);
        }
        misfits("LOW = HIGH, one less", 0, x -> x.integer(7, 7, 2, false), 6);
        misfits("LOW = HIGH, one more", 0, x -> x.integer(7, 7, 2, false), 8);
    }

    private static void integerWithMarker() {
        ToIntFunction<PackedCodec> type = x -> x.integer(-5, 4, 2, true);
        misfits("with a MARKER, - 2^62 - 1", 0, type, -MOST - 1);
        fits("with a MARKER, - 2^62", 1, 8 + 8 + 64, type, -MOST);
        fits("with a MARKER, LOW - 1", 1, 8 + 8 + 8, type, -6);
        fits("with a MARKER, LOW", 1, 1 + 1 + 4, type, -5);
        fits("with a MARKER, HIGH", 1, 1 + 1 + 4, type, 4);
        fits("with a MARKER, HIGH + 1", 1, 8 + 8 + 8, type, 5);
        fits("with a MARKER, 2^62", 1, 8 + 8 + 64, type, MOST);
        misfits("with a MARKER, 2^62 + 1", 0, type, MOST + 1);
        ToIntFunction<PackedCodec> widest = x -> x.integer(-BOUND, BOUND, 2, true);
        fits("widest with a MARKER, LOW - 1", 1, 8 + 8 + 64, widest, -BOUND - 1);
        fits("widest with a MARKER, LOW", 1, 8 + 8, widest, -BOUND);
        fits("widest with a MARKER, HIGH", 1, 8 + 64, widest, BOUND);
        fits("widest with a MARKER, HIGH + 1", 1, 8 + 8 + 64, widest, BOUND + 1);
    }

    /** R up to 255 in as few bits as R - 1 fits in, 256 in a byte behind an ALIGN, then two. */
    private static void rangedBits() {
        int[][] ranges = {
            {1, 0}, {2, 1}, {3, 2}, {4, 2}, {5, 3}, {8, 3}, {9, 4}, {16, 4}, {17, 5}, {32, 5}, {33, 6}, {64, 6},
            {65, 7}, {128, 7}, {129, 8}, {254, 8}, {255, 8}
        };
        for (int[] range : ranges) {
            ranged(range[0], 3, 3 + range[1], 3 + range[1]);
        }
        ranged(256, 3, 16, 16);
        ranged(257, 3, 24, 24);
        ranged(65535, 3, 24, 24);
        ranged(65536, 3, 24, 24);
    }

    /** Behind 6 bits n shows, too: it is RANGED in 1 .. 3 or 4 with 2 bits, in 1 .. 5 to 8 with 3. */
    private static void rangedBytes() {
        ranged(65537, 6, 8 + 8, 8 + 24);
        ranged(1L << 24, 6, 8 + 8, 8 + 24);
        ranged((1L << 24) + 1, 6, 8 + 8, 8 + 32);
        ranged(1L << 32, 6, 8 + 8, 8 + 32);
        ranged((1L << 32) + 1, 6, 16 + 8, 16 + 40);
        ranged(1L << 40, 6, 16 + 8, 16 + 40);
        ranged((1L << 40) + 1, 6, 16 + 8, 16 + 48);
        ranged(1L << 48, 6, 16 + 8, 16 + 48);
        ranged((1L << 48) + 1, 6, 16 + 8, 16 + 56);
        ranged(1L << 56, 6, 16 + 8, 16 + 56);
        ranged((1L << 56) + 1, 6, 16 + 8, 16 + 64);
        ranged(MOST + 1, 6, 16 + 8, 16 + 64);
    }

    private static void ranged(long r, int ahead, int bitsOfLow, int bitsOfHigh) {
        long low = r > BOUND ? -BOUND : r > 1000 ? -1000 : 1000;
        ToIntFunction<PackedCodec> type = x -> x.integer(low, low + r - 1, 2, false);
        misfits("R " + r + ", below", 0, type, low - 1);
        fits("R " + r + ", LOW", ahead, bitsOfLow, type, low);
        fits("R " + r + ", HIGH", ahead, bitsOfHigh, type, low + r - 1);
        misfits("R " + r + ", above", 0, type, low + r);
    }

    private static void rangedByteSteps() {
        ToIntFunction<PackedCodec> type = x -> x.integer(-BOUND, BOUND, 2, false);
        for (int n = 1; n < 8; n++) {
            fits("the last of " + n + " bytes", 1, 8 + 8 * n, type, -BOUND + (1L << 8 * n) - 1);
            fits("the first of " + (n + 1) + " bytes", 1, 16 + 8 * n, type, -BOUND + (1L << 8 * n));
        }
    }

    private static void lowByteSteps() {
        ToIntFunction<PackedCodec> type = x -> x.integer(-BOUND, 0, 1, false);
        for (int n = 1; n < 8; n++) {
            fits("the last of " + n + " bytes", 1, 16 + 8 * n, type, -BOUND + (1L << 8 * n) - 1);
            fits("the first of " + (n + 1) + " bytes", 1, 24 + 8 * n, type, -BOUND + (1L << 8 * n));
        }
    }

    private static void signedByteSteps() {
        ToIntFunction<PackedCodec> type = x -> x.integer(0, 0, 0, false);
        ToIntFunction<PackedCodec> outside = x -> x.integer(0, 0, 2, true);
        for (int n = 1; n < 8; n++) {
            long half = 1L << 8 * n - 1;
            fits("the most in " + n + " bytes", 1, 16 + 8 * n, type, half - 1);
            fits("one more", 1, 24 + 8 * n, type, half);
            fits("the least in " + n + " bytes", 1, 16 + 8 * n, type, -half);
            fits("one less", 1, 24 + 8 * n, type, -half - 1);
            fits("outside, the most in " + n + " bytes", 1, 16 + 8 * n, outside, half - 1);
            fits("outside, one more", 1, 24 + 8 * n, outside, half);
            fits("outside, the least in " + n + " bytes", 1, 16 + 8 * n, outside, -half);
            fits("outside, one less", 1, 24 + 8 * n, outside, -half - 1);
        }
    }

    private static void enumerationItems() {
        for (int r : new int[] {1, 2, 3, 255, 256, 257, 300}) {
            int bits = r == 1 ? 1 : r == 2 ? 2 : r == 3 ? 3 : r == 255 ? 9 : r == 256 ? 16 : 24;
            ToIntFunction<PackedCodec> type = x -> x.enumeration(r, NONE);
            misfits("item -1 of " + r, 0, type, -1);
            fits("item 0 of " + r, 1, bits, type, 0);
            fits("the last item of " + r, 1, bits, type, r - 1);
            misfits("item " + r + " of " + r, 0, type, r);
            misfits("item 2^32 of " + r, 0, type, 1L << 32);
        }
    }

    private static void enumerationMarker() {
        ToIntFunction<PackedCodec> none = x -> x.enumeration(3, 0);
        fits("the last of 3, and none more", 1, 4, none, 2);
        misfits("item 3 of 3, and none more", 0, none, 3);
        misfits("item -1 with a MARKER", 0, none, -1);
        ToIntFunction<PackedCodec> one = x -> x.enumeration(3, 1);
        fits("the last of 3, and one more", 1, 4, one, 2);
        fits("the one more", 1, 9, one, 3);
        misfits("item 4 of 3, and one more", 0, one, 4);
        ToIntFunction<PackedCodec> all = x -> x.enumeration(300, 100);
        fits("item 299 of 300, and 100 more", 1, 24, all, 299);
        fits("item 300 of 300, and 100 more", 1, 9, all, 300);
        fits("item 399 of 300, and 100 more", 1, 24, all, 399);
        misfits("item 400 of 300, and 100 more", 0, all, 400);
    }

    private static void small() {
        ToIntFunction<PackedCodec> type = x -> x.enumeration(2, 100);
        fits("SMALL 0", 1, 1 + 1 + 7, type, 2);
        fits("SMALL 63", 1, 1 + 1 + 7, type, 65);
        fits("SMALL 64", 1, 8 + 8 + 8, type, 66);
        fits("SMALL 99", 1, 8 + 8 + 8, type, 101);
        misfits("SMALL 100", 0, type, 102);
        fits("the last in the short form", 1, 9, x -> x.enumeration(2, 64), 65);
        misfits("none behind it", 0, x -> x.enumeration(2, 64), 66);
    }

    private interface Sized {
        int tell(PackedCodec x, int low, int high);
    }

    /** BITS, OCTETS, TEXT and LIST, with items that take a bit, or a byte, or a bit, or none. */
    private static final Sized[] ROWS = {
        (x, low, high) -> x.row(0, low, high),
        (x, low, high) -> x.row(1, low, high),
        (x, low, high) -> x.text(0, 1, low, high),
        (x, low, high) -> x.list(x.integer(1, 1, 2, false), low, high)
    };

    private static void sizes() {
        for (int kind = 0; kind < 4; kind++) {
            Sized sized = ROWS[kind];
            ToIntFunction<PackedCodec> type = x -> sized.tell(x, 2, 4);
            String what = "SIZES 2 .. 4 of kind " + (4 + kind);
            misfits(what + ", -1", 0, type, -1, 1);
            misfits(what + ", 0", 0, type, 0);
            misfits(what + ", 1", 0, type, times(1, 1));
            Due.is(what + ", 2", 3, packsAndBack(type, times(2, 1)));
            Due.is(what + ", 4", 5, packsAndBack(type, times(4, 1)));
            misfits(what + ", 5", 0, type, times(5, 1));
            misfits(what + ", 2^32 + 2", 0, type, (1L << 32) + 2, 1, 1);
            ToIntFunction<PackedCodec> empty = x -> sized.tell(x, 0, 0);
            misfits("SIZE 0, -1", 0, empty, -1);
            Due.is("SIZE 0, 0", 1, packsAndBack(empty, row(0)));
            misfits("SIZE 0, 1", 0, empty, 1, 1);
            ToIntFunction<PackedCodec> most = x -> sized.tell(x, 300, 300);
            misfits("SIZE 300, 299", 0, most, times(299, 1));
            Due.is("SIZE 300, 300", 301, packsAndBack(most, times(300, 1)));
            misfits("SIZE 300, 301", 0, most, times(301, 1));
        }
    }

    private static void sizesWithoutHigh() {
        for (int kind = 0; kind < 4; kind++) {
            Sized sized = ROWS[kind];
            String what = "SIZES without HIGH of kind " + (4 + kind);
            ToIntFunction<PackedCodec> type = x -> sized.tell(x, 2, NONE);
            misfits(what + ", from 2 on, 1", 0, type, times(1, 1));
            Due.is(what + ", from 2 on, 2", 3, packsAndBack(type, times(2, 1)));
            Due.is(what + ", from 2 on, 300", 301, packsAndBack(type, times(300, 1)));
            misfits(what + ", from 2 on, 301", 0, type, times(301, 1));
            ToIntFunction<PackedCodec> all = x -> sized.tell(x, 0, NONE);
            misfits(what + ", from 0 on, -1", 0, all, -1);
            Due.is(what + ", from 0 on, 0", 1, packsAndBack(all, row(0)));
            ToIntFunction<PackedCodec> most = x -> sized.tell(x, 300, NONE);
            misfits(what + ", from 300 on, 299", 0, most, times(299, 1));
            Due.is(what + ", from 300 on, 300", 301, packsAndBack(most, times(300, 1)));
            misfits(what + ", from 300 on, 301", 0, most, times(301, 1));
        }
    }

    /** How many numbers come back. */
    private static int packsAndBack(ToIntFunction<PackedCodec> tell, long[] numbers) {
        Bench b = new Bench();
        int type = tell.applyAsInt(b.codec);
        b.setValue(numbers);
        int packed = b.codec.pack(type);
        if (packed < 0) {
            return packed;
        }
        b.codec.drop();
        return b.codec.unpack(type);
    }

    /** SIZE of a LIST whose items take no bits. */
    private static void sizeBits() {
        Sized list = ROWS[3];
        fits("LOW = HIGH: no bits", 1, 1, x -> list.tell(x, 3, 3), times(3, 1));
        fits("3 .. 4: a bit", 1, 2, x -> list.tell(x, 3, 4), times(3, 1));
        fits("0 .. 254: 8 bits", 1, 9, x -> list.tell(x, 0, 254), times(3, 1));
        fits("0 .. 255: ALIGN, 8 bits", 1, 16, x -> list.tell(x, 0, 255), times(3, 1));
        fits("0 .. 256: ALIGN, 16 bits", 1, 24, x -> list.tell(x, 0, 256), times(3, 1));
        fits("0 .. 300: ALIGN, 16 bits", 1, 24, x -> list.tell(x, 0, 300), times(3, 1));
        fits("46 .. 300: 8 bits", 1, 9, x -> list.tell(x, 46, 300), times(46, 1));
        fits("45 .. 300: ALIGN, 8 bits", 1, 16, x -> list.tell(x, 45, 300), times(45, 1));
        fits("300 .. 300: no bits", 1, 1, x -> list.tell(x, 300, 300), times(300, 1));
        fits("from 3 on: LENGTH", 1, 16, x -> list.tell(x, 3, NONE), times(3, 1));
    }

    private static void lengthBits() {
        Sized list = ROWS[3];
        ToIntFunction<PackedCodec> type = x -> list.tell(x, 0, NONE);
        fits("LENGTH 0", 1, 16, type, times(0, 1));
        fits("LENGTH 1", 1, 16, type, times(1, 1));
        fits("LENGTH 127", 1, 16, type, times(127, 1));
        fits("LENGTH 128", 1, 24, type, times(128, 1));
        fits("LENGTH 300", 1, 24, type, times(300, 1));
        Bench b = new Bench();
        int t = type.applyAsInt(b.codec);
        b.bothWays("LENGTH 127", t, times(127, 1), 127);
        b = new Bench();
        t = type.applyAsInt(b.codec);
        b.bothWays("LENGTH 128", t, times(128, 1), 128, 128);
    }

    private static void rowItems() {
        misfits("a bit -1", 1, x -> x.row(0, 1, 1), 1, -1);
        fits("a bit 0", 1, 2, x -> x.row(0, 1, 1), 1, 0);
        fits("a bit 1", 1, 2, x -> x.row(0, 1, 1), 1, 1);
        misfits("a bit 2", 1, x -> x.row(0, 1, 1), 1, 2);
        misfits("a byte -1", 1, x -> x.row(1, 1, 1), 1, -1);
        fits("a byte 0", 1, 9, x -> x.row(1, 1, 1), 1, 0);
        fits("a byte 255", 1, 9, x -> x.row(1, 1, 1), 1, 255);
        misfits("a byte 256", 1, x -> x.row(1, 1, 1), 1, 256);
        misfits("a character FIRST - 1", 1, x -> x.text(65, 70, 1, 1), 1, 64);
        fits("a character FIRST", 1, 5, x -> x.text(65, 70, 1, 1), 1, 65);
        fits("a character LAST", 1, 5, x -> x.text(65, 70, 1, 1), 1, 70);
        misfits("a character LAST + 1", 1, x -> x.text(65, 70, 1, 1), 1, 71);
        misfits("a character -1", 1, x -> x.text(0, 255, 1, 1), 1, -1);
        fits("a character 0", 1, 9, x -> x.text(0, 255, 1, 1), 1, 0);
        fits("a character 255", 1, 9, x -> x.text(0, 255, 1, 1), 1, 255);
        misfits("a character 256", 1, x -> x.text(0, 255, 1, 1), 1, 256);
        misfits("the only character, one less", 1, x -> x.text(65, 65, 1, 1), 1, 64);
        fits("the only character", 1, 2, x -> x.text(65, 65, 1, 1), 1, 65);
        misfits("the only character, one more", 1, x -> x.text(65, 65, 1, 1), 1, 66);
    }

    private static void bitsAlign() {
        Sized bits = ROWS[0];
        fits("BITS, LOW = HIGH 0", 1, 1, x -> bits.tell(x, 0, 0), 0);
        fits("BITS, LOW = HIGH 1", 1, 2, x -> bits.tell(x, 1, 1), times(1, 1));
        fits("BITS, LOW = HIGH 16", 1, 17, x -> bits.tell(x, 16, 16), times(16, 1));
        fits("BITS, LOW = HIGH 17", 1, 25, x -> bits.tell(x, 17, 17), times(17, 1));
        fits("BITS, 15 .. 16, there are 16", 1, 24, x -> bits.tell(x, 15, 16), times(16, 1));
        fits("BITS, 0 .. 1, there is none", 1, 2, x -> bits.tell(x, 0, 1), 0);
        fits("BITS, 0 .. 1, there is one", 1, 9, x -> bits.tell(x, 0, 1), times(1, 1));
        fits("BITS, 0 .. 300, there is none", 1, 24, x -> bits.tell(x, 0, 300), 0);
        fits("BITS from 0 on, there is none", 1, 16, x -> bits.tell(x, 0, NONE), 0);
        fits("BITS from 0 on, there is one", 1, 17, x -> bits.tell(x, 0, NONE), times(1, 1));
    }

    private static void octetsAlign() {
        Sized octets = ROWS[1];
        fits("OCTETS, LOW = HIGH 0", 1, 1, x -> octets.tell(x, 0, 0), 0);
        fits("OCTETS, LOW = HIGH 1", 1, 9, x -> octets.tell(x, 1, 1), times(1, 1));
        fits("OCTETS, LOW = HIGH 2", 1, 17, x -> octets.tell(x, 2, 2), times(2, 1));
        fits("OCTETS, LOW = HIGH 3", 1, 32, x -> octets.tell(x, 3, 3), times(3, 1));
        fits("OCTETS, 1 .. 2, there are 2", 1, 24, x -> octets.tell(x, 1, 2), times(2, 1));
        fits("OCTETS, 0 .. 1, there is none", 1, 2, x -> octets.tell(x, 0, 1), 0);
        fits("OCTETS, 0 .. 1, there is one", 1, 16, x -> octets.tell(x, 0, 1), times(1, 1));
        fits("OCTETS from 0 on, there is none", 1, 16, x -> octets.tell(x, 0, NONE), 0);
    }

    /** The least of 1, 2, 4, 8 that LAST - FIRST fits in. */
    private static void textWidth() {
        int[][] widths = {{0, 1}, {1, 1}, {2, 2}, {3, 2}, {4, 4}, {15, 4}, {16, 8}, {255, 8}};
        for (int[] width : widths) {
            int last = width[0];
            String what = "LAST - FIRST " + last;
            fits(what, 1, 1 + width[1], x -> x.text(0, last, 1, 1), 1, last);
            fits(what + ", up to 255", 1, 1 + width[1], x -> x.text(255 - last, 255, 1, 1), 1, 255 - last);
            misfits(what + ", above", 1, x -> x.text(0, last, 1, 1), 1, last + 1);
            misfits(what + ", below", 1, x -> x.text(255 - last, 255, 1, 1), 1, 254 - last);
        }
    }

    /** No ALIGN if HIGH times b is below 16, or is 16 and LOW = HIGH. */
    private static void textAlign() {
        int[][] texts = {{1, 1, 4}, {3, 2, 3}, {15, 4, 2}, {255, 8, 2}};
        for (int[] text : texts) {
            int last = text[0];
            int b = text[1];
            int even = 16 / b;
            String what = "TEXT of " + b + " bits, ";
            int below = even - 1;
            fits(what + "below 16", 1, 1 + below * b, x -> x.text(0, last, below, below), times(below, 1));
            int sizeBits = b == 8 ? 1 : b == 4 ? 2 : b == 2 ? 3 : 4;
            fits(what + "below 16, from 0 on", 1, 1 + sizeBits + below * b,
                x -> x.text(0, last, 0, below), times(below, 1));
            fits(what + "16, LOW = HIGH", 1, 17, x -> x.text(0, last, even, even), times(even, 1));
            fits(what + "16, LOW one less", 1, 24, x -> x.text(0, last, even - 1, even), times(even, 1));
            fits(what + "16, LOW one less, below it", 1, 8 + 16 - b,
                x -> x.text(0, last, even - 1, even), times(even - 1, 1));
            fits(what + "above 16, LOW = HIGH", 1, 8 + 16 + b,
                x -> x.text(0, last, even + 1, even + 1), times(even + 1, 1));
        }
        fits("TEXT 0 .. 16, there is none", 1, 6, x -> x.text(0, 1, 0, 16), 0);
        fits("TEXT 0 .. 16, there is one", 1, 9, x -> x.text(0, 1, 0, 16), times(1, 1));
        fits("TEXT from 0 on, there is none", 1, 16, x -> x.text(0, 1, 0, NONE), 0);
        fits("TEXT from 0 on, there is one", 1, 17, x -> x.text(0, 1, 0, NONE), times(1, 1));
    }

    /** A bit behind a row: next to its SIZE if the row has no items, else behind them. */
    private static void noneToAlign() {
        for (int kind = 0; kind < 3; kind++) {
            Bench b = new Bench();
            int row = kind == 2 ? b.codec.text(0, 255, 0, 3) : b.codec.row(kind, 0, 3);
            int both = b.sequence(false, row, 0, b.codec.simple(0), 0);
            b.bothWays("none of kind " + (4 + kind), both, row(0, 1), 0b00100000);
            if (kind == 0) {
                b.bothWays("one of kind 4", both, row(1, 1, 1), 0b01000000, 0b11000000);
            } else {
                b.bothWays("one of kind " + (4 + kind), both, row(1, 1, 1), 0b01000000, 1, 0b10000000);
            }
        }
    }

    private static int sequence(PackedCodec x, boolean marker, int type, int n, int how) {
        x.open(0, marker);
        for (int i = 0; i < n; i++) {
            x.part(type, how);
        }
        return x.close();
    }

    private static void optional() {
        ToIntFunction<PackedCodec> one = x -> sequence(x, false, x.simple(0), 1, 1);
        misfits("an OPTIONAL one, -1", 0, one, -1);
        fits("an OPTIONAL one, 0", 1, 2, one, 0);
        fits("an OPTIONAL one, 1", 1, 3, one, 1, 1);
        misfits("an OPTIONAL one, 2", 0, one, 2, 1);
        misfits("an OPTIONAL one that is not there, and its value", 1, one, 0, 1);
        misfits("an OPTIONAL one that is there, without its value", 1, one, 1);
        ToIntFunction<PackedCodec> twenty = x -> sequence(x, false, x.simple(1), 20, 1);
        fits("20 OPTIONAL ones, none there", 1, 21, twenty, new long[20]);
        fits("20 OPTIONAL ones, all there", 1, 21, twenty, Arrays.copyOfRange(times(20, 1), 1, 21));
        misfits("20 OPTIONAL ones, of 19 told", 19, twenty, new long[19]);
        misfits("20 OPTIONAL ones, of 21 told", 20, twenty, new long[21]);
        Bench b = new Bench();
        int truth = b.codec.simple(0);
        int marked = b.sequence(true, truth, 1, truth, 1);
        b.bothWays("the first of two, behind a MARKER", marked, row(1, 1, 0), 0b01010000);
        b.bothWays("the second of two, behind a MARKER", marked, row(0, 1, 1), 0b00110000);
    }

    private static void additions() {
        ToIntFunction<PackedCodec> one = x -> sequence(x, true, x.simple(0), 1, 2);
        misfits("an ADDITION, -1", 0, one, -1);
        fits("an ADDITION, 0", 1, 2, one, 0);
        fits("an ADDITION, 1", 1, 16 + 8 + 8, one, 1, 1);
        misfits("an ADDITION, 2", 0, one, 2, 1);
        misfits("an ADDITION that is not there, and its value", 1, one, 0, 1);
        misfits("an ADDITION that is there, without its value", 1, one, 1);
        fits("a MARKER without ADDITIONS", 1, 2, x -> sequence(x, true, x.simple(0), 0, 0));
        fits("no MARKER", 1, 1, x -> sequence(x, false, x.simple(0), 0, 0));
    }

    private static void howManyAdditions() {
        Bench b = new Bench();
        int nothing = b.codec.simple(1);
        b.bothWays("one ADDITION", sequence(b.codec, true, nothing, 1, 2), row(1), 0b10000000, 0b10000000, 1, 0);
        int two = sequence(b.codec, true, nothing, 2, 2);
        b.bothWays("the first of two", two, row(1, 0), 0b10000001, 0b10000000, 1, 0);
        b.bothWays("the second of two", two, row(0, 1), 0b10000001, 0b01000000, 1, 0);
        b = new Bench();
        int twenty = sequence(b.codec, true, b.codec.simple(1), 20, 2);
        long[] last = new long[20];
        b.bothWays("none of 20", twenty, last, 0);
        last[19] = 1;
        b.bothWays("the last of 20", twenty, last, 0b10010011, 0, 0, 0b00010000, 1, 0);
        b = new Bench();
        twenty = sequence(b.codec, true, b.codec.simple(1), 20, 2);
        int[] bytes = new int[44];
        System.arraycopy(new int[] {0b10010011, 255, 255, 0b11110000}, 0, bytes, 0, 4);
        for (int i = 4; i < 44; i += 2) {
            bytes[i] = 1;
        }
        b.bothWays("all of 20", twenty, Arrays.copyOfRange(times(20, 1), 1, 21), bytes);
    }

    private static int choice(PackedCodec x, boolean marker, int type, int roots, int added) {
        x.open(1, marker);
        for (int i = 0; i < roots + added; i++) {
            x.part(type, i < roots ? 0 : 2);
        }
        return x.close();
    }

    private static void choiceNumbers() {
        ToIntFunction<PackedCodec> one = x -> choice(x, false, x.simple(0), 1, 0);
        misfits("the only alternative, -1", 0, one, -1, 1);
        fits("the only alternative", 1, 2, one, 0, 1);
        misfits("the only alternative, 1", 0, one, 1, 1);
        ToIntFunction<PackedCodec> twenty = x -> choice(x, false, x.simple(0), 20, 0);
        misfits("alternative -1 of 20", 0, twenty, -1, 1);
        fits("alternative 0 of 20", 1, 1 + 5 + 1, twenty, 0, 1);
        fits("alternative 19 of 20", 1, 1 + 5 + 1, twenty, 19, 1);
        misfits("alternative 20 of 20", 0, twenty, 20, 1);
        misfits("alternative 2^32", 0, twenty, 1L << 32, 1);
        misfits("an alternative without its value", 1, twenty, 19);
        misfits("an alternative's value", 1, twenty, 19, 2);
        ToIntFunction<PackedCodec> marked = x -> choice(x, true, x.simple(0), 3, 0);
        fits("the last root one, none added", 1, 1 + 1 + 2 + 1, marked, 2, 1);
        misfits("behind the last root one, none added", 0, marked, 3, 1);
        misfits("alternative -1 with a MARKER", 0, marked, -1);
        ToIntFunction<PackedCodec> added = x -> choice(x, true, x.simple(0), 1, 19);
        fits("the only root one", 1, 1 + 1 + 1, added, 0, 1);
        fits("the first added", 1, 16 + 8 + 8, added, 1, 1);
        fits("the last added", 1, 16 + 8 + 8, added, 19, 1);
        misfits("behind the last added", 0, added, 20, 1);
        misfits("an added one without its value", 1, added, 19);
        misfits("an added one's value", 1, added, 19, 2);
    }

    private static void wholeWithoutBits() {
        Bench b = new Bench();
        PackedCodec x = b.codec;
        int nothing = x.simple(1);
        b.bothWays("no bits: a byte 0", nothing, row(), 0);
        Due.is("19 no bits", 0, x.bits());
        int one = x.integer(7, 7, 2, false);
        b.bothWays("no bits, but a number: a byte 0", one, row(7), 0);
        Due.is("19 no bits", 0, x.bits());
        int truth = x.simple(0);
        b.bothWays("a bit 0: a byte 0", truth, row(0), 0);
        Due.is("19 a bit", 1, x.bits());
        int octet = x.row(1, 1, 1);
        b.bothWays("8 bits: no ALIGN", octet, row(1, 255), 255);
        Due.is("19 8 bits", 8, x.bits());
        int nine = b.sequence(false, octet, 0, truth, 0);
        b.bothWays("9 bits: ALIGN", nine, row(1, 255, 1), 255, 128);
        Due.is("19 9 bits", 9, x.bits());
        int open = b.sequence(true, nothing, 2, truth, 2, octet, 2, nine, 2);
        b.bothWays("OPEN of each", open, row(1, 1, 0, 1, 1, 255, 1, 1, 255, 1),
            0b10000011, 0b11110000, 1, 0, 1, 0, 1, 255, 2, 255, 128);
    }

    /** An OPEN of 127 bytes has a LENGTH of one byte, one of 128 bytes of two. */
    private static void openLength() {
        for (int n : new int[] {126, 127, 128, 129}) {
            Bench b = new Bench();
            int octets = b.codec.row(1, n, n);
            int added = b.sequence(true, octets, 2);
            b.codec.put(1);
            b.codec.put(n);
            for (int i = 0; i < n; i++) {
                b.codec.put(i + 20);
            }
            int lengthBytes = n < 128 ? 1 : 2;
            Due.is("OPEN of " + n, 2 + lengthBytes + n, b.codec.pack(added));
            Due.is("its LENGTH", n < 128 ? n : 128, b.codec.octet(2));
            Due.is("behind that", n < 128 ? 20 : n, b.codec.octet(3));
            for (int i = 0; i < n; i++) {
                Due.is("its byte " + i, i + 20, b.codec.octet(2 + lengthBytes + i));
            }
            Due.is("back", n + 2, b.codec.unpack(added));
        }
    }

    private static void misfitIsTheFirst() {
        ToIntFunction<PackedCodec> octets = x -> x.row(1, 0, 4);
        misfits("two that cannot be", 1, octets, 3, 256, 0, -1);
        misfits("one that cannot be, and too few", 1, octets, 3, 256);
        misfits("one that cannot be, and too many", 2, octets, 2, 1, 256, 1, 1);
        misfits("how many, and each", 0, octets, 5, 256, 256);
        misfits("more had to come", 3, octets, 4, 1, 1);
        misfits("more had to come, all", 1, octets, 4);
        misfits("more had to come, the first", 0, octets);
        misfits("the first that is too many", 3, octets, 2, 1, 1, 7, 8);
        misfits("one that is too many", 1, octets, 0, 7);
    }

    /** Places of 600 numbers, which come by unpack(). */
    private static void misfitPlaces() {
        Bench b = new Bench();
        PackedCodec x = b.codec;
        int seven = x.integer(7, 7, 2, false);
        int truth = x.simple(0);
        int list = x.list(seven, 299, 299);
        int two = b.sequence(false, list, 0, list, 0);
        int more = b.sequence(false, two, 0, truth, 0);
        int shorter = x.list(seven, 298, 298);
        int fewer = b.sequence(false, list, 0, shorter, 0);
        int fewerBy = b.sequence(false, list, 0, x.list(seven, 298, 299), 0);
        x.feed(0);
        Due.is("17 600", 600, x.unpack(two));
        Due.is("16 600", 1, x.pack(two));
        Due.is("16 a 601st had to come", MISFIT, x.pack(more));
        Due.is("18 how many there are", 600, x.place());
        Due.is("16 how many", MISFIT, x.pack(fewer));
        Due.is("18 how many", 300, x.place());
        Due.is("16 they fit, too", 1, x.pack(fewerBy));
        x.unpack(two);
        x.drop();
        Due.is("16 none", MISFIT, x.pack(two));
        Due.is("18 none", 0, x.place());
        b = new Bench();
        x = b.codec;
        int one = x.integer(7, 7, 2, false);
        int all = b.sequence(false, x.list(one, 299, 299), 0, x.list(one, 298, 298), 0);
        x.feed(0);
        Due.is("17 599", 599, x.unpack(all));
        x.put(7);
        Due.is("16 the 600th is too many", MISFIT, x.pack(all));
        Due.is("18 the 600th", 599, x.place());
    }

    private static void badTypes() {
        Bench b = new Bench();
        PackedCodec x = b.codec;
        Due.is("16 no types", BAD, x.pack(0));
        int truth = x.simple(0);
        b.setValue(1);
        x.feed(99);
        for (int type : new int[] {Integer.MIN_VALUE, -1, 1, 60, Integer.MAX_VALUE}) {
            Due.is("16 type " + type, BAD, x.pack(type));
            Due.is("24 THE OCTETS stay", 99, x.octet(0));
        }
        x.open(0, false);
        Due.is("16 it is open", BAD, x.pack(1));
        Due.is("24 THE OCTETS stay", 99, x.octet(0));
        Due.is("16 while another is open", 1, x.pack(truth));
        Due.is("23 it is packed", 128, x.octet(0));
        x.close();
        x.drop();
        Due.is("16 it is closed", 1, x.pack(1));
        PackedCodec all = new PackedCodec();
        for (int i = 0; i < 60; i++) {
            all.simple(1);
        }
        Due.is("16 type 59", 1, all.pack(59));
        Due.is("16 type 60", BAD, all.pack(60));
    }

    /** Integers of 9 bytes each, and others that make up for so many bytes. */
    private static void putBytes(PackedCodec x, int bytes) {
        int nines = (bytes - 1) / 9 - 1;
        int rest = bytes - 1 - 9 * nines;
        int half = rest / 2;
        x.put(nines + 2);
        for (int i = 0; i < nines; i++) {
            x.put(MOST);
        }
        x.put(1L << (8 * (half - 1) - 2));
        x.put(1L << (8 * (rest - half - 1) - 2));
    }

    private static void thousandBytes() {
        for (int bytes = 998; bytes < 1004; bytes++) {
            Bench b = new Bench();
            PackedCodec x = b.codec;
            int list = x.list(x.integer(0, 0, 0, false), 0, NONE);
            x.feed(99);
            putBytes(x, bytes);
            int numbers = x.numbers();
            Due.is("16 " + bytes + " bytes", bytes <= 1000 ? bytes : FULL, x.pack(list));
            Due.is("18 " + bytes + " bytes", NONE, x.place());
            Due.is("24 " + bytes + " bytes", bytes <= 1000 ? bytes : 1, x.octets());
            Due.is("23 " + bytes + " bytes", bytes <= 1000 ? x.numbers() - 1 : 99, x.octet(0));
            Due.is("19 " + bytes + " bytes", bytes <= 1000 ? 8 * bytes : 0, x.bits());
            Due.is("15 THE VALUE stays", numbers, x.numbers());
        }
        thousandBytesAndBits();
    }

    private static void thousandBytesAndBits() {
        for (int bytes : new int[] {999, 1000}) {
            Bench b = new Bench();
            PackedCodec x = b.codec;
            int list = x.list(x.integer(0, 0, 0, false), 0, NONE);
            int nothing = x.simple(1);
            int bit = b.sequence(false, list, 0, x.simple(0), 0);
            int eight = b.sequence(false, list, 0, x.row(0, 8, 8), 0);
            int none = b.sequence(false, list, 0, nothing, 0);
            putBytes(x, bytes);
            Due.is("16 and no bit", bytes, x.pack(none));
            x.put(1);
            Due.is("16 and a bit", bytes == 999 ? 1000 : FULL, x.pack(bit));
            Due.is("19 and a bit", bytes == 999 ? 7993 : 8000, x.bits());
            x.drop();
            putBytes(x, bytes);
            for (long number : times(8, 1)) {
                x.put(number);
            }
            Due.is("16 and 8 bits", bytes == 999 ? 1000 : FULL, x.pack(eight));
            Due.is("19 and 8 bits", 8000, x.bits());
        }
    }

    /** Ahead of an OPEN are 2 bytes, and 2 of its LENGTH. */
    private static void thousandBytesInOpen() {
        for (int bytes = 994; bytes < 1004; bytes++) {
            Bench b = new Bench();
            PackedCodec x = b.codec;
            int list = x.list(x.integer(0, 0, 0, false), 0, NONE);
            int added = b.sequence(true, list, 2);
            int choice = b.choice(true, list, 0, list, 2);
            x.put(1);
            putBytes(x, bytes);
            boolean all = bytes + 4 <= 1000;
            Due.is("16 OPEN of " + bytes + " bytes", all ? bytes + 4 : FULL, x.pack(added));
            Due.is("18 OPEN of " + bytes + " bytes", NONE, x.place());
            Due.is("24 OPEN of " + bytes + " bytes", all ? bytes + 4 : 0, x.octets());
            x.wipe();
            boolean chosen = bytes + 3 <= 1000;
            Due.is("16 chosen OPEN of " + bytes, chosen ? bytes + 3 : FULL, x.pack(choice));
            Due.is("24 chosen OPEN of " + bytes, chosen ? bytes + 3 : 0, x.octets());
        }
    }

    private static void misfitAheadOfFull() {
        Bench b = new Bench();
        PackedCodec x = b.codec;
        int list = x.list(x.integer(0, 0, 0, false), 0, NONE);
        x.feed(99);
        putBytes(x, 1001);
        int numbers = x.numbers();
        Due.is("16 all fits", FULL, x.pack(list));
        x.put(0);
        Due.is("16 one too many, and 1001 bytes", MISFIT, x.pack(list));
        Due.is("18 the one", numbers, x.place());
        int truth = x.simple(0);
        int both = b.sequence(false, list, 0, truth, 0, truth, 0);
        Due.is("16 one too few, and 1001 bytes", MISFIT, x.pack(both));
        Due.is("18 how many", numbers + 1, x.place());
        x.put(2);
        Due.is("16 one cannot be, and 1001 bytes", MISFIT, x.pack(both));
        Due.is("18 the one", numbers + 1, x.place());
        Due.is("24 THE OCTETS stay", 1, x.octets());
        Due.is("23 THE OCTETS stay", 99, x.octet(0));
    }

    private static void place() {
        Bench b = new Bench();
        PackedCodec x = b.codec;
        Due.is("18 before any", NONE, x.place());
        int truth = x.simple(0);
        x.pack(9);
        Due.is("18 BAD alone", NONE, x.place());
        b.setValue(2);
        x.pack(truth);
        Due.is("18 MISFIT", 0, x.place());
        x.pack(9);
        Due.is("18 BAD leaves it", 0, x.place());
        x.unpack(-1);
        Due.is("18 BAD leaves it", 0, x.place());
        x.clear();
        x.drop();
        x.wipe();
        Due.is("18 nor do others touch it", 0, x.place());
        x.simple(0);
        b.setValue(1, 1);
        x.pack(0);
        Due.is("18 MISFIT", 1, x.place());
        x.feed(1);
        x.unpack(0);
        Due.is("18 REFUSED, of the latest", 1, x.place());
        b.setValue(1);
        x.pack(0);
        Due.is("18 no fault", NONE, x.place());
        x.feed(0);
        x.unpack(0);
        Due.is("18 REFUSED", 8, x.place());
        x.pack(0);
        x.unpack(0);
        Due.is("18 no fault", NONE, x.place());
        fullHasNoPlace();
    }

    private static void fullHasNoPlace() {
        Bench b = new Bench();
        PackedCodec x = b.codec;
        int list = x.list(x.integer(0, 0, 0, false), 0, NONE);
        x.pack(list);
        Due.is("18 MISFIT", 0, x.place());
        putBytes(x, 1001);
        Due.is("16 FULL", FULL, x.pack(list));
        Due.is("18 FULL", NONE, x.place());
        int seven = x.integer(7, 7, 2, false);
        int many = x.list(seven, 300, 300);
        int all = b.sequence(false, many, 0, many, 0);
        x.unpack(seven);
        Due.is("18 REFUSED", 0, x.place());
        x.feed(0);
        Due.is("17 FULL", FULL, x.unpack(all));
        Due.is("18 FULL", NONE, x.place());
    }

    private static void bits() {
        Bench b = new Bench();
        PackedCodec x = b.codec;
        Due.is("19 before any", 0, x.bits());
        int truth = x.simple(0);
        x.pack(9);
        x.pack(truth);
        Due.is("19 before any without a fault", 0, x.bits());
        b.setValue(1);
        x.pack(truth);
        Due.is("19 one", 1, x.bits());
        x.pack(9);
        Due.is("19 BAD leaves it", 1, x.bits());
        b.setValue(2);
        x.pack(truth);
        Due.is("19 MISFIT leaves it", 1, x.bits());
        x.unpack(truth);
        x.feed(0);
        x.unpack(truth);
        x.turn(0);
        x.wipe();
        x.drop();
        Due.is("19 others leave it", 1, x.bits());
        int list = x.list(x.integer(0, 0, 0, false), 0, NONE);
        putBytes(x, 1001);
        x.pack(list);
        Due.is("19 FULL leaves it", 1, x.bits());
        x.clear();
        Due.is("19 clear() leaves it", 1, x.bits());
        x.simple(1);
        x.drop();
        Due.is("16 NOTHING", 1, x.pack(0));
        Due.is("19 NOTHING", 0, x.bits());
    }
}
