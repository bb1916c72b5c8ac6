import java.util.Arrays;
import java.util.function.ToIntFunction;

/**
 * The edges of promises 17 and 18: of each thing that can be refused the last that can be and the
 * first that cannot, and where it is told; what types that were extended later may have; what is full.
 */
public final class EdgeUnpackTest {
    private static final int NONE = PackedCodec.NONE;
    private static final int BAD = PackedCodec.BAD;
    private static final int FULL = PackedCodec.FULL;
    private static final int REFUSED = PackedCodec.REFUSED;
    private static final long MOST = 1L << 62;
    private static final long BOUND = 1L << 61;

    public static void main(String[] args) {
        badTypes();
        emptyOctets();
        wholeAlign();
        wholeByte();
        wholeLeft();
        rangedInBits();
        rangedInOneByte();
        rangedInTwoBytes();
        rangedHowManyBytes();
        rangedBytes();
        rangedByteSteps();
        lengthForms();
        lengthOfSizes();
        lengthOfIntegers();
        lengthOfMoreThanThere();
        lowBytes();
        lowByteSteps();
        signedBytes();
        signedByteSteps();
        markedBounds();
        enumerationItems();
        enumerationBeyond();
        smallForms();
        sizeInRange();
        alignOfRows();
        characters();
        optionalBits();
        additionsSeven();
        additionsRow();
        additionsKnown();
        additionsNotTold();
        additionsPassed();
        choiceRoots();
        choiceBeyond();
        choicePassed();
        openBytes();
        openByteLacks();
        openInOpen();
        lastBit();
        sixHundred();
        sixHundredOfEach();
        sixHundredOfItems();
        fullOrRefused();
        stays();
        Due.end();
    }

    private static long[] row(long... numbers) {
        return numbers;
    }

    private static long[] times(int n, long each) {
        long[] numbers = new long[n + 1];
        Arrays.fill(numbers, each);
        numbers[0] = n;
        return numbers;
    }

    private static void unpacks(String what, ToIntFunction<PackedCodec> tell, String bits, long... numbers) {
        Bench b = new Bench();
        b.unpacks(what, tell.applyAsInt(b.codec), numbers, Bench.bytes(bits));
    }

    private static void refuses(String what, ToIntFunction<PackedCodec> tell, int place, String bits) {
        Bench b = new Bench();
        b.refuses(what, tell.applyAsInt(b.codec), place, Bench.bytes(bits));
    }

    private static String binary(long v, int bits) {
        StringBuilder text = new StringBuilder();
        for (int i = bits - 1; i >= 0; i--) {
            text.append((v >>> i) & 1);
        }
        return text.toString();
    }

    /** A SEQUENCE of a TRUTH and of what is told. */
    private static ToIntFunction<PackedCodec> behindBit(ToIntFunction<PackedCodec> tell) {
        return x -> {
            int truth = x.simple(0);
            int type = tell.applyAsInt(x);
            x.open(0, false);
            x.part(truth, 0);
            x.part(type, 0);
            return x.close();
        };
    }

    private static void badTypes() {
        Bench b = new Bench();
        PackedCodec x = b.codec;
        x.feed(128);
        Due.is("17 no types", BAD, x.unpack(0));
        int truth = x.simple(0);
        b.setValue(5, 6);
        for (int type : new int[] {Integer.MIN_VALUE, -1, 1, 60, Integer.MAX_VALUE}) {
            Due.is("17 type " + type, BAD, x.unpack(type));
        }
        x.open(0, false);
        Due.is("17 it is open", BAD, x.unpack(1));
        Due.are("17 THE VALUE stays", row(5, 6), b.value());
        Due.is("17 while another is open", 1, x.unpack(truth));
        PackedCodec all = new PackedCodec();
        for (int i = 0; i < 60; i++) {
            all.simple(1);
        }
        all.feed(0);
        Due.is("17 type 59", 0, all.unpack(59));
        Due.is("17 type 60", BAD, all.unpack(60));
    }

    private static void emptyOctets() {
        refuses("no octets, TRUTH", x -> x.simple(0), 0, "");
        refuses("no octets, NOTHING", x -> x.simple(1), 0, "");
        refuses("no octets, a LENGTH", x -> x.integer(0, 0, 0, false), 0, "");
        refuses("no octets, a number without bits", x -> x.integer(7, 7, 2, false), 0, "");
    }

    /** Each bit up to a multiple of 8 must be 0: the first of them tells it. */
    private static void wholeAlign() {
        unpacks("ALIGN of 7 bits", x -> x.simple(0), "1 0000000", 1);
        for (int bit = 1; bit < 8; bit++) {
            refuses("ALIGN, bit " + bit, x -> x.simple(0), 1, "1 " + binary(128 >> bit, 7));
        }
        unpacks("ALIGN of 1 bit", x -> x.row(0, 7, 7), "1111111 0", times(7, 1));
        refuses("ALIGN of 1 bit", x -> x.row(0, 7, 7), 7, "1111111 1");
        unpacks("no ALIGN", x -> x.row(0, 8, 8), "11111111", times(8, 1));
        refuses("ALIGN ahead of bytes that are left", x -> x.simple(0), 1, "1 0000001 00000000");
    }

    private static void wholeByte() {
        unpacks("the byte 0", x -> x.simple(1), "00000000");
        for (int bit = 0; bit < 8; bit++) {
            refuses("the byte 0, bit " + bit, x -> x.simple(1), 0, binary(128 >> bit, 8));
        }
        refuses("the byte 0 of a number without bits", x -> x.integer(7, 7, 2, false), 0, "00000001");
    }

    private static void wholeLeft() {
        refuses("a byte is left", x -> x.simple(0), 8, "10000000 00000000");
        refuses("two bytes are left", x -> x.simple(0), 8, "10000000 00000000 11111111");
        refuses("a byte is left behind the byte 0", x -> x.simple(1), 8, "00000000 00000000");
        refuses("a byte is left behind 8 bits", x -> x.row(0, 8, 8), 8, "11111111 00000000");
        refuses("a byte is left behind two", x -> x.row(1, 2, 2), 16, "00000001 00000010 00000000");
    }

    private static void rangedInBits() {
        int[][] ranges = {
            {2, 1}, {3, 2}, {4, 2}, {5, 3}, {8, 3}, {9, 4}, {16, 4}, {17, 5}, {32, 5}, {33, 6}, {64, 6},
            {65, 7}, {128, 7}, {129, 8}, {254, 8}, {255, 8}
        };
        for (int[] range : ranges) {
            int r = range[0];
            int bits = range[1];
            ToIntFunction<PackedCodec> type = behindBit(x -> x.integer(10, 9 + r, 2, false));
            unpacks("R " + r + ", LOW", type, "1" + binary(0, bits), 1, 10);
            unpacks("R " + r + ", HIGH", type, "1" + binary(r - 1, bits), 1, 9 + r);
            if (r < 1 << bits) {
                refuses("R " + r + ", HIGH + 1", type, 1, "1" + binary(r, bits));
                refuses("R " + r + ", all bits 1", type, 1, "1" + binary(-1, bits));
            }
        }
        refuses("R 255, bits lack", behindBit(x -> x.integer(0, 254, 2, false)), 8, "1 0000000");
        refuses("R 129, bits lack", behindBit(x -> x.integer(0, 128, 2, false)), 8, "1 1111111");
        unpacks("R 128, none lacks", behindBit(x -> x.integer(0, 127, 2, false)), "1 1111111", 1, 127);
    }

    private static void rangedInOneByte() {
        ToIntFunction<PackedCodec> type = behindBit(x -> x.integer(10, 265, 2, false));
        unpacks("R 256, LOW", type, "1 0000000 00000000", 1, 10);
        unpacks("R 256, HIGH", type, "1 0000000 11111111", 1, 265);
        refuses("R 256, ALIGN", type, 1, "1 0000001 00000000");
        refuses("R 256, a byte lacks", type, 8, "1 0000000");
        refuses("R 256, a byte lacks and ALIGN", type, 1, "1 1000000");
    }

    private static void rangedInTwoBytes() {
        ToIntFunction<PackedCodec> type = behindBit(x -> x.integer(10, 266, 2, false));
        unpacks("R 257, LOW", type, "1 0000000 00000000 00000000", 1, 10);
        unpacks("R 257, HIGH", type, "1 0000000 00000001 00000000", 1, 266);
        refuses("R 257, HIGH + 1", type, 8, "1 0000000 00000001 00000001");
        refuses("R 257, most", type, 8, "1 0000000 11111111 11111111");
        refuses("R 257, ALIGN", type, 1, "1 0000001 00000001 00000001");
        refuses("R 257, a byte lacks", type, 16, "1 0000000 00000001");
        ToIntFunction<PackedCodec> wide = x -> x.integer(0, 65534, 2, false);
        unpacks("R 65535, HIGH", wide, "11111111 11111110", 65534);
        refuses("R 65535, HIGH + 1", wide, 0, "11111111 11111111");
        unpacks("R 65536, HIGH", x -> x.integer(0, 65535, 2, false), "11111111 11111111", 65535);
    }

    /** n is RANGED in 1 .. 3, or 1 .. 5, and so on: the last n, and one more. */
    private static void rangedHowManyBytes() {
        for (int most = 3; most <= 8; most++) {
            long high = most == 8 ? BOUND - 1 : (1L << 8 * most) - 1;
            ToIntFunction<PackedCodec> type = behindBit(x -> x.integer(0, high, 2, false));
            int bits = most < 5 ? 2 : 3;
            String align = binary(0, 7 - bits);
            String first = "00000001" + binary(0, 8 * most);
            unpacks("n 1 of " + most, type, "1" + binary(0, bits) + align + "00000111", 1, 7);
            unpacks("n " + most, type, "1" + binary(most - 1, bits) + align + "00000001" + binary(0, 8 * most - 8),
                1, 1L << 8 * most - 8);
            if (most != 4 && most != 8) {
                refuses("n " + (most + 1) + " of " + most, type, 1, "1" + binary(most, bits) + align + first);
                refuses("n " + (most + 1) + " of " + most + ", alone", type, 1, "1" + binary(most, bits));
            }
            refuses("ALIGN behind n of " + most, type, 1 + bits, "1" + binary(0, bits) + binary(1, 7 - bits) + "00000111");
            refuses("n 1 of " + most + ", a byte lacks", type, 8, "1" + binary(0, bits));
        }
        ToIntFunction<PackedCodec> late = x -> sevenBitsAnd(x, x.integer(0, 65536, 2, false));
        refuses("a bit of n lacks", late, 8, "1111111 0");
    }

    private static int sevenBitsAnd(PackedCodec x, int type) {
        int seven = x.row(0, 7, 7);
        x.open(0, false);
        x.part(seven, 0);
        x.part(type, 0);
        return x.close();
    }

    private static void rangedBytes() {
        ToIntFunction<PackedCodec> type = x -> x.integer(0, 65536, 2, false);
        unpacks("R 65537, 0", type, "00 000000 00000000", 0);
        unpacks("R 65537, 65536", type, "10 000000 00000001 00000000 00000000", 65536);
        refuses("R 65537, 65537", type, 8, "10 000000 00000001 00000000 00000001");
        refuses("R 65537, a byte lacks", type, 24, "10 000000 00000001 00000000");
        refuses("R 65537, all bytes lack", type, 8, "10 000000");
        ToIntFunction<PackedCodec> widest = x -> x.integer(-BOUND, BOUND, 2, false);
        unpacks("widest, LOW", widest, "000 00000 00000000", -BOUND);
        unpacks("widest, HIGH", widest, "111 00000" + binary(MOST, 64), BOUND);
        refuses("widest, HIGH + 1", widest, 8, "111 00000" + binary(MOST + 1, 64));
        refuses("widest, most", widest, 8, "111 00000" + binary(-1, 64));
        refuses("widest, highest bit", widest, 8, "111 00000" + binary(Long.MIN_VALUE, 64));
    }

    /** The least number that needs n bytes, and the one below it in n bytes. */
    private static void rangedByteSteps() {
        ToIntFunction<PackedCodec> type = x -> x.integer(0, BOUND, 2, false);
        for (int n = 2; n <= 8; n++) {
            long least = 1L << 8 * n - 8;
            unpacks("RANGED, the least of " + n + " bytes", type, binary(n - 1, 3) + "00000" + binary(least, 8 * n), least);
            refuses("RANGED, one less", type, 8, binary(n - 1, 3) + "00000" + binary(least - 1, 8 * n));
        }
    }

    private static void lengthForms() {
        ToIntFunction<PackedCodec> type = behindBit(x -> x.list(x.integer(7, 7, 2, false), 0, NONE));
        unpacks("LENGTH 0", type, "1 0000000 00000000", 1, 0);
        Bench b = new Bench();
        int t = type.applyAsInt(b.codec);
        b.setOctets(128, 127);
        Due.is("LENGTH 127 in 8 bits", 129, b.codec.unpack(t));
        b.setOctets(128, 128, 128);
        Due.is("LENGTH 128 in 16 bits", 130, b.codec.unpack(t));
        refuses("LENGTH 127 in 16 bits", type, 8, "1 0000000 10000000 01111111");
        refuses("LENGTH 0 in 16 bits", type, 8, "1 0000000 10000000 00000000");
        refuses("LENGTH 16384 in 16 bits", type, 8, "1 0000000 11000000 00000000");
        refuses("LENGTH 32767 in 16 bits", type, 8, "1 0000000 11111111 11111111");
        refuses("ALIGN of a LENGTH", type, 1, "1 0000001 00000000");
        refuses("a LENGTH lacks", type, 8, "1 0000000");
        refuses("half a LENGTH lacks", type, 16, "1 0000000 10000000");
        refuses("half a LENGTH lacks", type, 16, "1 0000000 10111111");
        refuses("no LENGTH begins so", type, 8, "1 0000000 11000000");
    }

    private interface Sized {
        int tell(PackedCodec x, int low, int high);
    }

    private static final Sized[] ROWS = {
        (x, low, high) -> x.row(0, low, high),
        (x, low, high) -> x.row(1, low, high),
        (x, low, high) -> x.text(0, 1, low, high),
        (x, low, high) -> x.list(x.integer(0, 0, 2, false), low, high)
    };

    private static void lengthOfSizes() {
        int[] itemBits = {1, 8, 1, 0};
        for (int kind = 0; kind < 4; kind++) {
            Sized sized = ROWS[kind];
            String what = "SIZE without HIGH of kind " + (4 + kind) + ", ";
            ToIntFunction<PackedCodec> type = x -> sized.tell(x, 2, NONE);
            refuses(what + "0", type, 0, "00000000");
            refuses(what + "LOW - 1", type, 0, "00000001 00000000");
            unpacks(what + "LOW", type, "00000010" + binary(0, 2 * itemBits[kind]), 2, 0, 0);
            Bench b = new Bench();
            int t = type.applyAsInt(b.codec);
            b.setOctets(Bench.bytes("10000001 00101100" + binary(0, 300 * itemBits[kind])));
            Due.is(what + "300", 301, b.codec.unpack(t));
            refuses(what + "301", type, 0, "10000001 00101101" + binary(0, 301 * itemBits[kind]));
            refuses(what + "301, and no more", type, 0, "10000001 00101101");
            ToIntFunction<PackedCodec> most = x -> sized.tell(x, 300, NONE);
            refuses(what + "LOW 300, 299", most, 0, "10000001 00101011" + binary(0, 299 * itemBits[kind]));
            refuses(what + "LOW 300, 127", most, 0, "01111111" + binary(0, 127 * itemBits[kind]));
        }
    }

    private static void lengthOfIntegers() {
        ToIntFunction<PackedCodec> low = x -> x.integer(0, 0, 1, false);
        refuses("from LOW on, LENGTH 0", low, 0, "00000000");
        unpacks("from LOW on, LENGTH 1", low, "00000001 00000000", 0);
        unpacks("from LOW on, LENGTH 8", low, "00001000" + binary(MOST, 64), MOST);
        refuses("from LOW on, LENGTH 9", low, 0, "00001001" + binary(1, 8) + binary(0, 64));
        ToIntFunction<PackedCodec> none = x -> x.integer(0, 0, 0, false);
        refuses("INTEGER, LENGTH 0", none, 0, "00000000");
        unpacks("INTEGER, LENGTH 1", none, "00000001 00000000", 0);
        unpacks("INTEGER, LENGTH 8", none, "00001000" + binary(MOST, 64), MOST);
        refuses("INTEGER, LENGTH 9", none, 0, "00001001" + binary(1, 8) + binary(0, 64));
        ToIntFunction<PackedCodec> marked = x -> x.integer(0, 0, 2, true);
        refuses("outside, LENGTH 0", marked, 8, "1 0000000 00000000");
        unpacks("outside, LENGTH 1", marked, "1 0000000 00000001 00000001", 1);
        unpacks("outside, LENGTH 8", marked, "1 0000000 00001000" + binary(MOST, 64), MOST);
        refuses("outside, LENGTH 9", marked, 8, "1 0000000 00001001" + binary(1, 8) + binary(0, 64));
    }

    private static void lengthOfMoreThanThere() {
        ToIntFunction<PackedCodec> low = x -> x.integer(0, 0, 1, false);
        unpacks("from LOW on, as many as there are", low, "00000010 00000001 00000000", 256);
        refuses("from LOW on, more than there are", low, 16, "00000010 00000001");
        refuses("from LOW on, none is there", low, 8, "00000001");
        ToIntFunction<PackedCodec> none = x -> x.integer(0, 0, 0, false);
        refuses("INTEGER, more than there are", none, 64, "00001000" + binary(0, 56));
        ToIntFunction<PackedCodec> octets = x -> x.row(1, 0, NONE);
        unpacks("OCTETS, as many as there are", octets, "00000010 00000001 00000000", 2, 1, 0);
        refuses("OCTETS, more than there are", octets, 16, "00000010 00000001");
        refuses("OCTETS, fewer than there are", octets, 16, "00000001 00000001 00000000");
        refuses("BITS, more than there are", x -> x.row(0, 0, NONE), 16, "00001001 11111111");
        refuses("LIST, more than there are", x -> x.list(x.simple(0), 0, NONE), 16, "00001001 11111111");
    }

    private static void lowBytes() {
        for (long low : row(-BOUND, -1, 0, 1, BOUND)) {
            ToIntFunction<PackedCodec> type = x -> x.integer(low, 0, 1, false);
            unpacks("LOW", type, "00000001 00000000", low);
            unpacks("LOW + 255", type, "00000001 11111111", low + 255);
            unpacks("2^62", type, "00001000" + binary(MOST - low, 64), MOST);
            refuses("2^62 + 1", type, 8, "00001000" + binary(MOST - low + 1, 64));
            refuses("the most of 63 bits", type, 8, "00001000" + binary(Long.MAX_VALUE, 64));
            refuses("all bits", type, 8, "00001000" + binary(-1, 64));
            refuses("the highest bit", type, 8, "00001000" + binary(Long.MIN_VALUE, 64));
        }
    }

    private static void lowByteSteps() {
        ToIntFunction<PackedCodec> type = x -> x.integer(0, 0, 1, false);
        for (int n = 2; n <= 8; n++) {
            long least = 1L << 8 * n - 8;
            unpacks("from LOW on, the least of " + n + " bytes", type, binary(n, 8) + binary(least, 8 * n), least);
            refuses("from LOW on, one less", type, 8, binary(n, 8) + binary(least - 1, 8 * n));
            refuses("from LOW on, 0 in " + n + " bytes", type, 8, binary(n, 8) + binary(0, 8 * n));
        }
    }

    private static void signedBytes() {
        ToIntFunction<PackedCodec> type = x -> x.integer(0, 0, 0, false);
        unpacks("127", type, "00000001 01111111", 127);
        unpacks("-128", type, "00000001 10000000", -128);
        unpacks("2^62", type, "00001000" + binary(MOST, 64), MOST);
        refuses("2^62 + 1", type, 8, "00001000" + binary(MOST + 1, 64));
        refuses("most", type, 8, "00001000" + binary(Long.MAX_VALUE, 64));
        unpacks("- 2^62", type, "00001000" + binary(-MOST, 64), -MOST);
        refuses("- 2^62 - 1", type, 8, "00001000" + binary(-MOST - 1, 64));
        refuses("least", type, 8, "00001000" + binary(Long.MIN_VALUE, 64));
    }

    private static void signedByteSteps() {
        ToIntFunction<PackedCodec> type = x -> x.integer(0, 0, 0, false);
        ToIntFunction<PackedCodec> outside = behindBit(x -> x.integer(0, 0, 2, true));
        for (int n = 2; n <= 8; n++) {
            long half = 1L << 8 * n - 9;
            String length = binary(n, 8);
            unpacks("the first above in " + n + " bytes", type, length + binary(half, 8 * n), half);
            refuses("one less", type, 8, length + binary(half - 1, 8 * n));
            unpacks("the first below in " + n + " bytes", type, length + binary(-half - 1, 8 * n), -half - 1);
            refuses("one more", type, 8, length + binary(-half, 8 * n));
            refuses("0", type, 8, length + binary(0, 8 * n));
            refuses("-1", type, 8, length + binary(-1, 8 * n));
            String ahead = "11 000000" + length;
            unpacks("outside, the first above", outside, ahead + binary(half, 8 * n), 1, half);
            refuses("outside, one less", outside, 16, ahead + binary(half - 1, 8 * n));
            unpacks("outside, the first below", outside, ahead + binary(-half - 1, 8 * n), 1, -half - 1);
            refuses("outside, one more", outside, 16, ahead + binary(-half, 8 * n));
        }
    }

    /** A bit 1 tells of one that is outside. */
    private static void markedBounds() {
        ToIntFunction<PackedCodec> type = x -> x.integer(-5, 4, 2, true);
        unpacks("LOW", type, "0 0000", -5);
        unpacks("HIGH", type, "0 1001", 4);
        refuses("HIGH + 1 within", type, 1, "0 1010");
        unpacks("LOW - 1", type, "1 0000000 00000001" + binary(-6, 8), -6);
        refuses("LOW outside", type, 16, "1 0000000 00000001" + binary(-5, 8));
        refuses("HIGH outside", type, 16, "1 0000000 00000001" + binary(4, 8));
        unpacks("HIGH + 1", type, "1 0000000 00000001" + binary(5, 8), 5);
        unpacks("- 2^62", type, "1 0000000 00001000" + binary(-MOST, 64), -MOST);
        refuses("- 2^62 - 1", type, 16, "1 0000000 00001000" + binary(-MOST - 1, 64));
        unpacks("2^62", type, "1 0000000 00001000" + binary(MOST, 64), MOST);
        refuses("2^62 + 1", type, 16, "1 0000000 00001000" + binary(MOST + 1, 64));
        refuses("ALIGN of one outside", type, 1, "1 0000001 00000001" + binary(5, 8));
        ToIntFunction<PackedCodec> widest = x -> x.integer(-BOUND, BOUND, 2, true);
        refuses("widest, HIGH outside", widest, 16, "1 0000000 00001000" + binary(BOUND, 64));
        unpacks("widest, HIGH + 1", widest, "1 0000000 00001000" + binary(BOUND + 1, 64), BOUND + 1);
        refuses("widest, LOW outside", widest, 16, "1 0000000 00001000" + binary(-BOUND, 64));
        unpacks("widest, LOW - 1", widest, "1 0000000 00001000" + binary(-BOUND - 1, 64), -BOUND - 1);
    }

    private static void enumerationItems() {
        unpacks("the last of 3", x -> x.enumeration(3, NONE), "10", 2);
        refuses("behind the last of 3", x -> x.enumeration(3, NONE), 0, "11");
        unpacks("the last of 300", x -> x.enumeration(300, NONE), binary(299, 16), 299);
        refuses("behind the last of 300", x -> x.enumeration(300, NONE), 0, binary(300, 16));
        unpacks("the last of 3 with a MARKER", x -> x.enumeration(3, 1), "0 10", 2);
        refuses("behind the last of 3 with a MARKER", x -> x.enumeration(3, 1), 1, "0 11");
        unpacks("of 300 with a MARKER", x -> x.enumeration(300, 1), "0 0000000" + binary(299, 16), 299);
        refuses("of 300 with a MARKER", x -> x.enumeration(300, 1), 8, "0 0000000" + binary(300, 16));
    }

    private static void enumerationBeyond() {
        unpacks("the last that is known", x -> x.enumeration(3, 2), "1 0 000001", 4);
        unpacks("the first that is not", x -> x.enumeration(3, 2), "1 0 000010", -1);
        unpacks("the first, none is known", x -> x.enumeration(3, 0), "1 0 000000", -1);
        unpacks("the last in the short form", x -> x.enumeration(3, 64), "1 0 111111", 66);
        unpacks("the first in the long form, not known", x -> x.enumeration(3, 64), "11 000000 00000001 01000000", -1);
        unpacks("the first in the long form", x -> x.enumeration(3, 65), "11 000000 00000001 01000000", 67);
        unpacks("the 100th", x -> x.enumeration(3, 100), "11 000000 00000001" + binary(99, 8), 102);
        unpacks("the 101st", x -> x.enumeration(3, 100), "11 000000 00000001" + binary(100, 8), -1);
        unpacks("goes on behind it", x -> x.list(x.enumeration(1, 0), 2, 2), "1 0 000000 0", 2, -1, 0);
    }

    private static void smallForms() {
        ToIntFunction<PackedCodec> type = x -> x.enumeration(1, 100);
        refuses("SMALL 63 in the long form", type, 16, "11 000000 00000001 00111111");
        unpacks("SMALL 64", type, "11 000000 00000001 01000000", 65);
        refuses("SMALL 0 in the long form", type, 16, "11 000000 00000001 00000000");
        unpacks("SMALL 255", type, "11 000000 00000001 11111111", -1);
        refuses("SMALL 255 in two bytes", type, 16, "11 000000 00000010 00000000 11111111");
        refuses("SMALL 64 in two bytes", type, 16, "11 000000 00000010 00000000 01000000");
        unpacks("SMALL 256", type, "11 000000 00000010 00000001 00000000", -1);
        unpacks("SMALL 65535", type, "11 000000 00000010 11111111 11111111", -1);
        refuses("SMALL 65536", type, 8, "11 000000 00000011 00000001 00000000 00000000");
        refuses("SMALL of no bytes", type, 8, "11 000000 00000000");
        refuses("SMALL, ALIGN", type, 2, "11 000001 00000001 01000000");
        refuses("SMALL, no LENGTH", type, 8, "11 000000");
        refuses("SMALL, no byte", type, 16, "11 000000 00000001");
        refuses("SMALL, a byte lacks", type, 24, "11 000000 00000010 00000001");
        ToIntFunction<PackedCodec> late = x -> x.list(x.enumeration(1, 100), 2, 2);
        refuses("SMALL, bits lack", late, 8, "0 1 0 00000");
    }

    private static void sizeInRange() {
        for (int kind = 0; kind < 4; kind++) {
            Sized sized = ROWS[kind];
            ToIntFunction<PackedCodec> type = behindBit(x -> sized.tell(x, 2, 4));
            String what = "SIZES 2 .. 4 of kind " + (4 + kind);
            refuses(what + ", HIGH + 1", type, 1, "1 11 00000" + binary(0, 40));
            ToIntFunction<PackedCodec> wide = behindBit(x -> sized.tell(x, 0, 300));
            unpacks(what + ", LOW of 0 .. 300", wide, "1 0000000" + binary(0, 16), 1, 0);
            refuses(what + ", HIGH + 1 of 0 .. 300", wide, 8, "1 0000000" + binary(301, 16) + binary(0, 2408));
        }
        ToIntFunction<PackedCodec> list = x -> ROWS[3].tell(x, 2, 4);
        unpacks("SIZES 2 .. 4, LOW", list, "00", 2, 0, 0);
        unpacks("SIZES 2 .. 4, HIGH", list, "10", 4, 0, 0, 0, 0);
    }

    private static void alignOfRows() {
        refuses("BITS 17, ALIGN", behindBit(x -> x.row(0, 17, 17)), 1, "1 0000001" + binary(0, 17));
        unpacks("BITS 16, none", behindBit(x -> x.row(0, 16, 16)), "1" + binary(-1, 16), combine(row(1), times(16, 1)));
        refuses("OCTETS 3, ALIGN", behindBit(x -> x.row(1, 3, 3)), 1, "1 1000000" + binary(0, 24));
        unpacks("OCTETS 2, none", behindBit(x -> x.row(1, 2, 2)), "1" + binary(-1, 16), 1, 2, 255, 255);
        refuses("BITS 0 .. 1, ALIGN", x -> x.row(0, 0, 1), 1, "1 0000001 10000000");
        refuses("OCTETS 0 .. 1, ALIGN", x -> x.row(1, 0, 1), 1, "1 0000001 10000000");
        refuses("BITS 0 .. 1, none: ALIGN at the end", x -> x.row(0, 0, 1), 1, "0 0000001");
        refuses("BITS 0 .. 1, none: a byte is left", x -> x.row(0, 0, 1), 8, "0 0000000 00000000");
        refuses("TEXT of 16 bits, ALIGN", x -> x.text(0, 15, 3, 4), 1, "1 0000001" + binary(0, 16));
        unpacks("TEXT of 12 bits, none", x -> x.text(0, 15, 2, 3), "1 0001 0001 0001", 3, 1, 1, 1);
        refuses("BITS, a bit lacks", x -> x.row(0, 9, 9), 8, "11111111");
        refuses("OCTETS, a bit lacks", behindBit(x -> x.row(1, 1, 1)), 8, "11111111");
        refuses("OCTETS, a byte lacks", x -> x.row(1, 3, 3), 16, "11111111 11111111");
    }

    private static long[] combine(long[] one, long[] other) {
        long[] both = Arrays.copyOf(one, one.length + other.length);
        System.arraycopy(other, 0, both, one.length, other.length);
        return both;
    }

    private static void characters() {
        int[][] texts = {{0, 1}, {1, 1}, {2, 2}, {3, 2}, {4, 4}, {14, 4}, {15, 4}, {16, 8}, {154, 8}};
        for (int[] text : texts) {
            int b = text[1];
            int span = text[0];
            ToIntFunction<PackedCodec> type = behindBit(x -> x.text(101, 101 + span, 1, 1));
            unpacks("FIRST, span " + span, type, "1" + binary(0, b), 1, 1, 101);
            unpacks("LAST, span " + span, type, "1" + binary(span, b), 1, 1, 101 + span);
            if (span + 1 < 1 << b) {
                refuses("LAST + 1, span " + span, type, 1, "1" + binary(span + 1, b));
                refuses("all bits, span " + span, type, 1, "1" + binary(-1, b));
            }
        }
        refuses("the second", x -> x.text(65, 69, 2, 2), 4, "0100 0101");
        refuses("the first of two", x -> x.text(65, 69, 2, 2), 0, "0101 0101");
        refuses("a character lacks", x -> x.text(65, 69, 3, 3), 8, "0100 0100");
        refuses("a character cannot be, ahead of one that lacks", x -> x.text(65, 69, 3, 3), 4, "0100 0101");
    }

    private static int sequence(PackedCodec x, boolean marker, int type, int n, int how) {
        x.open(0, marker);
        for (int i = 0; i < n; i++) {
            x.part(type, how);
        }
        return x.close();
    }

    private static void optionalBits() {
        ToIntFunction<PackedCodec> eight = x -> sequence(x, false, x.simple(1), 8, 1);
        unpacks("8 OPTIONAL ones", eight, "10000001", 1, 0, 0, 0, 0, 0, 0, 1);
        refuses("8 OPTIONAL ones, a byte is left", eight, 8, "10000001 00000000");
        ToIntFunction<PackedCodec> nine = x -> sequence(x, false, x.simple(1), 9, 1);
        unpacks("9 OPTIONAL ones", nine, "10000000 1", 1, 0, 0, 0, 0, 0, 0, 0, 1);
        refuses("9 OPTIONAL ones, a bit lacks", nine, 8, "10000000");
        ToIntFunction<PackedCodec> twenty = x -> sequence(x, false, x.simple(1), 20, 1);
        refuses("20 OPTIONAL ones, bits lack", twenty, 16, "00000000 11111111");
        refuses("OPTIONAL, its bit lacks", x -> sequence(x, false, x.row(0, 8, 8), 1, 1), 8, "1 1111111");
    }

    /** A SEQUENCE with a MARKER, a TRUTH, and so many ADDITIONS, each a TRUTH. */
    private static ToIntFunction<PackedCodec> extended(int additions) {
        return x -> {
            int truth = x.simple(0);
            x.open(0, true);
            x.part(truth, 0);
            for (int i = 0; i < additions; i++) {
                x.part(truth, 2);
            }
            return x.close();
        };
    }

    private static void additionsSeven() {
        ToIntFunction<PackedCodec> type = extended(1);
        unpacks("one is told", type, "11 0000000 1 000000 00000001 10000000", 1, 1, 1);
        refuses("the seven bits, 65", type, 2, "11 1000000 1" + binary(0, 70) + "00000001 10000000");
        refuses("the seven bits, all 1", type, 2, "11 1111111 1" + binary(0, 70) + "00000001 10000000");
        refuses("the seven bits lack", type, 8, "11 000000");
        refuses("the seven bits lack", type, 8, "11 111111");
        String all = "11 0111111 1" + binary(0, 63) + binary(0, 7);
        unpacks("64 are told", type, all + "00000001 10000000", 1, 1, 1);
        String last = "11 0111111 0" + binary(0, 62) + "1" + binary(0, 7);
        unpacks("64 are told, the last is there", type, last + "00000001 11111111", 1, 0);
        unpacks("63 are told", type, "11 0111110 1" + binary(0, 62) + "00000001 10000000", 1, 1, 1);
    }

    private static void additionsRow() {
        ToIntFunction<PackedCodec> type = extended(1);
        refuses("none of one is there", type, 9, "11 0000000 0 000000");
        refuses("none of two is there", type, 9, "11 0000001 00 00000");
        refuses("none of 64 is there", type, 9, "11 0111111" + binary(0, 64) + binary(0, 7));
        refuses("none is there, but bytes are", type, 9, "11 0000000 0 000000 00000001 10000000");
        unpacks("the last of 7 is there", type, "11 0000110 0000001 00000001 11111111", 1, 0);
        unpacks("the first of 7 is there", type, "11 0000110 1000000 00000001 10000000", 1, 1, 1);
        refuses("the row of 8 lacks a bit", type, 16, "11 0000111 0000001");
        refuses("the row of 64 lacks a bit", type, 72, "11 0111111" + binary(-1, 63));
        refuses("ALIGN behind the row", type, 10, "11 0000000 1 000001 00000001 10000000");
        ToIntFunction<PackedCodec> none = extended(0);
        refuses("none is known, none is there", none, 9, "11 0000000 0 000000");
        unpacks("none is known, one is there", none, "11 0000000 1 000000 00000001 10000000", 1);
    }

    private static void additionsKnown() {
        ToIntFunction<PackedCodec> two = extended(2);
        unpacks("both of two", two, "11 0000001 11 00000 00000001 10000000 00000001 00000000", 1, 1, 1, 1, 0);
        unpacks("the first of two", two, "11 0000001 10 00000 00000001 10000000", 1, 1, 1, 0);
        unpacks("the second of two", two, "11 0000001 01 00000 00000001 10000000", 1, 0, 1, 1);
        unpacks("none", two, "01 000000", 1, 0, 0);
        refuses("the second's OPEN lacks", two, 32, "11 0000001 11 00000 00000001 10000000");
        refuses("a byte is left behind them", two, 32, "11 0000001 10 00000 00000001 10000000 00000000");
    }

    private static void additionsNotTold() {
        ToIntFunction<PackedCodec> twenty = x -> sequence(x, true, x.simple(0), 19, 2);
        long[] numbers = new long[20];
        numbers[0] = 1;
        numbers[1] = 1;
        unpacks("one of 19 is told", twenty, "1 0000000 1 0000000 00000001 10000000", numbers);
        long[] last = new long[20];
        last[17] = 1;
        last[18] = 1;
        unpacks("18 of 19 are told", twenty, "1 0010001" + binary(1, 18) + binary(0, 6) + "00000001 10000000", last);
        long[] all = new long[20];
        all[18] = 1;
        all[19] = 1;
        unpacks("19 of 19 are told", twenty, "1 0010010" + binary(1, 19) + binary(0, 5) + "00000001 10000000", all);
        unpacks("20 of 19 are told", twenty, "1 0010011" + binary(1, 20) + binary(0, 4) + "00000001 10000000", new long[19]);
    }

    private static void additionsPassed() {
        ToIntFunction<PackedCodec> type = extended(0);
        String ahead = "11 0000000 1 000000";
        refuses("an OPEN of no bytes", type, 16, ahead + "00000000");
        unpacks("an OPEN of one byte", type, ahead + "00000001 11111111", 1);
        unpacks("an OPEN of two bytes", type, ahead + "00000010 11111111 00000000", 1);
        unpacks("an OPEN of 127 bytes", type, ahead + "01111111" + binary(-1, 8 * 127), 1);
        unpacks("an OPEN of 128 bytes", type, ahead + "10000000 10000000" + binary(-1, 8 * 128), 1);
        refuses("127 in 16 bits", type, 16, ahead + "10000000 01111111" + binary(-1, 8 * 127));
        refuses("a byte lacks", type, 32, ahead + "00000010 11111111");
        refuses("all bytes lack", type, 24, ahead + "00000001");
        refuses("16383 bytes lack", type, 32, ahead + "10111111 11111111");
        refuses("16384 bytes", type, 16, ahead + "11000000 00000000");
        refuses("a byte is left", type, 32, ahead + "00000001 11111111 00000000");
        refuses("no LENGTH", type, 16, ahead);
        Bench b = new Bench();
        int bit = b.codec.simple(0);
        int inner = b.sequence(true, bit, 0);
        int both = b.sequence(false, inner, 0, bit, 0);
        b.unpacks("goes on behind it", both, row(1, 1), Bench.bytes(ahead + "00000001 11111111 10000000"));
        b.refuses("what goes on lacks", both, 32, Bench.bytes(ahead + "00000001 11111111"));
    }

    private static int choice(PackedCodec x, boolean marker, int type, int roots, int added) {
        x.open(1, marker);
        for (int i = 0; i < roots + added; i++) {
            x.part(type, i < roots ? 0 : 2);
        }
        return x.close();
    }

    private static void choiceRoots() {
        ToIntFunction<PackedCodec> plain = x -> choice(x, false, x.simple(0), 3, 0);
        unpacks("the first of 3", plain, "00 1", 0, 1);
        unpacks("the last of 3", plain, "10 1", 2, 1);
        refuses("behind the last of 3", plain, 0, "11 1");
        ToIntFunction<PackedCodec> marked = x -> choice(x, true, x.simple(0), 3, 1);
        unpacks("the last of 3 with a MARKER", marked, "0 10 1", 2, 1);
        refuses("behind the last of 3 with a MARKER", marked, 1, "0 11 1");
        ToIntFunction<PackedCodec> twenty = x -> choice(x, false, x.simple(0), 20, 0);
        unpacks("the last of 20", twenty, "10011 1", 19, 1);
        refuses("behind the last of 20", twenty, 0, "10100 1");
        ToIntFunction<PackedCodec> wide = x -> choice(x, false, x.row(0, 8, 8), 2, 0);
        refuses("its value lacks", wide, 8, "1 1111111");
    }

    private static void choiceBeyond() {
        ToIntFunction<PackedCodec> type = x -> choice(x, true, x.simple(0), 3, 2);
        unpacks("the first added", type, "1 0 000000 00000001 10000000", 3, 1);
        unpacks("the last added", type, "1 0 000001 00000001 10000000", 4, 1);
        unpacks("the first that is not known", type, "1 0 000010 00000001 11111111", -1);
        unpacks("SMALL 63", type, "1 0 111111 00000001 11111111", -1);
        refuses("SMALL 63 in the long form", type, 16, "1 1 000000 00000001 00111111 00000001 11111111");
        unpacks("SMALL 64", type, "1 1 000000 00000001 01000000 00000001 11111111", -1);
        unpacks("SMALL 65535", type, "1 1 000000 00000010" + binary(65535, 16) + "00000001 11111111", -1);
        refuses("SMALL 65536", type, 8, "1 1 000000 00000011" + binary(65536, 24) + "00000001 11111111");
        unpacks("none is added", x -> choice(x, true, x.simple(0), 3, 0), "1 0 000000 00000001 11111111", -1);
    }

    private static void choicePassed() {
        ToIntFunction<PackedCodec> type = x -> choice(x, true, x.simple(0), 3, 0);
        String ahead = "1 0 000000";
        refuses("an OPEN of no bytes", type, 8, ahead + "00000000");
        unpacks("an OPEN of one byte", type, ahead + "00000001 11111111", -1);
        unpacks("an OPEN of 127 bytes", type, ahead + "01111111" + binary(-1, 8 * 127), -1);
        unpacks("an OPEN of 128 bytes", type, ahead + "10000000 10000000" + binary(-1, 8 * 128), -1);
        refuses("a byte lacks", type, 24, ahead + "00000010 11111111");
        refuses("no LENGTH", type, 8, ahead);
        refuses("a byte is left", type, 24, ahead + "00000001 11111111 00000000");
        ToIntFunction<PackedCodec> two = x -> x.list(choice(x, true, x.simple(0), 3, 0), 2, 2);
        unpacks("goes on behind it", two, ahead + "00000001 11111111 0 10 1", 2, -1, 2, 1);
    }

    /** Of an ADDITION that is known. */
    private static void openBytes() {
        ToIntFunction<PackedCodec> type = x -> sequence(x, true, x.row(1, 2, 2), 1, 2);
        String ahead = "1 0000000 1 0000000";
        refuses("no bytes", type, 16, ahead + "00000000");
        refuses("one byte too few", type, 32, ahead + "00000001 11111111 11111111");
        unpacks("as many as it takes", type, ahead + "00000010 11111111 11111111", 1, 2, 255, 255);
        refuses("one byte too many", type, 40, ahead + "00000011 11111111 11111111 00000000");
        refuses("more than there are", type, 40, ahead + "00000011 11111111 11111111");
        refuses("more than there are, though too few for it", type, 24, ahead + "00000001");
        refuses("LENGTH 2 in 16 bits", type, 16, ahead + "10000000 00000010 11111111 11111111");
        ToIntFunction<PackedCodec> bit = x -> sequence(x, true, x.simple(0), 1, 2);
        unpacks("ALIGN in it", bit, ahead + "00000001 10000000", 1, 1);
        refuses("ALIGN in it", bit, 25, ahead + "00000001 10000001");
        refuses("ALIGN in it, ahead of a byte that is left", bit, 25, ahead + "00000010 10000001 00000000");
        ToIntFunction<PackedCodec> nothing = x -> sequence(x, true, x.simple(1), 1, 2);
        unpacks("the byte 0 in it", nothing, ahead + "00000001 00000000", 1);
        refuses("the byte 0 in it", nothing, 24, ahead + "00000001 00000001");
        refuses("the byte 0 in it, of no bytes", nothing, 16, ahead + "00000000");
        refuses("a byte is left behind the byte 0 in it", nothing, 32, ahead + "00000010 00000000 00000000");
        refuses("more than there are, ahead of what is in it", nothing, 32, ahead + "00000010 00000001");
    }

    /** LENGTHS of all bytes that are there, and of one more; of what is known and what is passed over. */
    private static void openByteLacks() {
        for (int n : new int[] {1, 2, 7, 8, 9, 16, 127, 128, 300}) {
            String length = n < 128 ? binary(n, 8) : binary(32768 + n, 16);
            String ahead = "1 0000000 1 0000000" + length;
            int end = 16 + length.length() + 8 * (n - 1);
            ToIntFunction<PackedCodec> passed = x -> sequence(x, true, x.simple(0), 0, 2);
            unpacks(n + " bytes are passed over", passed, ahead + binary(0, 8 * n));
            refuses("one of " + n + " lacks", passed, end, ahead + binary(0, 8 * n - 8));
            Bench b = new Bench();
            int known = sequence(b.codec, true, b.codec.row(1, n, n), 1, 2);
            b.setOctets(Bench.bytes(ahead + binary(0, 8 * n)));
            Due.is(n + " bytes are known", n + 2, b.codec.unpack(known));
            ToIntFunction<PackedCodec> fewer = x -> sequence(x, true, x.row(1, n - 1, n - 1), 1, 2);
            refuses("one of " + n + " lacks, which it needs not", fewer, end, ahead + binary(0, 8 * n - 8));
            ToIntFunction<PackedCodec> bit = x -> sequence(x, true, x.simple(0), 1, 2);
            refuses("one of " + n + " lacks, ahead of a fault", bit, end, ahead + binary(-1, 8 * n - 8));
        }
    }

    /** The inner one's end is the inner one's, though the outer one goes on. */
    private static void openInOpen() {
        ToIntFunction<PackedCodec> type = x -> sequence(x, true, sequence(x, true, x.row(1, 2, 2), 1, 2), 1, 2);
        String ahead = "1 0000000 1 0000000";
        String inner = ahead + "00000101" + ahead;
        unpacks("both", type, inner + "00000010 11111111 11111111", 1, 1, 2, 255, 255);
        refuses("bits lack in the inner one", type, 56, inner + "00000001 11111111 11111111");
        refuses("bytes are left in the outer one", type, 64,
            ahead + "00000110" + ahead + "00000010 11111111 11111111 00000000");
        refuses("the inner one is longer than the outer one", type, 64,
            inner + "00000011 11111111 11111111 00000000");
        refuses("the outer one ends ahead of the LENGTH", type, 40, ahead + "00000010" + ahead + "00000010");
        refuses("the outer one ends in the row", type, 32, ahead + "00000001" + ahead + "00000010");
        refuses("the outer one is longer than all", type, 64,
            ahead + "00000110" + ahead + "00000010 11111111 11111111");
    }

    /** The end of THE OCTETS at 8000. */
    private static void lastBit() {
        Bench b = new Bench();
        PackedCodec x = b.codec;
        int integer = x.integer(0, 0, 0, false);
        int list = x.list(integer, 0, NONE);
        int truth = x.simple(0);
        int more = b.sequence(false, list, 0, truth, 0);
        x.put(111);
        for (int i = 0; i < 111; i++) {
            x.put(MOST);
        }
        Due.is("16 1000 bytes", 1000, x.pack(list));
        Due.is("17 1000 bytes", 112, x.unpack(list));
        Due.is("18 1000 bytes", NONE, x.place());
        Due.is("17 a bit behind them", REFUSED, x.unpack(more));
        Due.is("18 the end", 8000, x.place());
        Due.is("17 999 are left", REFUSED, x.unpack(truth));
        Due.is("18 they are the first", 1, x.place());
        x.turn(7999);
        Due.is("17 above 2^62", REFUSED, x.unpack(list));
        Due.is("18 the last number's bytes", 7936, x.place());
    }

    private static void sixHundred() {
        int[][] sizes = {{299, 298}, {299, 299}, {300, 299}, {300, 300}};
        for (int[] size : sizes) {
            Bench b = new Bench();
            PackedCodec x = b.codec;
            int seven = x.integer(7, 7, 2, false);
            int all = b.sequence(false, x.list(seven, size[0], size[0]), 0, x.list(seven, size[1], size[1]), 0);
            int numbers = 2 + size[0] + size[1];
            b.setValue(4, 5);
            x.feed(0);
            boolean taken = numbers <= 600;
            Due.is("17 " + numbers + " numbers", taken ? numbers : FULL, x.unpack(all));
            Due.is("15 " + numbers + " numbers", taken ? numbers : 2, x.numbers());
            Due.is("14 " + numbers + " numbers", taken ? size[0] : 4, x.number(0));
            Due.is("14 the last", taken ? 7 : 0, x.number(numbers - 1));
            Due.is("18 " + numbers + " numbers", NONE, x.place());
        }
    }

    /** Whatever the 601st number is, it is too many; as the 600th it is not. */
    private static void sixHundredOfEach() {
        for (int kind = 0; kind < 10; kind++) {
            for (int before : new int[] {599, 600}) {
                Bench b = new Bench();
                PackedCodec x = b.codec;
                int seven = x.integer(7, 7, 2, false);
                int list = x.list(seven, 299, 299);
                int other = x.list(seven, before - 301, before - 301);
                int last = lastNumber(b, kind);
                int all = b.sequence(false, list, 0, other, 0, last, 0);
                x.feed(0);
                String what = before == 599 ? "17 the 600th, " + kind : "17 the 601st, " + kind;
                Due.is(what, before == 599 ? 600 : FULL, x.unpack(all));
                x.wipe();
                Due.is(what + ", of which bits lack", REFUSED, x.unpack(all));
                Due.is(what + ", of which bits lack: place", 0, x.place());
            }
        }
    }

    /** A type with one number, and one byte, if all bits are 0. */
    private static int lastNumber(Bench b, int kind) {
        PackedCodec x = b.codec;
        switch (kind) {
            case 0:
                return x.simple(0);
            case 1:
                return x.integer(0, 100, 2, false);
            case 2:
                return x.enumeration(3, 1);
            case 3:
                return x.row(0, 0, 3);
            case 4:
                return x.row(1, 0, NONE);
            case 5:
                return x.text(1, 3, 0, 3);
            case 6:
                return x.list(0, 0, 3);
            case 7:
                return b.sequence(false, x.simple(0), 1);
            case 8:
                return b.sequence(true, x.simple(0), 2);
            default:
                return b.choice(true, x.simple(1), 0);
        }
    }

    /** A number and one that it tells of: both, or the second is the 601st. */
    private static void sixHundredOfItems() {
        String[] bits = {"1", "00000001", "01", "1", "01", "11", "1 0000000 1 0000000 00000001 1"};
        for (int kind = 0; kind < 7; kind++) {
            for (int before : new int[] {598, 599}) {
                Bench b = new Bench();
                PackedCodec x = b.codec;
                int seven = x.integer(7, 7, 2, false);
                int list = x.list(seven, 298, 298);
                int other = x.list(seven, before - 300, before - 300);
                int last = lastTwoNumbers(b, kind);
                int all = b.sequence(false, list, 0, other, 0, last, 0);
                b.setOctets(Bench.bytes(bits[kind]));
                Due.is("17 " + before + " and two, " + kind, before == 598 ? 600 : FULL, x.unpack(all));
            }
        }
    }

    /** A type with two numbers. */
    private static int lastTwoNumbers(Bench b, int kind) {
        PackedCodec x = b.codec;
        switch (kind) {
            case 0:
                return x.row(0, 1, 1);
            case 1:
                return x.row(1, 1, 1);
            case 2:
                return x.text(1, 3, 1, 1);
            case 3:
                return x.list(x.simple(0), 1, 1);
            case 4:
                return b.choice(false, x.simple(0), 0, x.simple(0), 0);
            case 5:
                return b.sequence(false, x.simple(0), 1);
            default:
                return b.sequence(true, x.simple(0), 2);
        }
    }

    /** The first of both that comes. */
    private static void fullOrRefused() {
        Bench b = new Bench();
        PackedCodec x = b.codec;
        int seven = x.integer(7, 7, 2, false);
        int few = x.integer(0, 2, 2, false);
        int list = x.list(seven, 299, 299);
        int shorter = x.list(seven, 298, 298);
        int at600 = b.sequence(false, list, 0, shorter, 0, few, 0, few, 0);
        int at601 = b.sequence(false, list, 0, list, 0, few, 0);
        b.setOctets(Bench.bytes("11 11 0000"));
        Due.is("17 the 600th cannot be", REFUSED, x.unpack(at600));
        Due.is("18 the 600th cannot be", 0, x.place());
        Due.is("17 the 601st cannot be", REFUSED, x.unpack(at601));
        Due.is("18 the 601st cannot be", 0, x.place());
        b.setOctets(Bench.bytes("00 11 0000"));
        Due.is("17 the 601st cannot be", REFUSED, x.unpack(at600));
        Due.is("18 the 601st cannot be", 2, x.place());
        Due.is("17 the 601st, ahead of ALIGN", FULL, x.unpack(at601));
        Due.is("18 the 601st, ahead of ALIGN", NONE, x.place());
        b.setOctets(Bench.bytes("00 00 0001"));
        Due.is("17 the 601st, ahead of ALIGN", FULL, x.unpack(at600));
        int at602 = b.sequence(false, list, 0, list, 0, few, 0, few, 0);
        b.setOctets(Bench.bytes("00 11 0000"));
        Due.is("17 the 601st, ahead of the 602nd", FULL, x.unpack(at602));
        x.wipe();
        Due.is("17 bits of the 601st lack", REFUSED, x.unpack(at601));
        Due.is("18 bits of the 601st lack", 0, x.place());
    }

    private static void stays() {
        Bench b = new Bench();
        PackedCodec x = b.codec;
        int truth = x.simple(0);
        b.setValue(4, 5, 6);
        b.setOctets(1, 2);
        Due.is("17 REFUSED", REFUSED, x.unpack(truth));
        Due.are("17 THE VALUE stays", row(4, 5, 6), b.value());
        Due.are("17 THE OCTETS stay", row(1, 2), b.octets());
        b.setOctets(128);
        Due.is("17 unpack", 1, x.unpack(truth));
        Due.are("17 THE VALUE is another", row(1), b.value());
        Due.are("17 THE OCTETS stay", row(128), b.octets());
        int nothing = x.simple(1);
        b.setOctets(0);
        Due.is("17 to no numbers", 0, x.unpack(nothing));
        Due.is("15 no numbers", 0, x.numbers());
        Due.is("14 no numbers", 0, x.number(0));
    }
}
