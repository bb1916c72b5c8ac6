import java.util.Arrays;

/** Promises 16, 18 and 19, and 17 where it is the way back: what values are packed to. */
public final class PackTest {
    private static final int NONE = PackedCodec.NONE;
    private static final int BAD = PackedCodec.BAD;
    private static final int FULL = PackedCodec.FULL;
    private static final int MISFIT = PackedCodec.MISFIT;
    private static final long MOST = 1L << 62;

    public static void main(String[] args) {
        simpleOnes();
        ranged();
        lowAlone();
        unbounded();
        marked();
        enumerations();
        bitRows();
        octetRows();
        texts();
        textWidths();
        lists();
        sequences();
        additions();
        choices();
        longOpens();
        misfitNumbers();
        misfitRows();
        misfitParts();
        badTypes();
        placeAndBits();
        full();
        misfitBehindFull();
        toldAnew();
        fullInOpen();
        hollowLists();
        Due.end();
    }

    private static long[] row(long... numbers) {
        return numbers;
    }

    /** A new object whose type 0 is TRUTH, and a SEQUENCE of that and the type that is told next. */
    private static final class Shifted {
        final Bench bench = new Bench();

        Shifted() {
            bench.codec.simple(0);
        }

        void bothWays(String what, int type, long[] numbers, int... bytes) {
            int both = bench.sequence(false, 0, 0, type, 0);
            long[] ahead = new long[numbers.length + 1];
            ahead[0] = 1;
            System.arraycopy(numbers, 0, ahead, 1, numbers.length);
            bench.bothWays(what, both, ahead, bytes);
        }
    }

    private static void simpleOnes() {
        Bench b = new Bench();
        b.codec.simple(0);
        b.codec.simple(1);
        b.bothWays("TRUTH 0", 0, row(0), 0);
        b.bothWays("TRUTH 1", 0, row(1), 128);
        b.bothWays("NOTHING", 1, row(), 0);
    }

    private static void ranged() {
        Shifted s = new Shifted();
        PackedCodec x = s.bench.codec;
        s.bench.bothWays("3 .. 9", x.integer(3, 9, 2, false), row(5), 64);
        s.bothWays("R 255", x.integer(0, 254, 2, false), row(7), 131, 128);
        s.bothWays("R 256", x.integer(-1, 254, 2, false), row(7), 128, 8);
        s.bothWays("R 257", x.integer(0, 256, 2, false), row(256), 128, 1, 0);
        s.bothWays("R 65536", x.integer(0, 65535, 2, false), row(65535), 128, 255, 255);
        int wide = x.integer(0, 65536, 2, false);
        s.bothWays("R 65537", wide, row(0), 128, 0);
        s.bothWays("R 65537", wide, row(255), 128, 255);
        s.bothWays("R 65537", wide, row(256), 128 + 32, 1, 0);
        s.bothWays("R 65537", wide, row(65536), 128 + 64, 1, 0, 0);
        int widest = x.integer(-MOST / 2, MOST / 2, 2, false);
        s.bench.bothWays("widest", widest, row(MOST / 2), 224, 64, 0, 0, 0, 0, 0, 0, 0);
        s.bench.bothWays("widest", widest, row(-MOST / 2), 0, 0);
        s.bench.bothWays("2^24 - 1", x.integer(0, 16777215, 2, false), row(16777215), 128, 255, 255, 255);
        s.bench.bothWays("2^24", x.integer(0, 16777216, 2, false), row(16777216), 192, 1, 0, 0, 0);
    }

    private static void lowAlone() {
        Shifted s = new Shifted();
        int t = s.bench.codec.integer(-5, 0, 1, false);
        s.bothWays("LOW", t, row(-5), 128, 1, 0);
        s.bothWays("LOW", t, row(250), 128, 1, 255);
        s.bothWays("LOW", t, row(251), 128, 2, 1, 0);
        s.bothWays("LOW", t, row(MOST), 128, 8, 64, 0, 0, 0, 0, 0, 0, 5);
        int u = s.bench.codec.integer(-MOST / 2, 0, 1, false);
        s.bench.bothWays("least LOW", u, row(MOST), 8, 96, 0, 0, 0, 0, 0, 0, 0);
    }

    private static void unbounded() {
        Shifted s = new Shifted();
        int t = s.bench.codec.integer(0, 0, 0, false);
        s.bothWays("none", t, row(0), 128, 1, 0);
        s.bothWays("none", t, row(-1), 128, 1, 255);
        s.bothWays("none", t, row(127), 128, 1, 127);
        s.bothWays("none", t, row(128), 128, 2, 0, 128);
        s.bothWays("none", t, row(-128), 128, 1, 128);
        s.bothWays("none", t, row(-129), 128, 2, 255, 127);
        s.bothWays("none", t, row(MOST), 128, 8, 64, 0, 0, 0, 0, 0, 0, 0);
        s.bothWays("none", t, row(-MOST), 128, 8, 192, 0, 0, 0, 0, 0, 0, 0);
    }

    private static void marked() {
        Bench b = new Bench();
        int t = b.codec.integer(1, 9, 2, true);
        b.bothWays("marked", t, row(1), 0);
        b.bothWays("marked", t, row(9), 64);
        b.bothWays("marked", t, row(10), 128, 1, 10);
        b.bothWays("marked", t, row(0), 128, 1, 0);
        b.bothWays("marked", t, row(-1), 128, 1, 255);
        b.bothWays("marked", t, row(-MOST), 128, 8, 192, 0, 0, 0, 0, 0, 0, 0);
        int one = b.codec.integer(4, 4, 2, true);
        b.bothWays("marked one", one, row(4), 0);
        Due.is("19 the bit of a MARKER", 1, b.codec.bits());
    }

    private static void enumerations() {
        Shifted s = new Shifted();
        PackedCodec x = s.bench.codec;
        s.bench.bothWays("enumeration", x.enumeration(3, NONE), row(2), 128);
        s.bench.bothWays("enumeration of one", x.enumeration(1, NONE), row(0), 0);
        s.bench.bothWays("with a marker", x.enumeration(3, 0), row(2), 64);
        int t = x.enumeration(2, 100);
        s.bench.bothWays("root", t, row(1), 64);
        s.bench.bothWays("SMALL 0", t, row(2), 128);
        Due.is("19 SMALL 0", 8, x.bits());
        s.bench.bothWays("SMALL 63", t, row(65), 191);
        s.bench.bothWays("SMALL 64", t, row(66), 192, 1, 64);
        s.bench.bothWays("SMALL 99", t, row(101), 192, 1, 99);
        s.bothWays("of 256", x.enumeration(256, NONE), row(255), 128, 255);
        s.bothWays("of 300", x.enumeration(300, NONE), row(299), 128, 1, 43);
    }

    private static void bitRows() {
        Shifted s = new Shifted();
        PackedCodec x = s.bench.codec;
        s.bothWays("BITS 16", x.row(0, 16, 16),
            row(16, 0, 1, 0, 1, 0, 1, 0, 1, 0, 1, 0, 1, 0, 1, 0, 1), 170, 170, 128);
        s.bothWays("BITS 17", x.row(0, 17, 17),
            row(17, 1, 1, 1, 1, 1, 1, 1, 1, 1, 1, 1, 1, 1, 1, 1, 1, 1), 128, 255, 255, 128);
        s.bothWays("BITS 0", x.row(0, 0, 0), row(0), 128);
        int few = x.row(0, 1, 2);
        s.bothWays("BITS 1 .. 2", few, row(1, 1), 128, 128);
        s.bothWays("BITS 1 .. 2", few, row(2, 1, 1), 192, 192);
        s.bothWays("BITS 0 .. 2", x.row(0, 0, 2), row(0), 128);
        int any = x.row(0, 0, NONE);
        s.bothWays("BITS from 0 on", any, row(0), 128, 0);
        s.bothWays("BITS from 0 on", any, row(3, 1, 0, 1), 128, 3, 160);
        s.bothWays("BITS from 1 on", x.row(0, 1, NONE), row(1, 1), 128, 1, 128);
        int noneAndBit = s.bench.sequence(false, x.row(0, 0, 2), 0, 0, 0);
        s.bench.bothWays("no ALIGN without BITS", noneAndBit, row(0, 1), 32);
        s.bench.bothWays("ALIGN with BITS", noneAndBit, row(1, 1, 1), 64, 192);
        manyBits();
    }

    private static void manyBits() {
        Bench b = new Bench();
        int any = b.codec.row(0, 0, NONE);
        long[] many = new long[129];
        many[0] = 128;
        int[] bytes = new int[18];
        bytes[0] = 128;
        bytes[1] = 128;
        b.bothWays("BITS, LENGTH 128", any, many, bytes);
        many = new long[128];
        many[0] = 127;
        bytes = new int[17];
        bytes[0] = 127;
        b = new Bench();
        any = b.codec.row(0, 0, NONE);
        b.bothWays("BITS, LENGTH 127", any, many, bytes);
    }

    private static void octetRows() {
        Shifted s = new Shifted();
        PackedCodec x = s.bench.codec;
        s.bothWays("OCTETS 2", x.row(1, 2, 2), row(2, 255, 1), 255, 128, 128);
        s.bothWays("OCTETS 3", x.row(1, 3, 3), row(3, 255, 1, 2), 128, 255, 1, 2);
        s.bothWays("OCTETS 0", x.row(1, 0, 0), row(0), 128);
        int few = x.row(1, 0, 2);
        s.bothWays("OCTETS 0 .. 2", few, row(0), 128);
        s.bothWays("OCTETS 0 .. 2", few, row(2, 255, 1), 192, 255, 1);
        s.bothWays("OCTETS 0 .. 1", x.row(1, 0, 1), row(1, 9), 192, 9);
        s.bothWays("OCTETS 0 .. 254", x.row(1, 0, 254), row(1, 9), 128, 128, 9);
        s.bothWays("OCTETS 0 .. 255", x.row(1, 0, 255), row(1, 9), 128, 1, 9);
        s.bothWays("OCTETS 0 .. 300", x.row(1, 0, 300), row(1, 9), 128, 0, 1, 9);
        s.bothWays("OCTETS from 0 on", x.row(1, 0, NONE), row(2, 9, 8), 128, 2, 9, 8);
        Bench b = new Bench();
        long[] many = new long[301];
        many[0] = 300;
        b.codec.row(1, 300, NONE);
        b.setValue(many);
        Due.is("OCTETS, LENGTH 300", 302, b.codec.pack(0));
        Due.is("OCTETS, LENGTH 300", 129, b.codec.octet(0));
        Due.is("OCTETS, LENGTH 300", 44, b.codec.octet(1));
        Due.is("OCTETS, LENGTH 300", 301, b.codec.unpack(0));
        Due.is("OCTETS, LENGTH 300", 300, b.codec.number(0));
    }

    private static void texts() {
        Shifted s = new Shifted();
        PackedCodec x = s.bench.codec;
        s.bothWays("TEXT 12 bits", x.text(48, 57, 0, 3), row(2, 49, 50), 194, 64);
        s.bothWays("TEXT 16 bits, LOW = HIGH", x.text(48, 57, 4, 4), row(4, 49, 50, 51, 52), 137, 26, 0);
        int aligned = x.text(48, 57, 0, 4);
        s.bothWays("TEXT 16 bits", aligned, row(1, 49), 144, 16);
        s.bothWays("TEXT 16 bits", aligned, row(0), 128);
        s.bothWays("TEXT 20 bits", x.text(48, 57, 5, 5), row(5, 49, 50, 51, 52, 53), 128, 18, 52, 80);
        s.bothWays("TEXT 8 bits", x.text(0, 255, 1, 1), row(1, 255), 255, 128);
        s.bothWays("TEXT 8 bits, two", x.text(0, 255, 2, 2), row(2, 255, 1), 255, 128, 128);
        s.bothWays("TEXT 8 bits, up to two", x.text(0, 255, 1, 2), row(1, 255), 128, 255);
        s.bothWays("TEXT from 0 on", x.text(65, 66, 0, NONE), row(3, 65, 66, 66), 128, 3, 96);
        s.bothWays("TEXT from 0 on, none", x.text(65, 66, 0, NONE), row(0), 128, 0);
        s.bothWays("TEXT 0", x.text(65, 66, 0, 0), row(0), 128);
    }

    private static void textWidths() {
        Shifted s = new Shifted();
        PackedCodec x = s.bench.codec;
        s.bench.bothWays("one character", x.text(65, 65, 2, 2), row(2, 65, 65), 0);
        Due.is("19 one character", 2, x.bits());
        s.bench.bothWays("two", x.text(65, 66, 2, 2), row(2, 66, 65), 128);
        Due.is("19 two", 2, x.bits());
        s.bench.bothWays("three", x.text(65, 67, 2, 2), row(2, 67, 66), 144);
        s.bench.bothWays("four", x.text(65, 68, 2, 2), row(2, 68, 66), 208);
        s.bench.bothWays("five", x.text(65, 69, 2, 2), row(2, 69, 66), 65);
        s.bench.bothWays("sixteen", x.text(65, 80, 2, 2), row(2, 80, 66), 241);
        s.bench.bothWays("seventeen", x.text(65, 81, 1, 1), row(1, 81), 16);
        Due.is("19 seventeen", 8, x.bits());
        long[] fifteen = new long[16];
        Arrays.fill(fifteen, 66);
        fifteen[0] = 15;
        s.bothWays("15 bits", x.text(65, 66, 0, 15), fifteen, 255, 255, 240);
        s.bothWays("15 of 16 bits", x.text(65, 66, 0, 16), fifteen, 188, 255, 254);
    }

    private static void lists() {
        Shifted s = new Shifted();
        PackedCodec x = s.bench.codec;
        int few = x.list(0, 0, 3);
        s.bench.bothWays("LIST 0 .. 3", few, row(3, 1, 0, 1), 232);
        s.bench.bothWays("LIST 0 .. 3", few, row(0), 0);
        s.bothWays("LIST 2", x.list(0, 2, 2), row(2, 1, 0), 192);
        s.bothWays("LIST from 1 on", x.list(0, 1, NONE), row(2, 1, 1), 128, 2, 192);
        s.bench.bothWays("LIST of LISTS", x.list(few, 0, 3), row(2, 1, 1, 2, 0, 1), 156, 128);
    }

    private static void sequences() {
        Bench b = new Bench();
        b.codec.simple(0);
        b.codec.simple(1);
        b.codec.integer(0, 7, 2, false);
        int s = b.sequence(false, 2, 1, 0, 0, 1, 1);
        b.bothWays("OPTIONAL", s, row(0, 1, 0), 32);
        b.bothWays("OPTIONAL", s, row(1, 5, 0, 1), 64 + 128 + 40);
        b.bothWays("only OPTIONAL", b.sequence(false, 1, 1), row(1), 128);
        b.bothWays("only an ADDITION", b.sequence(true, 1, 2), row(1), 128, 128, 1, 0);
        int empty = b.sequence(false);
        b.bothWays("empty", empty, row(), 0);
        int marked = b.sequence(true);
        b.bothWays("empty with a MARKER", marked, row(), 0);
        Due.is("19 the bit of a MARKER", 1, b.codec.bits());
    }

    private static void additions() {
        Bench b = new Bench();
        b.codec.simple(0);
        b.codec.simple(1);
        b.codec.integer(0, 7, 2, false);
        b.codec.row(1, 0, NONE);
        int s = b.sequence(true, 0, 0, 2, 1, 1, 1, 3, 2, 2, 2, 1, 2);
        b.bothWays("no ADDITION", s, row(1, 0, 0, 0, 0, 0), 16);
        b.bothWays("all", s, row(1, 1, 3, 0, 1, 2, 9, 8, 1, 6, 1), 214, 11, 128, 3, 2, 9, 8, 1, 192, 1, 0);
        b.bothWays("the second", s, row(0, 0, 0, 0, 1, 6, 0), 128, 64 + 8, 1, 192);
        b.bothWays("the last", s, row(0, 0, 0, 0, 0, 1), 128, 64 + 4, 1, 0);
        int two = b.sequence(false, s, 0, 0, 0);
        b.bothWays("behind it", two, row(0, 0, 0, 0, 0, 1, 1), 128, 64 + 4, 1, 0, 128);
    }

    private static void choices() {
        Bench b = new Bench();
        b.codec.simple(0);
        b.codec.simple(1);
        b.codec.integer(0, 7, 2, false);
        b.codec.row(1, 0, NONE);
        int c = b.choice(true, 2, 0, 0, 0, 3, 2, 1, 2);
        b.bothWays("CHOICE 0", c, row(0, 5), 40);
        b.bothWays("CHOICE 1", c, row(1, 1), 96);
        b.bothWays("CHOICE 2", c, row(2, 1, 9), 128, 2, 1, 9);
        b.bothWays("CHOICE 3", c, row(3), 129, 1, 0);
        int one = b.choice(false, 1, 0);
        b.bothWays("CHOICE of one", one, row(0), 0);
        Due.is("19 CHOICE of one", 0, b.codec.bits());
        int three = b.choice(false, 1, 0, 1, 0, 0, 0);
        b.bothWays("CHOICE of three", three, row(2, 1), 160);
    }

    /** The LENGTH of an OPEN takes two bytes from 128 on, in one another, too. */
    private static void longOpens() {
        for (int n = 120; n < 131; n++) {
            Bench b = new Bench();
            b.codec.row(1, 0, NONE);
            int inner = b.sequence(true, 0, 2);
            int outer = b.sequence(true, inner, 2);
            b.codec.put(1);
            b.codec.put(1);
            b.codec.put(n);
            for (int i = 0; i < n; i++) {
                b.codec.put(i);
            }
            int rowBytes = n + (n < 128 ? 1 : 2);
            int innerBytes = 2 + (rowBytes < 128 ? 1 : 2) + rowBytes;
            int outerBytes = 2 + (innerBytes < 128 ? 1 : 2) + innerBytes;
            Due.is("OPEN in an OPEN, " + n, outerBytes, b.codec.pack(outer));
            Due.is("its marker", 128, b.codec.octet(0));
            Due.is("its row", 128, b.codec.octet(1));
            Due.is("its LENGTH", innerBytes < 128 ? innerBytes : 128, b.codec.octet(2));
            int at = innerBytes < 128 ? 3 : 4;
            Due.is("inner marker", 128, b.codec.octet(at));
            Due.is("inner LENGTH", rowBytes < 128 ? rowBytes : 128, b.codec.octet(at + 2));
            Due.is("last", n - 1, b.codec.octet(outerBytes - 1));
            Due.is("last but one", n - 2, b.codec.octet(outerBytes - 2));
            b.codec.drop();
            Due.is("back", n + 3, b.codec.unpack(outer));
            Due.is("back, first", 0, b.codec.number(3));
            Due.is("back, last", n - 1, b.codec.number(n + 2));
        }
    }

    private static void misfitNumbers() {
        Bench b = new Bench();
        PackedCodec x = b.codec;
        int truth = x.simple(0);
        b.misfits("TRUTH 2", truth, 0, 2);
        b.misfits("TRUTH -1", truth, 0, -1);
        b.misfits("TRUTH without a number", truth, 0);
        b.misfits("TRUTH and more", truth, 1, 1, 0, 0);
        int nothing = x.simple(1);
        b.misfits("NOTHING and more", nothing, 0, 0);
        int none = x.integer(0, 0, 0, false);
        b.misfits("too great", none, 0, MOST + 1);
        b.misfits("too small", none, 0, -MOST - 1);
        b.misfits("least long", none, 0, Long.MIN_VALUE);
        int low = x.integer(-5, 0, 1, false);
        b.misfits("below LOW", low, 0, -6);
        b.misfits("too great", low, 0, MOST + 1);
        int both = x.integer(3, 9, 2, false);
        b.misfits("below LOW", both, 0, 2);
        b.misfits("above HIGH", both, 0, 10);
        int marked = x.integer(3, 9, 2, true);
        b.misfits("too great", marked, 0, MOST + 1);
        b.misfits("too small", marked, 0, -MOST - 1);
        int items = x.enumeration(3, NONE);
        b.misfits("item 3", items, 0, 3);
        b.misfits("item -1", items, 0, -1);
        int more = x.enumeration(3, 2);
        b.misfits("item 5", more, 0, 5);
        b.misfits("item -1", more, 0, -1);
        b.misfits("item 2^32", more, 0, 1L << 32);
    }

    private static void misfitRows() {
        Bench b = new Bench();
        PackedCodec x = b.codec;
        int bitRow = x.row(0, 1, 3);
        b.misfits("too few", bitRow, 0, 0);
        b.misfits("too many", bitRow, 0, 4, 0, 0, 0, 0);
        b.misfits("no bit", bitRow, 2, 2, 1, 2);
        b.misfits("more had to come", bitRow, 2, 3, 1);
        b.misfits("one is too many", bitRow, 2, 1, 1, 1);
        int octetRow = x.row(1, 0, NONE);
        b.misfits("no byte", octetRow, 1, 1, 256);
        b.misfits("no byte", octetRow, 1, 1, -1);
        b.misfits("301", octetRow, 0, 301);
        b.misfits("300, and more had to come", octetRow, 1, 300);
        int digits = x.text(48, 57, 2, NONE);
        b.misfits("below LOW", digits, 0, 1, 48);
        b.misfits("below FIRST", digits, 2, 2, 48, 47);
        b.misfits("above LAST", digits, 1, 2, 58, 48);
        x.simple(0);
        int list = x.list(3, 1, 2);
        b.misfits("LIST too short", list, 0, 0);
        b.misfits("LIST too long", list, 0, 3, 1, 1, 1);
        b.misfits("LIST item", list, 2, 2, 1, 2);
        b.misfits("LIST, more had to come", list, 2, 2, 1);
    }

    private static void misfitParts() {
        Bench b = new Bench();
        b.codec.simple(0);
        int s = b.sequence(true, 0, 1, 0, 0, 0, 2);
        b.misfits("whether it is there", s, 0, 2, 1, 0);
        b.misfits("whether the ADDITION is there", s, 2, 0, 1, 2);
        b.misfits("the ADDITION", s, 3, 0, 1, 1, 2);
        b.misfits("more had to come", s, 2, 0, 1);
        b.misfits("one is too many", s, 3, 0, 1, 0, 0);
        int c = b.choice(true, 0, 0, 0, 2);
        b.misfits("alternative 2", c, 0, 2, 1);
        b.misfits("alternative -1", c, 0, -1);
        b.misfits("its value", c, 1, 1, 2);
        b.misfits("its value had to come", c, 1, 0);
    }

    private static void badTypes() {
        Bench b = new Bench();
        PackedCodec x = b.codec;
        x.simple(0);
        x.put(5);
        x.put(5);
        Due.is("16 misfit", MISFIT, x.pack(0));
        Due.is("16 type -1", BAD, x.pack(-1));
        Due.is("16 type 1", BAD, x.pack(1));
        Due.is("17 type -1", BAD, x.unpack(-1));
        Due.is("17 type 1", BAD, x.unpack(1));
        x.open(0, false);
        Due.is("16 it is open", BAD, x.pack(1));
        Due.is("17 it is open", BAD, x.unpack(1));
        Due.is("18 BAD leaves the place", 0, x.place());
        b.setValue(1);
        Due.is("16 while another is open", 1, x.pack(0));
        Due.is("17 while another is open", 1, x.unpack(0));
    }

    private static void placeAndBits() {
        Bench b = new Bench();
        PackedCodec x = b.codec;
        int truth = x.simple(0);
        x.list(truth, 0, 300);
        b.setValue(2, 1, 1);
        Due.is("18 before any", NONE, x.place());
        Due.is("19 before any", 0, x.bits());
        Due.is("16 list", 3, x.pack(1));
        Due.is("19 bits", 18, x.bits());
        b.setValue(2, 1, 7);
        Due.is("16 misfit", MISFIT, x.pack(1));
        Due.is("18 place", 2, x.place());
        Due.is("19 bits stay", 18, x.bits());
        Due.is("17 unpack", 3, x.unpack(1));
        Due.is("18 no fault any more", NONE, x.place());
        Due.is("19 unpack leaves bits", 18, x.bits());
        Due.is("17 refused", PackedCodec.REFUSED, x.unpack(0));
        Due.is("18 a bit", 8, x.place());
        Due.is("16 pack", 3, x.pack(1));
        Due.is("18 no fault any more", NONE, x.place());
        b.setValue(0);
        x.pack(truth);
        Due.is("19 bits", 1, x.bits());
        x.wipe();
        x.drop();
        x.clear();
        Due.is("19 bits stay", 1, x.bits());
    }

    private static void full() {
        Bench b = new Bench();
        PackedCodec x = b.codec;
        x.integer(0, 0, 0, false);
        x.list(0, 0, NONE);
        b.setValue(0);
        Due.is("16 pack", 1, x.pack(1));
        x.drop();
        x.put(112);
        for (int i = 0; i < 111; i++) {
            x.put(MOST);
        }
        Due.is("16 one had to come", MISFIT, x.pack(1));
        Due.is("18 place", 112, x.place());
        x.put(0);
        Due.is("16 1002 bytes", FULL, x.pack(1));
        Due.is("18 place of FULL", NONE, x.place());
        Due.is("19 bits stay", 8, x.bits());
        Due.is("24 octets stay", 1, x.octets());
        Due.is("23 octets stay", 0, x.octet(0));
        x.put(1);
        Due.is("16 MISFIT before FULL", MISFIT, x.pack(1));
        Due.is("18 place", 113, x.place());
        b.setValue(0);
        Due.is("16 no more FULL", 1, x.pack(1));
    }

    /** What comes behind the 1000th byte must fit as well. */
    private static void misfitBehindFull() {
        Bench b = new Bench();
        PackedCodec x = b.codec;
        x.integer(0, 0, 0, false);
        int list = x.list(0, 0, NONE);
        int nothing = x.simple(1);
        int truth = x.simple(0);
        int optional = b.sequence(false, nothing, 1);
        int addition = b.sequence(true, nothing, 2);
        int second = b.sequence(false, nothing, 0, truth, 0, nothing, 0);
        int choice = b.choice(true, nothing, 0, truth, 2);
        int all = b.sequence(false, list, 0, optional, 0, addition, 0, second, 0, choice, 0);
        x.put(112);
        for (int i = 0; i < 112; i++) {
            x.put(MOST);
        }
        int[] fitting = {1, 1, 1, 1, 1};
        for (int number : fitting) {
            Due.is("16 more had to come", MISFIT, x.pack(all));
            Due.is("18 place", x.numbers(), x.place());
            x.put(number);
        }
        Due.is("16 all fits", FULL, x.pack(all));
        x.put(0);
        Due.is("16 one is too many", MISFIT, x.pack(all));
        Due.is("18 place", 118, x.place());
    }

    /** A type's place may have been another's before. */
    private static void toldAnew() {
        Bench b = new Bench();
        b.codec.simple(0);
        b.sequence(true, 0, 1, 0, 1, 0, 2);
        b.codec.clear();
        b.codec.simple(0);
        int s = b.sequence(false, 0, 1, 0, 0);
        b.bothWays("told anew", s, row(1, 1, 1), 224);
        b.codec.clear();
        b.codec.integer(0, 9, 2, false);
        b.codec.integer(5, 5, 1, false);
        b.bothWays("told anew", 1, row(5), 1, 0);
        b.codec.clear();
        b.codec.integer(5, 5, 0, false);
        b.bothWays("told anew", 0, row(-1), 1, 255);
    }

    /** 2 bytes ahead, a LENGTH of 2, then 1 of the LIST's LENGTH, 990 and the last integer's. */
    private static void fullInOpen() {
        Bench b = new Bench();
        PackedCodec x = b.codec;
        x.integer(0, 0, 0, false);
        x.list(0, 0, NONE);
        int s = b.sequence(true, 1, 2);
        x.put(1);
        x.put(111);
        for (int i = 0; i < 110; i++) {
            x.put(-MOST);
        }
        x.put(1L << 30);
        Due.is("16 1000 bytes", 1000, x.pack(s));
        Due.is("its LENGTH", 128 + 3, x.octet(2));
        Due.is("its LENGTH", 996 - 768, x.octet(3));
        Due.is("the last byte", 0, x.octet(999));
        Due.is("the last byte but three", 64, x.octet(996));
        Due.is("17 back", 113, x.unpack(s));
        Due.is("14 back", 1L << 30, x.number(112));
        x.drop();
        x.put(1);
        x.put(111);
        for (int i = 0; i < 110; i++) {
            x.put(-MOST);
        }
        x.put(1L << 31);
        Due.is("16 1001 bytes", FULL, x.pack(s));
        Due.is("24 octets stay", 1000, x.octets());
    }

    /** What has no numbers, however much of it there is, ends soon. */
    private static void hollowLists() {
        Bench b = new Bench();
        PackedCodec x = b.codec;
        x.simple(1);
        int hollow = b.sequence(false, new int[40]);
        int list = x.list(hollow, 0, 300);
        b.bothWays("300 times nothing", list, row(300), 1, 44);
        int bit = b.sequence(true);
        int bitList = x.list(bit, 0, 300);
        b.setValue(300);
        Due.is("300 MARKERS", 2 + 38, x.pack(bitList));
        Due.is("19 300 MARKERS", 316, x.bits());
        Due.is("300 MARKERS back", 1, x.unpack(bitList));
        int deep = x.list(bitList, 28, 28);
        x.drop();
        x.put(28);
        for (int i = 0; i < 28; i++) {
            x.put(300);
        }
        Due.is("28 times 300 MARKERS", FULL, x.pack(deep));
        x.put(1);
        Due.is("28 times 300 MARKERS, one too many", MISFIT, x.pack(deep));
        Due.is("18 place", 29, x.place());
    }
}
