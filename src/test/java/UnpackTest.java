/** Promises 17 and 18: what is refused and where, what is read of types that were extended later. */
public final class UnpackTest {
    private static final int NONE = PackedCodec.NONE;
    private static final int FULL = PackedCodec.FULL;
    private static final int REFUSED = PackedCodec.REFUSED;

    public static void main(String[] args) {
        wholes();
        ranged();
        rangedInBytes();
        lengths();
        lowAlone();
        signed();
        marked();
        enumerations();
        smalls();
        rows();
        texts();
        lists();
        sequences();
        additionsTold();
        additionsUnknown();
        additionsFewer();
        manyAdditions();
        opens();
        opensInOpens();
        choices();
        full();
        fullOrRefused();
        Due.end();
    }

    private static long[] row(long... numbers) {
        return numbers;
    }

    private static void wholes() {
        Bench b = new Bench();
        int truth = b.codec.simple(0);
        int nothing = b.codec.simple(1);
        b.refuses("no bytes", truth, 0);
        b.refuses("ALIGN at the end", truth, 1, 1);
        b.refuses("ALIGN at the end", truth, 1, 192);
        b.refuses("a byte is left", truth, 8, 128, 0);
        b.refuses("ALIGN comes first", truth, 1, 129, 0);
        b.refuses("no byte 0", nothing, 0);
        b.refuses("the byte 0", nothing, 0, 1);
        b.refuses("a byte is left", nothing, 8, 0, 0);
        b.unpacks("NOTHING", nothing, row(), 0);
        int one = b.codec.integer(7, 7, 2, false);
        b.refuses("the byte 0", one, 0, 128);
        b.unpacks("one", one, row(7), 0);
    }

    private static void ranged() {
        Bench b = new Bench();
        int truth = b.codec.simple(0);
        int few = b.codec.integer(3, 9, 2, false);
        b.refuses("above R", few, 0, 224);
        b.refuses("ALIGN", few, 3, 1);
        b.refuses("above R, behind a bit", b.sequence(false, truth, 0, few, 0), 1, 128 + 112);
        int wide = b.codec.integer(0, 254, 2, false);
        b.refuses("bits lack", b.sequence(false, truth, 0, wide, 0), 8, 255);
        b.refuses("above R", b.sequence(false, truth, 0, wide, 0), 1, 255, 128);
        int byteWide = b.sequence(false, truth, 0, b.codec.integer(0, 255, 2, false), 0);
        b.refuses("ALIGN", byteWide, 1, 192, 5);
        b.refuses("a byte lacks", byteWide, 8, 128);
        b.unpacks("all of a byte", byteWide, row(1, 255), 128, 255);
        int two = b.sequence(false, truth, 0, b.codec.integer(0, 256, 2, false), 0);
        b.refuses("above R", two, 8, 128, 1, 1);
        b.refuses("a byte lacks", two, 16, 128, 1);
        b.refuses("ALIGN", two, 1, 160, 1, 1);
    }

    private static void rangedInBytes() {
        Bench b = new Bench();
        int t = b.codec.integer(0, 65536, 2, false);
        b.refuses("n", t, 0, 192, 1, 0, 0, 0);
        b.refuses("ALIGN", t, 2, 65, 1, 0);
        b.refuses("fewer bytes would do", t, 8, 64, 0, 5);
        b.refuses("above R", t, 8, 128, 1, 0, 1);
        b.refuses("bytes lack", t, 24, 128, 1, 0);
        int widest = b.codec.integer(-(1L << 61), 1L << 61, 2, false);
        b.refuses("above R", widest, 8, 224, 64, 0, 0, 0, 0, 0, 0, 1);
        b.refuses("above all", widest, 8, 224, 255, 0, 0, 0, 0, 0, 0, 1);
        b.refuses("fewer bytes would do", widest, 8, 224, 0, 255, 0, 0, 0, 0, 0, 1);
        b.unpacks("the most", widest, row(1L << 61), 224, 64, 0, 0, 0, 0, 0, 0, 0);
    }

    private static void lengths() {
        Bench b = new Bench();
        int truth = b.codec.simple(0);
        int octets = b.codec.row(1, 2, NONE);
        int t = b.sequence(false, truth, 0, octets, 0);
        b.refuses("ALIGN of a LENGTH", t, 1, 144, 2, 1, 1);
        b.refuses("no LENGTH", t, 8, 128);
        b.refuses("below LOW", t, 8, 128, 1, 1);
        b.refuses("half a LENGTH", t, 16, 128, 128);
        b.refuses("a LENGTH too long", t, 8, 128, 128, 2, 1, 1);
        b.refuses("a LENGTH too long", t, 8, 128, 128, 127, 1, 1);
        b.refuses("beyond 16383", t, 8, 128, 192, 0);
        b.refuses("beyond 16383", t, 8, 128, 255);
        b.refuses("beyond 16383", t, 8, 128, 192);
        b.refuses("301", t, 8, 128, 129, 45);
        b.refuses("300, and bytes lack", t, 24, 128, 129, 44);
        b.refuses("bytes lack", t, 24, 128, 2, 1);
    }

    private static void lowAlone() {
        Bench b = new Bench();
        int t = b.codec.integer(-5, 0, 1, false);
        b.refuses("LENGTH 0", t, 0, 0);
        b.refuses("LENGTH 9", t, 0, 9, 1, 0, 0, 0, 0, 0, 0, 0, 0);
        b.refuses("LENGTH 65, of which bytes lack", t, 0, 65, 5);
        b.refuses("fewer bytes would do", t, 8, 2, 0, 1);
        b.refuses("bytes lack", t, 16, 2, 1);
        b.refuses("above 2^62", t, 8, 8, 64, 0, 0, 0, 0, 0, 0, 6);
        b.refuses("above all", t, 8, 8, 128, 0, 0, 0, 0, 0, 0, 6);
        b.refuses("a byte is left", t, 16, 1, 1, 1);
        b.unpacks("the most", t, row(1L << 62), 8, 64, 0, 0, 0, 0, 0, 0, 5);
    }

    private static void signed() {
        Bench b = new Bench();
        int t = b.codec.integer(0, 0, 0, false);
        b.refuses("LENGTH 0", t, 0, 0);
        b.refuses("LENGTH 9", t, 0, 9, 1, 0, 0, 0, 0, 0, 0, 0, 0);
        b.refuses("fewer bytes would do", t, 8, 2, 0, 127);
        b.refuses("fewer bytes would do", t, 8, 2, 255, 128);
        b.refuses("above 2^62", t, 8, 8, 64, 0, 0, 0, 0, 0, 0, 1);
        b.refuses("below - 2^62", t, 8, 8, 191, 255, 255, 255, 255, 255, 255, 255);
        b.refuses("bytes lack", t, 16, 2, 255);
        b.unpacks("128", t, row(128), 2, 0, 128);
        b.unpacks("the least", t, row(-(1L << 62)), 8, 192, 0, 0, 0, 0, 0, 0, 0);
    }

    private static void marked() {
        Bench b = new Bench();
        int t = b.codec.integer(1, 9, 2, true);
        b.refuses("within", t, 16, 128, 1, 5);
        b.refuses("within, the edge", t, 16, 128, 1, 9);
        b.refuses("above R", t, 1, 72);
        b.refuses("ALIGN", t, 1, 129, 1, 10);
        b.refuses("no LENGTH", t, 8, 128);
        b.unpacks("outside", t, row(10), 128, 1, 10);
        int u = b.codec.integer(-128, 127, 2, true);
        b.refuses("within, of one byte", u, 16, 128, 1, 5);
    }

    private static void enumerations() {
        Bench b = new Bench();
        b.refuses("above r", b.codec.enumeration(3, NONE), 0, 192);
        int t = b.codec.enumeration(3, 1);
        b.refuses("above r", t, 1, 96);
        b.unpacks("known", t, row(3), 128);
        b.unpacks("beyond", t, row(-1), 129);
        b.unpacks("beyond", t, row(-1), 191);
        int none = b.codec.enumeration(3, 0);
        b.unpacks("beyond none", none, row(-1), 128);
        b.codec.list(none, 0, 3);
        b.unpacks("beyond, twice", 3, row(2, -1, 1), 160, 8);
    }

    private static void smalls() {
        Bench b = new Bench();
        int t = b.codec.enumeration(3, 100);
        b.unpacks("64", t, row(67), 192, 1, 64);
        b.unpacks("99", t, row(102), 192, 1, 99);
        b.unpacks("100", t, row(-1), 192, 1, 100);
        b.unpacks("256", t, row(-1), 192, 2, 1, 0);
        b.unpacks("65535", t, row(-1), 192, 2, 255, 255);
        b.refuses("63", t, 16, 192, 1, 63);
        b.refuses("fewer bytes would do", t, 16, 192, 2, 0, 64);
        b.refuses("65536", t, 8, 192, 3, 1, 0, 0);
        b.refuses("LENGTH 0", t, 8, 192, 0);
        b.refuses("ALIGN", t, 2, 193, 1, 64);
        b.refuses("no LENGTH", t, 8, 192);
        b.refuses("bytes lack", t, 24, 192, 2, 1);
        b.codec.simple(0);
        int behind = b.sequence(false, 1, 0, 1, 0, t, 0);
        b.refuses("6 bits lack", behind, 8, 32);
    }

    private static void rows() {
        Bench b = new Bench();
        int t = b.codec.row(0, 0, 5);
        b.refuses("SIZE above HIGH", t, 0, 192);
        b.refuses("ALIGN", t, 3, 65, 192);
        b.refuses("bits lack", t, 8, 64);
        b.refuses("ALIGN at the end", t, 10, 64, 224);
        b.refuses("ALIGN at the end of none", t, 3, 16);
        int fixed = b.codec.row(0, 16, 16);
        b.refuses("bits lack", fixed, 8, 1);
        int octets = b.codec.row(1, 0, 2);
        b.refuses("SIZE above HIGH", octets, 0, 192, 1, 2, 3);
        b.refuses("ALIGN", octets, 2, 65, 1);
        b.refuses("bytes lack", octets, 16, 128, 1);
        int wide = b.codec.row(1, 0, 300);
        b.refuses("SIZE above HIGH", wide, 0, 1, 45);
    }

    private static void texts() {
        Bench b = new Bench();
        int t = b.codec.text(48, 57, 0, 3);
        b.refuses("no character", t, 6, 134, 128);
        b.refuses("no character, the first", t, 2, 174, 128);
        b.refuses("bits lack", t, 8, 134);
        b.refuses("ALIGN at the end", t, 10, 134, 96);
        b.refuses("no character, and bits lack", t, 2, 232);
        int one = b.codec.text(65, 65, 2, NONE);
        b.refuses("no character", one, 9, 2, 64);
        b.unpacks("two characters", one, row(2, 65, 65), 2, 0);
    }

    private static void lists() {
        Bench b = new Bench();
        b.codec.integer(0, 4, 2, false);
        int t = b.codec.list(0, 0, 4);
        b.refuses("SIZE", t, 0, 160);
        b.refuses("an item", t, 3, 32 + 16 + 4);
        b.refuses("an item behind one", t, 6, 64 + 3, 128);
        b.refuses("bits lack", t, 8, 64 + 16);
    }

    private static void sequences() {
        Bench b = new Bench();
        b.codec.simple(0);
        b.codec.row(1, 2, 2);
        int t = b.sequence(false, 1, 1, 0, 0, 1, 1);
        b.unpacks("the second is there", t, row(0, 1, 1, 2, 0, 255), 96, 31, 224);
        b.refuses("bits lack", t, 8, 128);
        int many = b.sequence(false, 0, 1, 0, 1, 0, 1, 0, 1, 0, 1, 0, 1, 0, 1, 0, 1, 0, 1);
        b.refuses("bits of OPTIONAL ones lack", many, 8, 255);
        b.unpacks("9 OPTIONAL ones", many, row(0, 0, 0, 0, 0, 0, 0, 0, 1, 1), 0, 192);
    }

    /** Type 0 is TRUTH, 1 the SEQUENCE of one and of one that was added. */
    private static Bench extended() {
        Bench b = new Bench();
        b.codec.simple(0);
        b.sequence(true, 0, 0, 0, 2);
        return b;
    }

    private static void additionsTold() {
        Bench b = extended();
        b.unpacks("the one", 1, row(1, 1, 1), 192, 64, 1, 128);
        b.refuses("the seven bits", 1, 2, 224, 64, 1, 128);
        b.refuses("the seven bits lack", 1, 8, 192);
        b.refuses("none is there", 1, 9, 192, 0);
        b.refuses("none is there", 1, 9, 192, 0, 1, 128);
        b.refuses("none of two is there", 1, 9, 192, 128);
        b.refuses("the row lacks", 1, 8, 192);
        b.refuses("ALIGN of the LENGTH", 1, 10, 192, 65, 1, 128);
        b.refuses("no LENGTH", 1, 16, 192, 64);
        b.refuses("the row of 64 lacks", 1, 16, 223, 255);
    }

    private static void additionsUnknown() {
        Bench b = extended();
        b.unpacks("both", 1, row(1, 1, 1), 192, 224, 1, 128, 2, 5, 6);
        b.unpacks("the unknown", 1, row(1, 0), 192, 160, 1, 99);
        b.refuses("an OPEN of no bytes", 1, 16, 192, 160, 0);
        b.refuses("its bytes lack", 1, 32, 192, 160, 2, 1);
        b.refuses("no LENGTH", 1, 16, 192, 160);
        b.refuses("a byte is left", 1, 32, 192, 160, 1, 99, 0);
        int old = b.sequence(true, 0, 0);
        b.unpacks("of which it has none", old, row(1), 192, 64, 1, 255);
        b.refuses("none is there", old, 9, 192, 0);
        int two = b.sequence(false, old, 0, 0, 0);
        b.unpacks("goes on behind it", two, row(0, 1), 128, 64, 2, 9, 9, 128);
        int unmarked = b.sequence(false, 0, 0);
        b.refuses("without a MARKER", unmarked, 1, 192, 64, 1, 255);
    }

    private static void additionsFewer() {
        Bench b = new Bench();
        b.codec.simple(0);
        b.codec.simple(1);
        int t = b.sequence(true, 1, 2, 0, 2, 0, 2);
        b.unpacks("one of three", t, row(1, 0, 0), 128, 128, 1, 0);
        b.unpacks("the second of two", t, row(0, 1, 1, 0), 129, 64, 1, 128);
        b.refuses("the first's byte 0", t, 24, 128, 128, 1, 1);
    }

    private static void manyAdditions() {
        Bench b = extended();
        int[] bytes = new int[10 + 2 * 64];
        bytes[0] = 128 + 31;
        for (int i = 1; i < 9; i++) {
            bytes[i] = 255;
        }
        bytes[9] = 128 + 64;
        for (int i = 0; i < 64; i++) {
            bytes[10 + 2 * i] = 1;
            bytes[11 + 2 * i] = i == 0 ? 128 : i;
        }
        b.refuses("64 told, a bit of ALIGN", 1, 73, bytes);
        bytes[9] = 128;
        b.unpacks("64", 1, row(0, 1, 1), bytes);
    }

    private static void opens() {
        Bench b = extended();
        b.refuses("a byte is left in it", 1, 32, 192, 64, 2, 128, 0);
        b.refuses("ALIGN in it", 1, 25, 192, 64, 1, 129);
        b.refuses("LENGTH 0", 1, 16, 192, 64, 0);
        b.refuses("bytes lack", 1, 32, 192, 64, 2, 128);
        b.refuses("bytes lack, ahead of a fault", 1, 32, 192, 64, 2, 129);
        b.refuses("a byte lacks, ahead of a fault", 1, 80, 192, 64, 8, 129, 0, 0, 0, 0, 0, 0);
        b.refuses("a byte is left behind it", 1, 32, 192, 64, 1, 128, 7);
        b.codec.integer(0, 256, 2, false);
        b.codec.simple(1);
        int t = b.sequence(true, 2, 2, 3, 2);
        b.refuses("bits lack in it", t, 32, 129, 128, 1, 0, 0);
        b.unpacks("both", t, row(1, 5, 1), 129, 192, 2, 0, 5, 1, 0);
        b.refuses("the byte 0 in it", t, 24, 129, 64, 1, 4);
        b.refuses("bytes are left in it", t, 32, 129, 64, 2, 0, 0);
    }

    /** An ADDITION that has an ADDITION. */
    private static void opensInOpens() {
        Bench b = extended();
        int t = b.sequence(true, 1, 2);
        b.unpacks("both", t, row(1, 1, 1, 1), 128, 128, 4, 192, 64, 1, 128);
        b.refuses("the inner is too long", t, 56, 128, 128, 4, 192, 64, 2, 128, 0, 0);
        b.refuses("its LENGTH lacks", t, 40, 128, 128, 2, 192, 64, 1, 128);
        b.refuses("the outer is too long", t, 56, 128, 128, 5, 192, 64, 1, 128);
        b.refuses("a byte is left in the outer", t, 56, 128, 128, 5, 192, 64, 1, 128, 0);
        b.refuses("a byte is left in the inner", t, 56, 128, 128, 5, 192, 64, 2, 128, 0);
        b.unpacks("an unknown one in it", t, row(1, 1, 0), 128, 128, 4, 192, 160, 1, 9);
        b.refuses("the unknown one is too long", t, 56, 128, 128, 4, 192, 160, 2, 9, 9);
    }

    private static void choices() {
        Bench b = new Bench();
        b.codec.simple(0);
        int t = b.choice(true, 0, 0, 0, 0, 0, 0, 0, 2);
        b.refuses("above r", t, 1, 96);
        b.unpacks("root", t, row(2, 1), 80);
        b.unpacks("added", t, row(3, 1), 128, 1, 128);
        b.refuses("a byte is left in it", t, 24, 128, 2, 128, 0);
        b.unpacks("beyond", t, row(-1), 129, 2, 1, 2);
        b.unpacks("far beyond", t, row(-1), 192, 2, 255, 255, 1, 7);
        b.refuses("beyond, LENGTH 0", t, 8, 129, 0);
        b.refuses("beyond, bytes lack", t, 24, 129, 2, 1);
        b.refuses("beyond, a byte is left", t, 24, 129, 1, 1, 0);
        b.refuses("SMALL", t, 16, 192, 1, 5, 1, 1);
        int unmarked = b.choice(false, 0, 0, 0, 0, 0, 0);
        b.refuses("above r", unmarked, 0, 192);
        int list = b.codec.list(t, 2, 2);
        b.unpacks("goes on behind it", list, row(2, -1, 1, 1), 129, 1, 9, 48);
    }

    private static void full() {
        Bench b = new Bench();
        b.codec.integer(7, 7, 2, false);
        int list = b.codec.list(0, 300, 300);
        int two = b.sequence(false, list, 0, list, 0);
        b.setOctets(0);
        b.setValue(4, 5);
        Due.is("602 numbers", FULL, b.codec.unpack(two));
        Due.is("18 FULL has no place", NONE, b.codec.place());
        Due.are("THE VALUE stays", row(4, 5), b.value());
        b.refuses("a fault ahead of it", 0, 0, 1);
        b.setOctets(0);
        Due.is("602 numbers again", FULL, b.codec.unpack(two));
        Due.is("18 FULL has no place", NONE, b.codec.place());
        int deep = list;
        for (int i = 0; i < 6; i++) {
            deep = b.codec.list(deep, 300, 300);
        }
        Due.is("300^7 numbers", FULL, b.codec.unpack(deep));
    }

    /** The first of both that comes. */
    private static void fullOrRefused() {
        Bench b = new Bench();
        int one = b.codec.integer(7, 7, 2, false);
        int truth = b.codec.simple(0);
        int list = b.codec.list(one, 299, 299);
        int few = b.codec.integer(0, 4, 2, false);
        int t = b.sequence(false, list, 0, list, 0, truth, 0, few, 0);
        b.setOctets(255);
        Due.is("FULL, then above R", FULL, b.codec.unpack(t));
        b.codec.wipe();
        Due.is("a bit lacks, then FULL", REFUSED, b.codec.unpack(t));
        Due.is("18 place", 0, b.codec.place());
        int u = b.sequence(false, list, 0, few, 0, list, 0);
        b.setOctets(255);
        Due.is("above R, then FULL", REFUSED, b.codec.unpack(u));
        Due.is("18 place", 0, b.codec.place());
        b.setOctets(1);
        Due.is("FULL, then ALIGN", FULL, b.codec.unpack(u));
    }
}
