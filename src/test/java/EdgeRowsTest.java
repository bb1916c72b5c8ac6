/** The edges of promises 1, 12 to 15 and 20 to 24: THE VALUE and THE OCTETS, empty and full. */
public final class EdgeRowsTest {
    private static final int NONE = PackedCodec.NONE;
    private static final int BAD = PackedCodec.BAD;
    private static final int FULL = PackedCodec.FULL;
    private static final int LEAST = Integer.MIN_VALUE;
    private static final int MOST = Integer.MAX_VALUE;

    public static void main(String[] args) {
        newObject();
        putAnyNumber();
        putSixHundred();
        dropEmptyAndFull();
        numberPlaces();
        numbersCount();
        feedByte();
        feedThousand();
        wipeEmptyAndFull();
        turnBits();
        turnOfNone();
        turnLast();
        octetPlaces();
        octetsCount();
        eachLeavesTheOther();
        Due.end();
    }

    private static void newObject() {
        PackedCodec x = new PackedCodec();
        Due.is("1 no numbers", 0, x.numbers());
        Due.is("1 number 0", 0, x.number(0));
        Due.is("1 no octets", 0, x.octets());
        Due.is("1 octet 0", NONE, x.octet(0));
        Due.is("1 no types", BAD, x.type(0, 0));
        Due.is("1 none is open", BAD, x.close());
        Due.is("1 pack", BAD, x.pack(0));
        Due.is("1 unpack", BAD, x.unpack(0));
        Due.is("1 place", NONE, x.place());
        Due.is("1 bits", 0, x.bits());
        Due.is("1 drop", 0, x.drop());
        Due.is("1 wipe", 0, x.wipe());
        Due.is("1 clear", 0, x.clear());
        PackedCodec other = new PackedCodec();
        x.put(1);
        x.feed(1);
        x.simple(0);
        Due.is("1 of another object", 0, other.numbers() + other.octets() + other.clear());
    }

    /** An object with so many numbers, each 9, by unpack(): so many put() are too many calls. */
    private static PackedCodec withNumbers(int first, int second) {
        Bench b = new Bench();
        int nine = b.codec.integer(9, 9, 2, false);
        int row = b.codec.list(nine, first, first);
        int other = b.codec.list(nine, second, second);
        int both = b.sequence(false, row, 0, other, 0);
        b.codec.feed(0);
        Due.is("17 so many numbers", first + second + 2, b.codec.unpack(both));
        return b.codec;
    }

    /** An object with so many bytes, by pack(): integers of 9 bytes, and one of some. */
    private static PackedCodec withBytes(int n) {
        Bench b = new Bench();
        int integer = b.codec.integer(0, 0, 0, false);
        int list = b.codec.list(integer, 0, NONE);
        int nines = (n - 1) / 9;
        int rest = (n - 1) % 9;
        b.codec.put(rest == 0 ? nines : nines + 1);
        for (int i = 0; i < nines; i++) {
            b.codec.put(1L << 62);
        }
        if (rest != 0) {
            b.codec.put(1L << (8 * (rest - 1) - 2));
        }
        Due.is("16 so many bytes", n, b.codec.pack(list));
        return b.codec;
    }

    private static void putAnyNumber() {
        long[] any = {Long.MIN_VALUE, -(1L << 62) - 1, -1, 0, 1, (1L << 62) + 1, Long.MAX_VALUE};
        PackedCodec x = new PackedCodec();
        for (int i = 0; i < any.length; i++) {
            Due.is("12 put(" + any[i] + ")", i + 1, x.put(any[i]));
            Due.is("14 number " + i, any[i], x.number(i));
        }
    }

    private static void putSixHundred() {
        PackedCodec x = withNumbers(298, 299);
        Due.is("12 the 600th", 600, x.put(5));
        Due.is("12 the 601st", FULL, x.put(6));
        Due.is("12 the 601st again", FULL, x.put(7));
        Due.is("15 600", 600, x.numbers());
        Due.is("14 the 600th", 5, x.number(599));
        Due.is("14 the 601st", 0, x.number(600));
        Due.is("13 drop", 600, x.drop());
        Due.is("12 the 1st", 1, x.put(8));
        Due.is("14 the 1st", 8, x.number(0));
        Due.is("14 the 2nd is gone", 0, x.number(1));
    }

    private static void dropEmptyAndFull() {
        PackedCodec x = new PackedCodec();
        Due.is("13 of none", 0, x.drop());
        x.put(4);
        Due.is("13 of one", 1, x.drop());
        Due.is("13 it is empty", 0, x.drop());
        Due.is("15 it is empty", 0, x.numbers());
        Due.is("14 it is empty", 0, x.number(0));
        Due.is("13 of 600", 600, withNumbers(299, 299).drop());
    }

    private static void numberPlaces() {
        PackedCodec x = new PackedCodec();
        Due.is("14 number 0 of none", 0, x.number(0));
        x.put(4);
        x.put(5);
        Due.is("14 number least", 0, x.number(LEAST));
        Due.is("14 number -1", 0, x.number(-1));
        Due.is("14 number 0", 4, x.number(0));
        Due.is("14 number 1", 5, x.number(1));
        Due.is("14 number 2 of two", 0, x.number(2));
        Due.is("14 number 599 of two", 0, x.number(599));
        Due.is("14 number 600 of two", 0, x.number(600));
        Due.is("14 number most", 0, x.number(MOST));
        PackedCodec full = withNumbers(299, 299);
        Due.is("14 number 599 of 600", 9, full.number(599));
        Due.is("14 number 600 of 600", 0, full.number(600));
    }

    private static void numbersCount() {
        PackedCodec x = new PackedCodec();
        Due.is("15 none", 0, x.numbers());
        x.put(4);
        Due.is("15 one", 1, x.numbers());
        x.number(0);
        Due.is("15 one still", 1, x.numbers());
        Due.is("15 599", 599, withNumbers(298, 299).numbers());
        Due.is("15 600", 600, withNumbers(299, 299).numbers());
    }

    private static void feedByte() {
        PackedCodec x = new PackedCodec();
        Due.is("20 least", BAD, x.feed(LEAST));
        Due.is("20 -1", BAD, x.feed(-1));
        Due.is("20 256", BAD, x.feed(256));
        Due.is("20 most", BAD, x.feed(MOST));
        Due.is("20 BAD feeds nothing", 0, x.octets());
        Due.is("20 0", 1, x.feed(0));
        Due.is("20 255", 2, x.feed(255));
        Due.is("23 0", 0, x.octet(0));
        Due.is("23 255", 255, x.octet(1));
    }

    private static void feedThousand() {
        PackedCodec x = withBytes(999);
        Due.is("20 the 1000th", 1000, x.feed(5));
        Due.is("20 the 1001st", FULL, x.feed(6));
        Due.is("20 the 1001st, BAD", BAD, x.feed(-1));
        Due.is("20 the 1001st, BAD", BAD, x.feed(256));
        Due.is("24 1000", 1000, x.octets());
        Due.is("23 the 1000th", 5, x.octet(999));
        Due.is("23 the 1001st", NONE, x.octet(1000));
        Due.is("21 wipe", 1000, x.wipe());
        Due.is("20 the 1st", 1, x.feed(7));
        Due.is("23 the 1st", 7, x.octet(0));
        Due.is("23 the 2nd is gone", NONE, x.octet(1));
    }

    private static void wipeEmptyAndFull() {
        PackedCodec x = new PackedCodec();
        Due.is("21 of none", 0, x.wipe());
        x.feed(4);
        Due.is("21 of one", 1, x.wipe());
        Due.is("21 it is empty", 0, x.wipe());
        Due.is("24 it is empty", 0, x.octets());
        Due.is("23 it is empty", NONE, x.octet(0));
        Due.is("22 it is empty", BAD, x.turn(0));
        Due.is("21 of 1000", 1000, withBytes(1000).wipe());
    }

    private static void turnBits() {
        for (int bit = 0; bit < 16; bit++) {
            PackedCodec x = new PackedCodec();
            x.feed(0);
            x.feed(255);
            int mask = 128 >> (bit % 8);
            Due.is("22 turn " + bit, bit < 8 ? mask : 255 - mask, x.turn(bit));
            Due.is("23 the byte that it is in", bit < 8 ? mask : 255 - mask, x.octet(bit / 8));
            Due.is("23 the other byte", bit < 8 ? 255 : 0, x.octet(1 - bit / 8));
            Due.is("22 and back", bit < 8 ? 0 : 255, x.turn(bit));
            Due.is("24 as many", 2, x.octets());
        }
    }

    private static void turnOfNone() {
        Due.is("22 of none", BAD, new PackedCodec().turn(0));
        PackedCodec x = new PackedCodec();
        x.feed(1);
        for (int bit : new int[] {LEAST, -8, -7, -1, 8, 9, 7999, 8000, MOST}) {
            Due.is("22 turn " + bit + " of 8", BAD, x.turn(bit));
        }
        Due.is("23 nothing was turned", 1, x.octet(0));
        Due.is("24 as many", 1, x.octets());
        x.feed(2);
        Due.is("22 turn 8 of 16", 130, x.turn(8));
    }

    private static void turnLast() {
        PackedCodec x = withBytes(1000);
        int last = x.octet(999);
        Due.is("22 turn 7999 of 8000", last ^ 1, x.turn(7999));
        Due.is("23 the last byte", last ^ 1, x.octet(999));
        Due.is("22 turn 8000 of 8000", BAD, x.turn(8000));
        x = withBytes(999);
        Due.is("22 turn 7991 of 7992", x.octet(998) ^ 1, x.turn(7991));
        Due.is("22 turn 7992 of 7992", BAD, x.turn(7992));
    }

    private static void octetPlaces() {
        PackedCodec x = new PackedCodec();
        Due.is("23 octet 0 of none", NONE, x.octet(0));
        x.feed(4);
        x.feed(5);
        Due.is("23 octet least", NONE, x.octet(LEAST));
        Due.is("23 octet -1", NONE, x.octet(-1));
        Due.is("23 octet 0", 4, x.octet(0));
        Due.is("23 octet 1", 5, x.octet(1));
        Due.is("23 octet 2 of two", NONE, x.octet(2));
        Due.is("23 octet 999 of two", NONE, x.octet(999));
        Due.is("23 octet 1000 of two", NONE, x.octet(1000));
        Due.is("23 octet most", NONE, x.octet(MOST));
        PackedCodec full = withBytes(1000);
        Due.is("23 octet 999 of 1000", 0, full.octet(999));
        Due.is("23 octet 1000 of 1000", NONE, full.octet(1000));
    }

    private static void octetsCount() {
        PackedCodec x = new PackedCodec();
        Due.is("24 none", 0, x.octets());
        x.feed(4);
        Due.is("24 one", 1, x.octets());
        x.octet(0);
        x.turn(0);
        Due.is("24 one still", 1, x.octets());
        Due.is("24 999", 999, withBytes(999).octets());
        Due.is("24 1000", 1000, withBytes(1000).octets());
    }

    private static void eachLeavesTheOther() {
        PackedCodec x = new PackedCodec();
        x.simple(0);
        x.put(4);
        x.feed(5);
        x.drop();
        Due.is("13 THE OCTETS stay", 5, x.octet(0));
        x.put(6);
        x.wipe();
        Due.is("21 THE VALUE stays", 6, x.number(0));
        x.feed(7);
        Due.is("11 clear", 1, x.clear());
        Due.is("11 THE VALUE stays", 6, x.number(0));
        Due.is("11 THE OCTETS stay", 7, x.octet(0));
        x.simple(0);
        x.drop();
        x.wipe();
        Due.is("13, 21 types stay", 1, x.clear());
    }
}
