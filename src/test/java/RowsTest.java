/** Promises 12 to 15 and 20 to 24: THE VALUE and THE OCTETS by themselves. */
public final class RowsTest {
    private static final int NONE = PackedCodec.NONE;
    private static final int BAD = PackedCodec.BAD;
    private static final int FULL = PackedCodec.FULL;

    public static void main(String[] args) {
        value();
        fullValue();
        octets();
        fullOctets();
        turn();
        Due.end();
    }

    private static void value() {
        PackedCodec x = new PackedCodec();
        Due.is("14 of none", 0, x.number(0));
        Due.is("12 put", 1, x.put(Long.MIN_VALUE));
        Due.is("12 put", 2, x.put(Long.MAX_VALUE));
        Due.is("15 numbers", 2, x.numbers());
        Due.is("14 number 0", Long.MIN_VALUE, x.number(0));
        Due.is("14 number 1", Long.MAX_VALUE, x.number(1));
        Due.is("14 number 2", 0, x.number(2));
        Due.is("14 number -1", 0, x.number(-1));
        Due.is("14 number most", 0, x.number(Integer.MAX_VALUE));
        Due.is("14 number least", 0, x.number(Integer.MIN_VALUE));
        Due.is("13 drop", 2, x.drop());
        Due.is("13 drop again", 0, x.drop());
        Due.is("15 numbers", 0, x.numbers());
        Due.is("14 it is gone", 0, x.number(0));
        Due.is("12 put", 1, x.put(7));
        Due.is("14 number 0", 7, x.number(0));
        Due.is("14 the old is gone", 0, x.number(1));
    }

    /** 600 numbers come by unpack(): an object has not so many calls. */
    private static void fullValue() {
        Bench b = new Bench();
        b.codec.integer(9, 9, 2, false);
        b.codec.list(0, 299, 299);
        int both = b.sequence(false, 1, 0, 1, 0);
        b.setOctets(0);
        Due.is("17 600 numbers", 600, b.codec.unpack(both));
        Due.is("12 put", FULL, b.codec.put(1));
        Due.is("15 numbers", 600, b.codec.numbers());
        Due.is("14 number 599", 9, b.codec.number(599));
        Due.is("14 number 600", 0, b.codec.number(600));
        Due.is("13 drop", 600, b.codec.drop());
        Due.is("12 put", 1, b.codec.put(1));
    }

    private static void octets() {
        PackedCodec x = new PackedCodec();
        Due.is("23 of none", NONE, x.octet(0));
        Due.is("20 feed -1", BAD, x.feed(-1));
        Due.is("20 feed 256", BAD, x.feed(256));
        Due.is("20 feed", 1, x.feed(0));
        Due.is("20 feed", 2, x.feed(255));
        Due.is("24 octets", 2, x.octets());
        Due.is("23 octet 0", 0, x.octet(0));
        Due.is("23 octet 1", 255, x.octet(1));
        Due.is("23 octet 2", NONE, x.octet(2));
        Due.is("23 octet -1", NONE, x.octet(-1));
        Due.is("23 octet most", NONE, x.octet(Integer.MAX_VALUE));
        Due.is("21 wipe", 2, x.wipe());
        Due.is("21 wipe again", 0, x.wipe());
        Due.is("24 octets", 0, x.octets());
        Due.is("23 it is gone", NONE, x.octet(0));
        Due.is("20 feed", 1, x.feed(3));
        Due.is("23 octet 0", 3, x.octet(0));
    }

    /** 1000 bytes come by pack(): an object has not so many calls. */
    private static void fullOctets() {
        Bench b = new Bench();
        b.codec.integer(0, 0, 0, false);
        b.codec.list(0, 0, PackedCodec.NONE);
        b.codec.put(111);
        for (int i = 0; i < 111; i++) {
            b.codec.put(1L << 62);
        }
        Due.is("16 1000 bytes", 1000, b.codec.pack(1));
        Due.is("20 feed", FULL, b.codec.feed(0));
        Due.is("20 feed, bad", BAD, b.codec.feed(256));
        Due.is("24 octets", 1000, b.codec.octets());
        Due.is("22 turn 7999", 1, b.codec.turn(7999));
        Due.is("22 turn 8000", BAD, b.codec.turn(8000));
        Due.is("23 octet 999", 1, b.codec.octet(999));
        Due.is("23 octet 1000", NONE, b.codec.octet(1000));
        Due.is("21 wipe", 1000, b.codec.wipe());
        Due.is("20 feed", 1, b.codec.feed(0));
    }

    private static void turn() {
        PackedCodec x = new PackedCodec();
        Due.is("22 turn of none", BAD, x.turn(0));
        x.feed(0);
        x.feed(255);
        Due.is("22 turn -1", BAD, x.turn(-1));
        Due.is("22 turn 16", BAD, x.turn(16));
        Due.is("22 turn most", BAD, x.turn(Integer.MAX_VALUE));
        Due.is("22 turn 0", 128, x.turn(0));
        Due.is("22 turn 7", 129, x.turn(7));
        Due.is("22 turn 0 back", 1, x.turn(0));
        Due.is("22 turn 8", 127, x.turn(8));
        Due.is("22 turn 15", 126, x.turn(15));
        Due.is("23 octet 0", 1, x.octet(0));
        Due.is("23 octet 1", 126, x.octet(1));
        Due.is("24 octets", 2, x.octets());
    }
}
