/** Promises 1 to 11 and 25: telling types, and asking for them. */
public final class TypesTest {
    private static final int NONE = PackedCodec.NONE;
    private static final int BAD = PackedCodec.BAD;
    private static final int FULL = PackedCodec.FULL;
    private static final long BOUND = 1L << 61;

    public static void main(String[] args) {
        newObject();
        simple();
        integer();
        enumeration();
        row();
        text();
        list();
        listLimits();
        open();
        part();
        partDepth();
        partLimits();
        close();
        clear();
        type();
        fullWhileOpen();
        fullAtSixty();
        Due.end();
    }

    private static void newObject() {
        PackedCodec x = new PackedCodec();
        Due.is("1 numbers", 0, x.numbers());
        Due.is("1 octets", 0, x.octets());
        Due.is("1 type", BAD, x.type(0, 0));
        Due.is("1 place", NONE, x.place());
        Due.is("1 bits", 0, x.bits());
        Due.is("1 close", BAD, x.close());
        Due.is("1 clear", 0, x.clear());
    }

    private static void simple() {
        PackedCodec x = new PackedCodec();
        Due.is("2 simple(-1)", BAD, x.simple(-1));
        Due.is("2 simple(2)", BAD, x.simple(2));
        Due.is("2 simple(0)", 0, x.simple(0));
        Due.is("2 simple(1)", 1, x.simple(1));
        Due.is("2 kind", 0, x.type(0, 0));
        Due.is("2 kind", 1, x.type(1, 0));
    }

    private static void integer() {
        PackedCodec x = new PackedCodec();
        Due.is("3 bounds -1", BAD, x.integer(0, 1, -1, false));
        Due.is("3 bounds 3", BAD, x.integer(0, 1, 3, false));
        Due.is("3 marker without bounds", BAD, x.integer(0, 1, 0, true));
        Due.is("3 marker with LOW", BAD, x.integer(0, 1, 1, true));
        Due.is("3 LOW too low", BAD, x.integer(-BOUND - 1, 1, 1, false));
        Due.is("3 LOW too high", BAD, x.integer(BOUND + 1, 1, 1, false));
        Due.is("3 LOW too low of both", BAD, x.integer(-BOUND - 1, 1, 2, false));
        Due.is("3 HIGH too high", BAD, x.integer(0, BOUND + 1, 2, false));
        Due.is("3 HIGH too low", BAD, x.integer(Long.MIN_VALUE, Long.MIN_VALUE, 2, false));
        Due.is("3 LOW above HIGH", BAD, x.integer(2, 1, 2, false));
        Due.is("3 neither counts", 0, x.integer(Long.MAX_VALUE, Long.MIN_VALUE, 0, false));
        Due.is("3 HIGH does not count", 1, x.integer(BOUND, Long.MIN_VALUE, 1, false));
        Due.is("3 the least LOW", 2, x.integer(-BOUND, 0, 1, false));
        Due.is("3 the widest", 3, x.integer(-BOUND, BOUND, 2, true));
        Due.is("3 LOW = HIGH", 4, x.integer(5, 5, 2, false));
        Due.is("3 marker", 1, x.type(3, 4));
        Due.is("3 no marker", 0, x.type(4, 4));
    }

    private static void enumeration() {
        PackedCodec x = new PackedCodec();
        Due.is("4 r 0", BAD, x.enumeration(0, 0));
        Due.is("4 r 301", BAD, x.enumeration(301, 0));
        Due.is("4 x -2", BAD, x.enumeration(1, -2));
        Due.is("4 x 101", BAD, x.enumeration(1, 101));
        Due.is("4 r 1", 0, x.enumeration(1, NONE));
        Due.is("4 r 300", 1, x.enumeration(300, 0));
        Due.is("4 x 100", 2, x.enumeration(1, 100));
        Due.is("4 without a marker", 0, x.type(0, 4));
        Due.is("4 with a marker", 1, x.type(1, 4));
        Due.is("4 no parts", 0, x.type(2, 2));
        Due.is("4 no additions", 0, x.type(2, 3));
    }

    private static void row() {
        PackedCodec x = new PackedCodec();
        Due.is("5 kind -1", BAD, x.row(-1, 0, 1));
        Due.is("5 kind 2", BAD, x.row(2, 0, 1));
        Due.is("5 low -1", BAD, x.row(0, -1, 1));
        Due.is("5 low 301", BAD, x.row(0, 301, NONE));
        Due.is("5 high 301", BAD, x.row(0, 0, 301));
        Due.is("5 high -2", BAD, x.row(0, 0, -2));
        Due.is("5 low above high", BAD, x.row(1, 2, 1));
        Due.is("5 BITS", 0, x.row(0, 0, 300));
        Due.is("5 OCTETS", 1, x.row(1, 300, 300));
        Due.is("5 no HIGH", 2, x.row(1, 300, NONE));
        Due.is("5 kind", 4, x.type(0, 0));
        Due.is("5 kind", 5, x.type(1, 0));
    }

    private static void text() {
        PackedCodec x = new PackedCodec();
        Due.is("6 first -1", BAD, x.text(-1, 5, 0, 1));
        Due.is("6 last 256", BAD, x.text(0, 256, 0, 1));
        Due.is("6 first above last", BAD, x.text(6, 5, 0, 1));
        Due.is("6 low -1", BAD, x.text(0, 5, -1, 1));
        Due.is("6 low above high", BAD, x.text(0, 5, 2, 1));
        Due.is("6 high 301", BAD, x.text(0, 5, 2, 301));
        Due.is("6 all", 0, x.text(0, 255, 0, NONE));
        Due.is("6 one", 1, x.text(255, 255, 300, 300));
        Due.is("6 kind", 6, x.type(1, 0));
    }

    private static void list() {
        PackedCodec x = new PackedCodec();
        Due.is("7 of none", BAD, x.list(0, 0, 1));
        x.simple(1);
        Due.is("7 of -1", BAD, x.list(-1, 0, 1));
        Due.is("7 of itself", BAD, x.list(1, 0, 1));
        Due.is("7 low -1", BAD, x.list(0, -1, 1));
        Due.is("7 high 301", BAD, x.list(0, 0, 301));
        Due.is("7 low above high", BAD, x.list(0, 2, 1));
        Due.is("7 list", 1, x.list(0, 0, 300));
        Due.is("7 list of it", 2, x.list(1, 300, NONE));
        Due.is("7 kind", 7, x.type(2, 0));
        Due.is("7 depth", 3, x.type(2, 1));
        Due.is("7 no parts", 0, x.type(2, 2));
        Due.is("7 of an open one", 3, x.open(0, false));
        Due.is("7 of an open one", BAD, x.list(3, 0, 1));
        Due.is("7 while one is open", FULL, x.list(0, 0, 1));
    }

    private static void listLimits() {
        Bench b = new Bench();
        b.codec.simple(0);
        for (int i = 1; i < 8; i++) {
            Due.is("7 depth " + (i + 1), i, b.codec.list(i - 1, 0, 1));
        }
        Due.is("7 depth 8", 8, b.codec.type(7, 1));
        Due.is("7 depth 9", BAD, b.codec.list(7, 0, 1));

        Bench heavy = weighing99();
        Due.is("7 weight 100", 4, heavy.codec.list(3, 0, 1));
        Due.is("7 weight 101", BAD, heavy.codec.list(4, 0, 1));
        Due.is("7 weight 15", 5, heavy.codec.list(2, 0, 1));
        heavy.sequence(false, 1, 0, 1, 0, 1, 0, 1, 0, 5, 0);
        Due.is("7 weight 101 of one with weight 100", BAD, heavy.codec.list(6, 0, 1));
    }

    /** Type 3 weighs 99, 2 weighs 14, 1 weighs 21, 0 weighs 1. */
    private static Bench weighing99() {
        Bench b = new Bench();
        b.codec.simple(0);
        int[] twenty = new int[40];
        b.sequence(false, twenty);
        b.sequence(false, new int[26]);
        b.sequence(false, 1, 0, 1, 0, 1, 0, 1, 0, 2, 0);
        return b;
    }

    private static void open() {
        PackedCodec x = new PackedCodec();
        Due.is("8 kind -1", BAD, x.open(-1, false));
        Due.is("8 kind 2", BAD, x.open(2, false));
        Due.is("8 open", 0, x.open(0, true));
        Due.is("8 open again", FULL, x.open(1, true));
        Due.is("8 open again, bad", BAD, x.open(2, true));
        Due.is("8 type of the open", BAD, x.type(0, 0));
        Due.is("8 close", 0, x.close());
        Due.is("8 without components", 0, x.type(0, 2));
        Due.is("8 sequence", 8, x.type(0, 0));
        Due.is("8 marker", 1, x.type(0, 4));
        Due.is("8 depth of an empty one", 1, x.type(0, 1));
        Due.is("8 next", 1, x.open(1, false));
    }

    private static void part() {
        PackedCodec x = new PackedCodec();
        x.simple(0);
        Due.is("9 none is open", BAD, x.part(0, 0));
        x.open(0, true);
        Due.is("9 how -1", BAD, x.part(0, -1));
        Due.is("9 how 3", BAD, x.part(0, 3));
        Due.is("9 no such type", BAD, x.part(-1, 0));
        Due.is("9 of itself", BAD, x.part(1, 0));
        Due.is("9 root", 0, x.part(0, 0));
        Due.is("9 optional", 1, x.part(0, 1));
        Due.is("9 root behind optional", 2, x.part(0, 0));
        Due.is("9 addition", 3, x.part(0, 2));
        Due.is("9 root behind addition", BAD, x.part(0, 0));
        Due.is("9 optional behind addition", BAD, x.part(0, 1));
        Due.is("9 addition", 4, x.part(0, 2));
        x.close();
        Due.is("9 parts", 5, x.type(1, 2));
        Due.is("9 additions", 2, x.type(1, 3));
        x.open(0, false);
        Due.is("9 addition without a marker", BAD, x.part(0, 2));
        x.close();
        x.open(1, true);
        Due.is("9 optional alternative", BAD, x.part(0, 1));
        Due.is("9 added alternative", 0, x.part(0, 2));
        Due.is("9 root alternative behind it", BAD, x.part(0, 0));
    }

    private static void partDepth() {
        Bench b = new Bench();
        b.codec.simple(0);
        for (int i = 1; i < 8; i++) {
            b.codec.list(i - 1, 0, 1);
        }
        b.codec.open(0, false);
        Due.is("9 depth 9", BAD, b.codec.part(7, 0));
        Due.is("9 depth 8", 0, b.codec.part(6, 0));
        Due.is("9 less deep", 1, b.codec.part(0, 0));
        b.codec.close();
        Due.is("9 the greatest depth", 8, b.codec.type(8, 1));
    }

    private static void partLimits() {
        PackedCodec x = new PackedCodec();
        x.simple(0);
        x.open(1, true);
        for (int i = 0; i < 20; i++) {
            Due.is("9 part " + i, i, x.part(0, i < 10 ? 0 : 2));
        }
        Due.is("9 part 20", FULL, x.part(0, 2));
        Due.is("9 part 20, bad", BAD, x.part(0, 0));
        x.close();
        Due.is("9 parts", 20, x.type(1, 2));
        Due.is("9 additions", 10, x.type(1, 3));

        PackedCodec heavy = weighing99().codec;
        heavy.open(0, false);
        Due.is("9 weight 100", 0, heavy.part(3, 0));
        Due.is("9 weight 101", FULL, heavy.part(0, 0));
        Due.is("9 weight 101, bad", BAD, heavy.part(0, 2));
    }

    private static void close() {
        PackedCodec x = new PackedCodec();
        Due.is("10 none is open", BAD, x.close());
        x.simple(0);
        x.open(1, true);
        Due.is("10 empty choice", BAD, x.close());
        x.part(0, 2);
        Due.is("10 choice without root alternatives", BAD, x.close());
        Due.is("10 it is still open", FULL, x.simple(0));
        x.clear();
        x.simple(0);
        x.open(1, false);
        x.part(0, 0);
        Due.is("10 close", 1, x.close());
        Due.is("10 closed", BAD, x.close());
        Due.is("10 next", 2, x.simple(0));
    }

    private static void clear() {
        PackedCodec x = new PackedCodec();
        x.simple(0);
        x.simple(1);
        x.open(0, false);
        x.put(5);
        x.feed(6);
        Due.is("11 clear", 3, x.clear());
        Due.is("11 clear again", 0, x.clear());
        Due.is("11 none is open", BAD, x.close());
        Due.is("11 types are gone", BAD, x.type(0, 0));
        Due.is("11 the value stays", 5, x.number(0));
        Due.is("11 the octets stay", 6, x.octet(0));
        Due.is("11 from 0 on", 0, x.simple(1));
        Due.is("11 nothing is left of the old", 1, x.type(0, 0));
        x.open(0, true);
        x.part(0, 1);
        x.part(0, 2);
        x.close();
        x.clear();
        x.simple(0);
        x.open(0, false);
        Due.is("11 no parts of the old", 0, x.part(0, 0));
        x.close();
        Due.is("11 no additions of the old", 0, x.type(1, 3));
        Due.is("11 no marker of the old", 0, x.type(1, 4));
        Due.is("11 clear", 2, x.clear());
    }

    private static void type() {
        Bench b = new Bench();
        b.codec.simple(0);
        b.codec.list(0, 0, 1);
        int s = b.sequence(true, 0, 0, 1, 1, 0, 2);
        int c = b.choice(false, s, 0, 0, 0);
        Due.is("25 sequence", 8, b.codec.type(s, 0));
        Due.is("25 depth", 3, b.codec.type(s, 1));
        Due.is("25 parts", 3, b.codec.type(s, 2));
        Due.is("25 additions", 1, b.codec.type(s, 3));
        Due.is("25 marker", 1, b.codec.type(s, 4));
        Due.is("25 choice", 9, b.codec.type(c, 0));
        Due.is("25 depth", 4, b.codec.type(c, 1));
        Due.is("25 parts", 2, b.codec.type(c, 2));
        Due.is("25 additions", 0, b.codec.type(c, 3));
        Due.is("25 marker", 0, b.codec.type(c, 4));
        Due.is("25 what 5", BAD, b.codec.type(c, 5));
        Due.is("25 what -1", BAD, b.codec.type(c, -1));
        Due.is("25 no such type", BAD, b.codec.type(c + 1, 0));
        b.codec.integer(0, 0, 0, false);
        b.codec.enumeration(1, 0);
        for (int other : new int[] {0, 1}) {
            Due.is("25 no parts of " + other, 0, b.codec.type(other, 2));
            Due.is("25 no additions of " + other, 0, b.codec.type(other, 3));
        }
        b.codec.row(0, 0, 1);
        b.codec.row(1, 0, 1);
        b.codec.text(0, 1, 0, 1);
        for (int other : new int[] {0, 1, c + 1, c + 3, c + 4, c + 5}) {
            Due.is("25 no marker of " + other, 0, b.codec.type(other, 4));
            Due.is("25 depth of " + other, other == 1 ? 2 : 1, b.codec.type(other, 1));
        }
        Due.is("25 integer", 2, b.codec.type(c + 1, 0));
        Due.is("25 enumeration", 3, b.codec.type(c + 2, 0));
    }

    private static void fullWhileOpen() {
        PackedCodec x = new PackedCodec();
        x.simple(0);
        x.open(0, false);
        tellsFull("one is open", x);
        Due.is("2 one is open", BAD, x.simple(9));
        Due.is("3 one is open", BAD, x.integer(1, 0, 2, false));
        Due.is("4 one is open", BAD, x.enumeration(0, 0));
        Due.is("5 one is open", BAD, x.row(9, 0, 0));
        Due.is("6 one is open", BAD, x.text(1, 0, 0, 0));
        Due.is("7 one is open", BAD, x.list(1, 0, 0));
        x.close();
        Due.is("2 it is closed", 2, x.simple(0));
    }

    private static void fullAtSixty() {
        PackedCodec x = new PackedCodec();
        for (int i = 0; i < 60; i++) {
            Due.is("2 simple " + i, i, x.simple(i & 1));
        }
        tellsFull("60", x);
        Due.is("2 60, bad", BAD, x.simple(2));
        Due.is("8 60, bad", BAD, x.open(2, false));
        Due.is("11 clear", 60, x.clear());
        Due.is("2 again", 0, x.simple(0));
    }

    private static void tellsFull(String when, PackedCodec x) {
        Due.is("2 " + when, FULL, x.simple(0));
        Due.is("3 " + when, FULL, x.integer(0, 0, 0, false));
        Due.is("4 " + when, FULL, x.enumeration(1, 0));
        Due.is("5 " + when, FULL, x.row(0, 0, 0));
        Due.is("6 " + when, FULL, x.text(0, 0, 0, 0));
        Due.is("7 " + when, FULL, x.list(0, 0, 0));
        Due.is("8 " + when, FULL, x.open(0, false));
    }
}
