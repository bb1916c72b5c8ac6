import java.util.ArrayList;
import java.util.List;
import java.util.Random;

/**
 * All promises at once: many lives of an object of up to 512 calls, drawn at random with the edges
 * that the document names and with wrong inputs, each answer compared with that of the plain one.
 * The seed is fixed, so that every run is the same.
 */
public final class LifeTest {
    private static final int LIVES = 5000;
    private static final int CALLS = 512;
    private static final long[] LONG_EDGES = {0, 255, 256, 65535, 65536, 1L << 61, -(1L << 61), 1L << 62,
        -(1L << 62), Long.MAX_VALUE, Long.MIN_VALUE};
    private static final int[] INT_EDGES = {0, 1, 2, 16, 20, 60, 64, 100, 127, 128, 255, 256, 300, 600, 1000,
        8000, Integer.MAX_VALUE, Integer.MIN_VALUE};
    private static final int[] SEEN_KINDS = {PackedCodec.NONE, PackedCodec.BAD, PackedCodec.FULL,
        PackedCodec.MISFIT, PackedCodec.REFUSED, 0, 1};

    private final Random random;
    private final int life;
    /** Every fourth life has long rows, so that THE VALUE and THE OCTETS come to their ends. */
    private final boolean big;
    private final PackedCodec codec = new PackedCodec();
    private final PlainCodec plain = new PlainCodec();
    private final StringBuilder told = new StringBuilder();
    private int calls = 0;
    private boolean wrong = false;

    private LifeTest(int life, long seed) {
        this.life = life;
        big = life % 4 == 0;
        random = new Random(seed);
    }

    public static void main(String[] args) {
        int[] packed = new int[SEEN_KINDS.length];
        int[] unpacked = new int[SEEN_KINDS.length];
        for (int i = 0; i < LIVES; i++) {
            new LifeTest(i, 20261116L + i).live(packed, unpacked);
        }
        manyOf("pack", packed, PackedCodec.BAD, PackedCodec.FULL, PackedCodec.MISFIT, 1);
        manyOf("unpack", unpacked, PackedCodec.BAD, PackedCodec.FULL, PackedCodec.REFUSED, 0, 1);
        Due.end();
    }

    /** The test is worth little if the lives do not come to all answers. */
    private static void manyOf(String call, int[] counts, int... answers) {
        for (int answer : answers) {
            for (int i = 0; i < SEEN_KINDS.length; i++) {
                if (SEEN_KINDS[i] == answer && counts[i] < 100) {
                    Due.is("how often " + call + " answered " + answer, 100, counts[i]);
                }
            }
        }
    }

    private static void count(int[] counts, long answer) {
        for (int i = 0; i < SEEN_KINDS.length; i++) {
            if (SEEN_KINDS[i] == Math.min(answer, 1)) {
                counts[i]++;
            }
        }
    }

    private void live(int[] packed, int[] unpacked) {
        int typing = random.nextInt(big ? 30 : 80);
        if (big) {
            tellLongRows();
        }
        while (calls < CALLS && !wrong) {
            if (calls < typing || random.nextInt(12) == 0) {
                tellSome();
            } else {
                useSome(packed, unpacked);
            }
        }
    }

    private void same(String call, long want, long got) {
        calls++;
        told.append(call).append('=').append(got).append(' ');
        if (want != got && !wrong && calls <= CALLS) {
            wrong = true;
            Due.is("life " + life + ": " + told + "; the last", want, got);
        }
    }

    private int edge() {
        return INT_EDGES[random.nextInt(INT_EDGES.length)] + random.nextInt(3) - 1;
    }

    private int upTo(int most) {
        return random.nextInt(30) == 0 ? edge() : random.nextInt(most + 1);
    }

    private long wide() {
        if (random.nextInt(3) == 0) {
            return LONG_EDGES[random.nextInt(LONG_EDGES.length)] + random.nextInt(3) - 1;
        }
        return random.nextLong() >> random.nextInt(64);
    }

    private int aType() {
        return random.nextInt(30) == 0 ? edge() : random.nextInt(Math.max(1, plain.types.size()) + (random.nextInt(15) == 0 ? 2 : 0));
    }

    private int low() {
        if (big && random.nextBoolean()) {
            return 100 + random.nextInt(201);
        }
        return random.nextInt(12) == 0 ? edge() : random.nextInt(random.nextBoolean() ? 3 : 20);
    }

    private int high(int low) {
        if (big && random.nextBoolean()) {
            return low;
        }
        switch (random.nextInt(8)) {
            case 0:
                return edge();
            case 1:
            case 2:
                return PackedCodec.NONE;
            case 3:
                return low;
            default:
                return low + random.nextInt(18);
        }
    }

    private void tellSome() {
        if (plain.opened != null && random.nextInt(6) != 0) {
            goOnWithOpen();
            return;
        }
        int low = low();
        int high = high(low);
        int kind = upTo(1);
        boolean flag = random.nextBoolean();
        switch (big && random.nextInt(3) == 0 ? 5 : random.nextInt(9)) {
            case 0:
                same("simple(" + kind + ")", plain.simple(kind), codec.simple(kind));
                break;
            case 1:
                tellInteger(flag);
                break;
            case 2:
                int r = 1 + upTo(big ? 0 : random.nextBoolean() ? 4 : 299);
                int x = upTo(random.nextBoolean() ? 4 : 101) - 1;
                same("enumeration(" + r + "," + x + ")", plain.enumeration(r, x), codec.enumeration(r, x));
                break;
            case 3:
                same("row(" + kind + "," + low + "," + high + ")", plain.row(kind, low, high), codec.row(kind, low, high));
                break;
            case 4:
                int first = upTo(200);
                int last = random.nextInt(10) == 0 ? edge() : first + random.nextInt(20);
                same("text(" + first + "," + last + "," + low + "," + high + ")", plain.text(first, last, low, high), codec.text(first, last, low, high));
                break;
            case 5:
                int of = aType();
                same("list(" + of + "," + low + "," + high + ")", plain.list(of, low, high), codec.list(of, low, high));
                break;
            case 6:
            case 7:
                same("open(" + kind + "," + flag + ")", plain.open(kind, flag), codec.open(kind, flag));
                break;
            default:
                seldom();
                break;
        }
    }

    /** Some 600 numbers that take hardly a bit, and some 1000 bytes, also in an OPEN. */
    private void tellLongRows() {
        int n = 190 + random.nextInt(20);
        same("enumeration(1,-1)", plain.enumeration(1, -1), codec.enumeration(1, -1));
        same("list(0," + n + "," + n + ")", plain.list(0, n, n), codec.list(0, n, n));
        same("list(1,2,3)", plain.list(1, 2, 3), codec.list(1, 2, 3));
        same("integer(0,0,0,false)", plain.integer(0, 0, 0, false), codec.integer(0, 0, 0, false));
        same("list(3,190,-1)", plain.list(3, 190, -1), codec.list(3, 190, -1));
        same("open(0,true)", plain.open(0, true), codec.open(0, true));
        same("part(2,2)", plain.part(2, 2), codec.part(2, 2));
        same("part(4,2)", plain.part(4, 2), codec.part(4, 2));
        same("close()", plain.close(), codec.close());
    }

    private void tellInteger(boolean flag) {
        long low = wide();
        long high = random.nextInt(4) == 0 ? wide() : low + (wide() & Long.MAX_VALUE);
        int bounds = flag && random.nextInt(8) != 0 ? 2 : upTo(2);
        same("integer(" + low + "," + high + "," + bounds + "," + flag + ")", plain.integer(low, high, bounds, flag), codec.integer(low, high, bounds, flag));
    }

    private void goOnWithOpen() {
        if (random.nextInt(5) == 0) {
            same("close()", plain.close(), codec.close());
            return;
        }
        int type = aType();
        boolean last = plain.opened.added > 0 || random.nextInt(5) == 0;
        int how = last && random.nextInt(8) != 0 ? 2 : upTo(2);
        same("part(" + type + "," + how + ")", plain.part(type, how), codec.part(type, how));
    }

    private void seldom() {
        if (random.nextInt(12) == 0) {
            same("clear()", plain.clear(), codec.clear());
        } else {
            same("close()", plain.close(), codec.close());
        }
    }

    private void useSome(int[] packed, int[] unpacked) {
        switch (random.nextInt(10)) {
            case 0:
                look();
                break;
            case 1:
                strayBytes();
                unpack(aType(), unpacked);
                break;
            case 2:
                strayNumbers();
                pack(aType(), packed);
                break;
            case 3:
                pack(aType(), packed);
                unpack(aType(), unpacked);
                break;
            default:
                roundTrip(packed, unpacked);
                break;
        }
    }

    private void pack(int type, int[] packed) {
        int answer = codec.pack(type);
        count(packed, answer);
        same("pack(" + type + ")", plain.pack(type), answer);
        same("place()", plain.place(), codec.place());
        same("bits()", plain.bits(), codec.bits());
        same("octets()", plain.octets(), codec.octets());
        sameOctets();
    }

    private void unpack(int type, int[] unpacked) {
        int answer = codec.unpack(type);
        count(unpacked, answer);
        same("unpack(" + type + ")", plain.unpack(type), answer);
        same("place()", plain.place(), codec.place());
        same("numbers()", plain.numbers(), codec.numbers());
        sameNumbers();
    }

    private void sameOctets() {
        int n = Math.min(plain.octets(), 12);
        for (int i = 0; i < n; i++) {
            int at = n < 12 ? i : random.nextInt(plain.octets());
            same("octet(" + at + ")", plain.octet(at), codec.octet(at));
        }
    }

    private void sameNumbers() {
        int n = Math.min(plain.numbers(), 12);
        for (int i = 0; i < n; i++) {
            int at = n < 12 ? i : random.nextInt(plain.numbers());
            same("number(" + at + ")", plain.number(at), codec.number(at));
        }
    }

    /** A value of some type, at times spoilt; packed, spoilt, and unpacked by this or another type. */
    private void roundTrip(int[] packed, int[] unpacked) {
        if (plain.types.isEmpty()) {
            tellSome();
            return;
        }
        int type = random.nextInt(big ? Math.min(6, plain.types.size()) : plain.types.size());
        List<Long> numbers = new ArrayList<>();
        plain.types.get(type).randomValue(random, numbers);
        if (numbers.size() > 60 && (!big || numbers.size() > CALLS) && random.nextInt(4) != 0) {
            return;
        }
        same("drop()", plain.drop(), codec.drop());
        for (long v : numbers) {
            put(random.nextInt(200) == 0 ? wide() : v);
        }
        if (random.nextInt(20) == 0) {
            put(wide());
        }
        pack(type, packed);
        spoil();
        unpack(random.nextInt(6) == 0 ? aType() : type, unpacked);
    }

    private void put(long v) {
        same("put(" + v + ")", plain.put(v), codec.put(v));
    }

    private void spoil() {
        for (int i = random.nextInt(4); i > 0; i--) {
            turn(random.nextInt(8 * Math.max(1, Math.min(plain.octets(), random.nextBoolean() ? 5 : 1000))));
        }
        if (random.nextInt(6) == 0) {
            feed(upTo(255));
        }
    }

    private void turn(int bit) {
        same("turn(" + bit + ")", plain.turn(bit), codec.turn(bit));
    }

    private void feed(int b) {
        same("feed(" + b + ")", plain.feed(b), codec.feed(b));
    }

    private void strayBytes() {
        if (random.nextInt(10) != 0) {
            same("wipe()", plain.wipe(), codec.wipe());
        }
        for (int i = random.nextInt(random.nextInt(20) == 0 ? 1003 : 6); i > 0; i--) {
            feed(random.nextInt(3) == 0 ? random.nextInt(4) : upTo(255));
        }
    }

    private void strayNumbers() {
        if (random.nextInt(10) != 0) {
            same("drop()", plain.drop(), codec.drop());
        }
        for (int i = random.nextInt(random.nextInt(20) == 0 ? 602 : 6); i > 0; i--) {
            put(random.nextInt(3) != 0 ? random.nextInt(4) : wide());
        }
    }

    private void look() {
        int i = upTo(20);
        int type = aType();
        int what = upTo(4);
        same("number(" + i + ")", plain.number(i), codec.number(i));
        same("octet(" + i + ")", plain.octet(i), codec.octet(i));
        same("type(" + type + "," + what + ")", plain.type(type, what), codec.type(type, what));
        same("numbers()", plain.numbers(), codec.numbers());
        same("octets()", plain.octets(), codec.octets());
        turn(edge());
        feed(edge());
    }
}
