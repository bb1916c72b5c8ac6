import java.math.BigInteger;
import java.util.ArrayList;
import java.util.List;
import java.util.Random;

/**
 * A type as the document tells it, packed and unpacked a second time in the plainest way: bits are
 * characters, every WHOLE is a text of its own, and faults are thrown.
 */
final class Model {
    static final int TRUTH = 0;
    static final int NOTHING = 1;
    static final int INTEGER = 2;
    static final int ENUMERATION = 3;
    static final int BITS = 4;
    static final int OCTETS = 5;
    static final int TEXT = 6;
    static final int LIST = 7;
    static final int SEQUENCE = 8;
    static final int CHOICE = 9;
    static final long MOST = 1L << 62;

    int kind;
    int bounds;
    long low;
    long high;
    boolean marker;
    int roots;
    int added;
    int first;
    int last;
    final List<Model> parts = new ArrayList<>();
    final List<Integer> hows = new ArrayList<>();

    /** What stops unpacking: REFUSED at a bit, or FULL. */
    static final class Fault extends RuntimeException {
        private static final long serialVersionUID = 1L;
        final int answer;
        final int place;

        Fault(int answer, int place) {
            this.answer = answer;
            this.place = place;
        }
    }

    // ---- telling a type to the codec

    int tell(PackedCodec codec) {
        int[] numbers = new int[parts.size()];
        for (int i = 0; i < numbers.length; i++) {
            numbers[i] = parts.get(i).tell(codec);
        }
        int highOrNone = bounds == 2 ? (int) high : PackedCodec.NONE;
        switch (kind) {
            case TRUTH:
            case NOTHING:
                return codec.simple(kind);
            case INTEGER:
                return codec.integer(low, high, bounds, marker);
            case ENUMERATION:
                return codec.enumeration(roots, marker ? added : PackedCodec.NONE);
            case BITS:
            case OCTETS:
                return codec.row(kind - BITS, (int) low, highOrNone);
            case TEXT:
                return codec.text(first, last, (int) low, highOrNone);
            case LIST:
                return codec.list(numbers[0], (int) low, highOrNone);
            default:
                codec.open(kind - SEQUENCE, marker);
                for (int i = 0; i < numbers.length; i++) {
                    codec.part(numbers[i], hows.get(i));
                }
                return codec.close();
        }
    }

    /** The same type before its latest ADDITIONS were made. */
    Model older(Random random) {
        Model old = new Model();
        old.kind = kind;
        old.bounds = bounds;
        old.low = low;
        old.high = high;
        old.marker = marker;
        old.roots = roots;
        old.added = kind == ENUMERATION && added > 0 ? random.nextInt(added + 1) : added;
        old.first = first;
        old.last = last;
        int dropped = kind >= SEQUENCE && added > 0 ? random.nextInt(added + 1) : 0;
        for (int i = 0; i < parts.size() - dropped; i++) {
            old.parts.add(parts.get(i).older(random));
            old.hows.add(hows.get(i));
        }
        old.added -= dropped;
        return old;
    }

    // ---- a random type and a random value of it

    static Model random(Random random, int depth) {
        Model t = new Model();
        t.kind = random.nextInt(depth > 1 ? 10 : 7);
        switch (t.kind) {
            case INTEGER:
                t.bounds = random.nextInt(3);
                t.marker = t.bounds == 2 && random.nextBoolean();
                t.low = randomLong(random) / 2;
                t.high = Math.min(MOST / 2, t.low + randomSpan(random));
                break;
            case ENUMERATION:
                t.roots = 1 + (random.nextInt(8) == 0 ? random.nextInt(300) : random.nextInt(5));
                t.marker = random.nextBoolean();
                t.added = t.marker ? random.nextInt(random.nextBoolean() ? 4 : 101) : 0;
                break;
            case BITS:
            case OCTETS:
            case TEXT:
            case LIST:
                randomSizes(t, random);
                t.first = random.nextInt(256);
                t.last = Math.min(255, t.first + random.nextInt(random.nextBoolean() ? 6 : 256));
                if (t.kind == LIST) {
                    t.parts.add(random(random, depth - 1));
                    t.hows.add(0);
                }
                break;
            case SEQUENCE:
            case CHOICE:
                randomParts(t, random, depth);
                break;
            default:
                break;
        }
        return t;
    }

    private static void randomSizes(Model t, Random random) {
        t.bounds = random.nextInt(3) == 0 ? 1 : 2;
        t.low = random.nextInt(random.nextInt(4) == 0 ? 18 : 4);
        int more = random.nextInt(8);
        t.high = t.bounds == 1 ? 300 : more == 0 ? 254 + random.nextInt(4) : t.low + random.nextInt(random.nextBoolean() ? 17 : 2);
    }

    private static void randomParts(Model t, Random random, int depth) {
        t.marker = random.nextBoolean();
        t.roots = random.nextInt(4) + t.kind - SEQUENCE;
        t.added = t.marker ? random.nextInt(4) : 0;
        for (int i = 0; i < t.roots + t.added; i++) {
            t.parts.add(random(random, depth - 1));
            t.hows.add(i >= t.roots ? 2 : t.kind == SEQUENCE ? random.nextInt(2) : 0);
        }
    }

    private static long randomLong(Random random) {
        return random.nextLong() >> (2 + random.nextInt(62));
    }

    private static long randomSpan(Random random) {
        long[] edges = {0, 1, 2, 6, 7, 8, 253, 254, 255, 256, 257, 65535, 65536, 16777215, 16777216};
        return random.nextBoolean() ? edges[random.nextInt(edges.length)] : Math.abs(randomLong(random));
    }

    /** No more than about a thousand numbers: what is cut off there is no value of the type. */
    void randomValue(Random random, List<Long> value) {
        if (value.size() > 1000) {
            return;
        }
        switch (kind) {
            case TRUTH:
                value.add((long) random.nextInt(2));
                break;
            case NOTHING:
                break;
            case INTEGER:
                value.add(randomInteger(random));
                break;
            case ENUMERATION:
                value.add((long) random.nextInt(roots + added));
                break;
            case SEQUENCE:
                for (int i = 0; i < parts.size(); i++) {
                    boolean there = hows.get(i) == 0 || random.nextBoolean();
                    if (hows.get(i) != 0) {
                        value.add(there ? 1L : 0L);
                    }
                    if (there) {
                        parts.get(i).randomValue(random, value);
                    }
                }
                break;
            case CHOICE:
                int alternative = random.nextInt(parts.size());
                value.add((long) alternative);
                parts.get(alternative).randomValue(random, value);
                break;
            default:
                int many = random.nextInt(kind == LIST ? 60 : 6) == 0 ? 150 : 5;
                int n = (int) (low + random.nextInt((int) Math.min(high - low + 1, many)));
                value.add((long) n);
                for (int i = 0; i < n; i++) {
                    if (kind == LIST) {
                        parts.get(0).randomValue(random, value);
                    } else {
                        value.add((long) (firstItem() + random.nextInt(lastItem() - firstItem() + 1)));
                    }
                }
                break;
        }
    }

    private long randomInteger(Random random) {
        long v = randomLong(random);
        if (bounds == 2 && !(marker && random.nextBoolean())) {
            switch (random.nextInt(4)) {
                case 0:
                    return low;
                case 1:
                    return high;
                default:
                    return low + Math.floorMod(v, high - low + 1);
            }
        }
        return bounds == 1 ? Math.max(low, v) : v;
    }

    private int firstItem() {
        return kind == TEXT ? first : 0;
    }

    private int lastItem() {
        return kind == TEXT ? last : kind == OCTETS ? 255 : 1;
    }

    private int itemBits() {
        int span = lastItem() - firstItem();
        return span < 2 ? 1 : span < 4 ? 2 : span < 16 ? 4 : 8;
    }

    private boolean alignsItems() {
        boolean fixed = bounds == 2 && low == high;
        if (kind == BITS) {
            return !(fixed && high <= 16);
        }
        if (kind == OCTETS) {
            return !(fixed && high <= 2);
        }
        return bounds == 1 || !(high * itemBits() < 16 || high * itemBits() == 16 && fixed);
    }

    // ---- packing

    static String whole(Model t, List<Long> value, int[] next) {
        StringBuilder out = new StringBuilder();
        t.pack(value, next, out);
        if (out.length() == 0) {
            return "00000000";
        }
        align(out);
        return out.toString();
    }

    int bitsOf(List<Long> value) {
        StringBuilder out = new StringBuilder();
        pack(value, new int[1], out);
        return out.length();
    }

    private static void align(StringBuilder out) {
        while (out.length() % 8 != 0) {
            out.append('0');
        }
    }

    private static void bits(StringBuilder out, BigInteger v, int n) {
        for (int i = n - 1; i >= 0; i--) {
            out.append(v.testBit(i) ? '1' : '0');
        }
    }

    private static void bits(StringBuilder out, long v, int n) {
        bits(out, BigInteger.valueOf(v), n);
    }

    private static int bytesOf(BigInteger v) {
        return Math.max(1, (v.bitLength() + 7) / 8);
    }

    private static void ranged(StringBuilder out, long v, long a, long b) {
        BigInteger above = BigInteger.valueOf(v).subtract(BigInteger.valueOf(a));
        BigInteger most = BigInteger.valueOf(b).subtract(BigInteger.valueOf(a));
        if (most.bitLength() <= 8 && !most.equals(BigInteger.valueOf(255))) {
            bits(out, above, most.bitLength());
        } else if (most.bitLength() <= 16) {
            align(out);
            bits(out, above, most.bitLength() <= 8 ? 8 : 16);
        } else {
            int n = bytesOf(above);
            ranged(out, n, 1, bytesOf(most));
            align(out);
            bits(out, above, 8 * n);
        }
    }

    private static void length(StringBuilder out, int n) {
        align(out);
        if (n < 128) {
            bits(out, n, 8);
        } else {
            bits(out, n + 32768, 16);
        }
    }

    private void size(StringBuilder out, int n) {
        if (bounds == 1) {
            length(out, n);
        } else if (low != high) {
            ranged(out, n, low, high);
        }
    }

    private static void small(StringBuilder out, int n) {
        if (n < 64) {
            bits(out, n, 7);
            return;
        }
        out.append('1');
        int bytes = n < 256 ? 1 : 2;
        length(out, bytes);
        bits(out, n, 8 * bytes);
    }

    private static void open(StringBuilder out, Model t, List<Long> value, int[] next) {
        String inner = whole(t, value, next);
        length(out, inner.length() / 8);
        out.append(inner);
    }

    private void pack(List<Long> value, int[] next, StringBuilder out) {
        switch (kind) {
            case TRUTH:
                out.append(value.get(next[0]++));
                break;
            case NOTHING:
                break;
            case INTEGER:
                packInteger(value.get(next[0]++), out);
                break;
            case ENUMERATION:
            case CHOICE:
                packNumber(value, next, out);
                break;
            case LIST:
                int n = value.get(next[0]++).intValue();
                size(out, n);
                for (int i = 0; i < n; i++) {
                    parts.get(0).pack(value, next, out);
                }
                break;
            case SEQUENCE:
                packSequence(value, next, out);
                break;
            default:
                int many = value.get(next[0]++).intValue();
                size(out, many);
                if (many > 0 && alignsItems()) {
                    align(out);
                }
                for (int i = 0; i < many; i++) {
                    bits(out, value.get(next[0]++) - firstItem(), itemBits());
                }
                break;
        }
    }

    private void packInteger(long v, StringBuilder out) {
        boolean within = bounds == 2 && low <= v && v <= high;
        if (marker) {
            out.append(within ? '0' : '1');
        }
        if (within) {
            ranged(out, v, low, high);
        } else if (bounds == 1) {
            BigInteger above = BigInteger.valueOf(v).subtract(BigInteger.valueOf(low));
            length(out, bytesOf(above));
            bits(out, above, 8 * bytesOf(above));
        } else {
            byte[] bytes = BigInteger.valueOf(v).toByteArray();
            length(out, bytes.length);
            bits(out, BigInteger.valueOf(v), 8 * bytes.length);
        }
    }

    private void packNumber(List<Long> value, int[] next, StringBuilder out) {
        int v = value.get(next[0]++).intValue();
        if (marker) {
            out.append(v < roots ? '0' : '1');
        }
        if (v < roots) {
            ranged(out, v, 0, roots - 1);
        } else {
            small(out, v - roots);
        }
        if (kind == CHOICE && v < roots) {
            parts.get(v).pack(value, next, out);
        } else if (kind == CHOICE) {
            open(out, parts.get(v), value, next);
        }
    }

    private void packSequence(List<Long> value, int[] next, StringBuilder out) {
        StringBuilder optionals = new StringBuilder();
        List<Integer> starts = new ArrayList<>();
        StringBuilder additions = new StringBuilder();
        int[] scout = {next[0]};
        for (int i = 0; i < parts.size(); i++) {
            boolean there = hows.get(i) == 0 || value.get(scout[0]++) == 1;
            if (hows.get(i) == 1) {
                optionals.append(there ? '1' : '0');
            }
            if (hows.get(i) == 2) {
                additions.append(there ? '1' : '0');
            }
            starts.add(there ? scout[0] : -1);
            if (there) {
                parts.get(i).pack(value, scout, new StringBuilder());
            }
        }
        boolean some = additions.indexOf("1") >= 0;
        if (marker) {
            out.append(some ? '1' : '0');
        }
        out.append(optionals);
        for (int i = 0; i < roots; i++) {
            if (starts.get(i) >= 0) {
                parts.get(i).pack(value, new int[] {starts.get(i)}, out);
            }
        }
        if (some) {
            bits(out, added - 1, 7);
            out.append(additions);
            for (int i = roots; i < parts.size(); i++) {
                if (starts.get(i) >= 0) {
                    open(out, parts.get(i), value, new int[] {starts.get(i)});
                }
            }
        }
        next[0] = scout[0];
    }

    // ---- unpacking

    /** One WHOLE's bits, and where they begin in all. */
    private static final class Source {
        final String bits;
        final int offset;
        int at = 0;

        Source(String bits, int offset) {
            this.bits = bits;
            this.offset = offset;
        }

        int here() {
            return offset + at;
        }

        Fault lack() {
            return new Fault(PackedCodec.REFUSED, offset + bits.length());
        }

        String some(int n) {
            if (at + n > bits.length()) {
                throw lack();
            }
            at += n;
            return bits.substring(at - n, at);
        }

        BigInteger number(int n) {
            return n == 0 ? BigInteger.ZERO : new BigInteger(some(n), 2);
        }

        void align() {
            int from = here();
            while (at % 8 != 0) {
                if (!some(1).equals("0")) {
                    throw new Fault(PackedCodec.REFUSED, from);
                }
            }
        }

        int length(int least, int most) {
            align();
            int from = here();
            int n = number(8).intValue();
            if (n >= 192) {
                throw new Fault(PackedCodec.REFUSED, from);
            }
            if (n >= 128) {
                n = (n - 128) * 256 + number(8).intValue();
                need(n >= 128, from);
            }
            need(n >= least && n <= most, from);
            return n;
        }

        long ranged(long a, long b) {
            BigInteger most = BigInteger.valueOf(b).subtract(BigInteger.valueOf(a));
            int n = most.bitLength();
            BigInteger v;
            int from;
            if (n <= 8 && most.intValue() != 255) {
                from = here();
                v = number(n);
            } else if (n <= 16) {
                align();
                from = here();
                v = number(n <= 8 ? 8 : 16);
            } else {
                int bytes = (int) ranged(1, bytesOf(most));
                align();
                from = here();
                v = number(8 * bytes);
                need(bytesOf(v) == bytes, from);
            }
            need(v.compareTo(most) <= 0, from);
            return a + v.longValue();
        }

        int small() {
            if (some(1).equals("0")) {
                return number(6).intValue();
            }
            int n = length(1, 2);
            int from = here();
            int v = number(8 * n).intValue();
            need(v >= (n == 1 ? 64 : 256), from);
            return v;
        }

        Source open() {
            int n = length(1, 16383);
            int from = here();
            return new Source(some(8 * n), from);
        }

        static void need(boolean holds, int place) {
            if (!holds) {
                throw new Fault(PackedCodec.REFUSED, place);
            }
        }
    }

    static List<Long> unpacked(Model t, String bits) {
        List<Long> value = new ArrayList<>();
        t.unpackWhole(new Source(bits, 0), value);
        return value;
    }

    private void unpackWhole(Source in, List<Long> value) {
        unpack(in, value);
        if (in.at == 0) {
            Source.need(in.some(8).equals("00000000"), in.offset);
        }
        in.align();
        Source.need(in.at == in.bits.length(), in.here());
    }

    private static void give(List<Long> value, long v) {
        if (value.size() == 600) {
            throw new Fault(PackedCodec.FULL, PackedCodec.NONE);
        }
        value.add(v);
    }

    private int readSize(Source in) {
        if (bounds == 1) {
            return in.length((int) low, 300);
        }
        return low == high ? (int) low : (int) in.ranged(low, high);
    }

    private void unpack(Source in, List<Long> value) {
        switch (kind) {
            case TRUTH:
                give(value, in.number(1).longValue());
                break;
            case NOTHING:
                break;
            case INTEGER:
                give(value, readInteger(in));
                break;
            case ENUMERATION:
            case CHOICE:
                unpackNumber(in, value);
                break;
            case LIST:
                int n = readSize(in);
                give(value, n);
                for (int i = 0; i < n; i++) {
                    parts.get(0).unpack(in, value);
                }
                break;
            case SEQUENCE:
                unpackSequence(in, value);
                break;
            default:
                int many = readSize(in);
                give(value, many);
                if (many > 0 && alignsItems()) {
                    in.align();
                }
                for (int i = 0; i < many; i++) {
                    int from = in.here();
                    int item = firstItem() + in.number(itemBits()).intValue();
                    Source.need(item <= lastItem(), from);
                    give(value, item);
                }
                break;
        }
    }

    private long readInteger(Source in) {
        boolean outside = marker && in.some(1).equals("1");
        if (bounds == 2 && !outside) {
            return in.ranged(low, high);
        }
        int n = in.length(1, 8);
        int from = in.here();
        BigInteger v = in.number(8 * n);
        if (bounds == 1) {
            Source.need(bytesOf(v) == n, from);
            v = v.add(BigInteger.valueOf(low));
        } else {
            if (v.testBit(8 * n - 1)) {
                v = v.subtract(BigInteger.ONE.shiftLeft(8 * n));
            }
            Source.need(v.toByteArray().length == n, from);
        }
        Source.need(v.abs().compareTo(BigInteger.valueOf(MOST)) <= 0, from);
        Source.need(!(outside && v.longValue() >= low && v.longValue() <= high), from);
        return v.longValue();
    }

    private void unpackNumber(Source in, List<Long> value) {
        if (!marker || in.some(1).equals("0")) {
            int v = (int) in.ranged(0, roots - 1);
            give(value, v);
            if (kind == CHOICE) {
                parts.get(v).unpack(in, value);
            }
            return;
        }
        int v = in.small();
        give(value, v < added ? roots + v : -1);
        if (kind == CHOICE) {
            Source inner = in.open();
            if (v < added) {
                parts.get(roots + v).unpackWhole(inner, value);
            }
        }
    }

    private void unpackSequence(Source in, List<Long> value) {
        boolean extended = marker && in.some(1).equals("1");
        int optionals = 0;
        for (int how : hows) {
            optionals += how == 1 ? 1 : 0;
        }
        String there = in.some(optionals);
        int next = 0;
        for (int i = 0; i < roots; i++) {
            boolean isThere = hows.get(i) == 0 || there.charAt(next++) == '1';
            if (hows.get(i) == 1) {
                give(value, isThere ? 1 : 0);
            }
            if (isThere) {
                parts.get(i).unpack(in, value);
            }
        }
        String told = "";
        if (extended) {
            int from = in.here();
            int n = in.number(7).intValue();
            Source.need(n < 64, from);
            from = in.here();
            told = in.some(n + 1);
            Source.need(told.indexOf('1') >= 0, from);
        }
        for (int i = 0; i < Math.max(added, told.length()); i++) {
            boolean isThere = i < told.length() && told.charAt(i) == '1';
            if (i < added) {
                give(value, isThere ? 1 : 0);
            }
            if (isThere) {
                Source inner = in.open();
                if (i < added) {
                    parts.get(roots + i).unpackWhole(inner, value);
                }
            }
        }
    }

    // ---- what an older type is to read of a newer one's value

    void project(Model old, List<Long> value, int[] next, List<Long> seen) {
        if (kind == SEQUENCE) {
            for (int i = 0; i < parts.size(); i++) {
                boolean known = i < old.parts.size();
                boolean there = hows.get(i) == 0 || value.get(next[0]++) == 1;
                List<Long> to = known ? seen : new ArrayList<>();
                if (hows.get(i) != 0) {
                    to.add(there ? 1L : 0L);
                }
                if (there) {
                    parts.get(i).project(known ? old.parts.get(i) : parts.get(i), value, next, to);
                }
            }
        } else if (kind == CHOICE) {
            int v = value.get(next[0]++).intValue();
            boolean known = v < old.parts.size();
            seen.add(known ? (long) v : -1L);
            List<Long> to = known ? seen : new ArrayList<>();
            parts.get(v).project(known ? old.parts.get(v) : parts.get(v), value, next, to);
        } else if (kind == ENUMERATION) {
            long v = value.get(next[0]++);
            seen.add(v < old.roots + old.added ? v : -1);
        } else if (kind != NOTHING) {
            long v = value.get(next[0]++);
            seen.add(v);
            for (int i = 0; kind >= BITS && i < v; i++) {
                if (kind == LIST) {
                    parts.get(0).project(old.parts.get(0), value, next, seen);
                } else {
                    seen.add(value.get(next[0]++));
                }
            }
        }
    }
}
