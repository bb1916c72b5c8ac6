/**
 * Values of types that are told, packed into bits by ranges and sizes, in octets where they are
 * wide, and unpacked again; types that were extended later are read by those who do not know that.
 */
public final class PackedCodec {
    public static final int NONE = -1, BAD = -2, FULL = -3, MISFIT = -11, REFUSED = -12;

    private static final int TRUTH = 0;
    private static final int NOTHING = 1;
    private static final int INTEGER = 2;
    private static final int ENUMERATION = 3;
    private static final int BITS = 4;
    private static final int OCTETS = 5;
    private static final int TEXT = 6;
    private static final int LIST = 7;
    private static final int SEQUENCE = 8;
    private static final int CHOICE = 9;

    private static final int ROOT = 0;
    private static final int OPTIONAL = 1;
    private static final int ADDITION = 2;

    private static final int MOST_TYPES = 60;
    private static final int MOST_PARTS = 20;
    private static final int MOST_DEPTH = 8;
    private static final int MOST_WEIGHT = 100;
    private static final int MOST_NUMBERS = 600;
    private static final int MOST_OCTETS = 1000;
    private static final int MOST_SIZE = 300;
    private static final int MOST_ITEMS = 300;
    private static final int MOST_MORE_ITEMS = 100;
    private static final long MOST_BOUND = 1L << 61;
    private static final long MOST_INTEGER = 1L << 62;

    private static final int SHORT_LENGTH = 127;
    private static final int LONG_LENGTH = 16383;
    private static final int LONG_LENGTH_MARK = 32768;
    /** From here on a byte is the beginning of no LENGTH. */
    private static final int NO_LENGTH = 192;
    private static final int SHORT_SMALL = 63;

    private final Types types = new Types();
    private final Numbers value = new Numbers();
    private final Octets octets = new Octets();
    private final Packer packer = new Packer(value);
    private final Unpacker unpacker = new Unpacker(octets);
    private int faultPlace = NONE;
    private int packedBits = 0;

    public PackedCodec() {
    }

    public int simple(int kind) {
        if (kind != 0 && kind != 1) {
            return BAD;
        }
        Type made = types.fresh(kind == 0 ? TRUTH : NOTHING, false);
        return made == null ? FULL : types.tell();
    }

    public int integer(long low, long high, int bounds, boolean marker) {
        if (bounds < 0 || bounds > 2 || (marker && bounds != 2)) {
            return BAD;
        }
        if (bounds >= 1 && !isBound(low)) {
            return BAD;
        }
        if (bounds == 2 && (!isBound(high) || low > high)) {
            return BAD;
        }
        Type made = types.fresh(INTEGER, marker);
        if (made == null) {
            return FULL;
        }
        made.setBounds(bounds, low, high);
        return types.tell();
    }

    public int enumeration(int r, int x) {
        if (r < 1 || r > MOST_ITEMS || x < NONE || x > MOST_MORE_ITEMS) {
            return BAD;
        }
        Type made = types.fresh(ENUMERATION, x != NONE);
        if (made == null) {
            return FULL;
        }
        made.roots = r;
        made.added = Math.max(x, 0);
        return types.tell();
    }

    public int row(int kind, int low, int high) {
        if ((kind != 0 && kind != 1) || !areSizes(low, high)) {
            return BAD;
        }
        Type made = types.fresh(kind == 0 ? BITS : OCTETS, false);
        if (made == null) {
            return FULL;
        }
        made.setSizes(low, high);
        made.setItems(0, kind == 0 ? 1 : 255);
        return types.tell();
    }

    public int text(int first, int last, int low, int high) {
        if (first < 0 || last > 255 || first > last || !areSizes(low, high)) {
            return BAD;
        }
        Type made = types.fresh(TEXT, false);
        if (made == null) {
            return FULL;
        }
        made.setSizes(low, high);
        made.setItems(first, last);
        return types.tell();
    }

    public int list(int of, int low, int high) {
        Type item = types.told(of);
        if (item == null || !areSizes(low, high)) {
            return BAD;
        }
        if (item.depth >= MOST_DEPTH || item.weight >= MOST_WEIGHT) {
            return BAD;
        }
        Type made = types.fresh(LIST, false);
        if (made == null) {
            return FULL;
        }
        made.setSizes(low, high);
        made.setListed(item);
        return types.tell();
    }

    public int open(int kind, boolean marker) {
        if (kind != 0 && kind != 1) {
            return BAD;
        }
        Type made = types.fresh(kind == 0 ? SEQUENCE : CHOICE, marker);
        return made == null ? FULL : types.leaveOpen();
    }

    public int part(int type, int how) {
        Type whole = types.opened();
        Type piece = types.told(type);
        if (whole == null || piece == null || !whole.takes(how) || piece.depth >= MOST_DEPTH) {
            return BAD;
        }
        if (whole.parts() >= MOST_PARTS || whole.weight + piece.weight > MOST_WEIGHT) {
            return FULL;
        }
        return whole.addPart(piece, how);
    }

    public int close() {
        Type whole = types.opened();
        if (whole == null || (whole.kind == CHOICE && whole.roots == 0)) {
            return BAD;
        }
        return types.tell();
    }

    public int clear() {
        return types.forget();
    }

    public int put(long v) {
        return value.add(v) ? value.count : FULL;
    }

    public int drop() {
        int had = value.count;
        value.count = 0;
        return had;
    }

    public long number(int i) {
        return value.at(i);
    }

    public int numbers() {
        return value.count;
    }

    public int pack(int type) {
        Type by = types.told(type);
        if (by == null) {
            return BAD;
        }
        packer.begin();
        packer.packType(by);
        packer.finish();
        faultPlace = packer.misfitPlace;
        if (packer.misfitPlace != NONE) {
            return MISFIT;
        }
        if (packer.out.full) {
            return FULL;
        }
        packer.out.copyTo(octets);
        packedBits = packer.bitsBeforeLastAlign;
        return octets.count;
    }

    public int unpack(int type) {
        Type by = types.told(type);
        if (by == null) {
            return BAD;
        }
        unpacker.begin();
        unpacker.unpackType(by);
        unpacker.in.endWhole(0);
        int stop = unpacker.in.stop;
        faultPlace = stop == REFUSED ? unpacker.in.stopPlace : NONE;
        if (stop != BitReader.GOING) {
            return stop;
        }
        value.copyOf(unpacker.read);
        return value.count;
    }

    public int place() {
        return faultPlace;
    }

    public int bits() {
        return packedBits;
    }

    public int feed(int b) {
        if (b < 0 || b > 255) {
            return BAD;
        }
        return octets.add(b) ? octets.count : FULL;
    }

    public int wipe() {
        int had = octets.count;
        octets.count = 0;
        return had;
    }

    public int turn(int bit) {
        return octets.turnBit(bit);
    }

    public int octet(int i) {
        return octets.at(i);
    }

    public int octets() {
        return octets.count;
    }

    public int type(int type, int what) {
        Type asked = types.told(type);
        if (asked == null) {
            return BAD;
        }
        switch (what) {
            case 0:
                return asked.kind;
            case 1:
                return asked.depth;
            case 2:
                return asked.parts();
            case 3:
                return asked.additions();
            case 4:
                return asked.marker ? 1 : 0;
            default:
                return BAD;
        }
    }

    private static boolean isBound(long v) {
        return v >= -MOST_BOUND && v <= MOST_BOUND;
    }

    private static boolean areSizes(int low, int high) {
        if (low < 0 || low > MOST_SIZE) {
            return false;
        }
        return high == NONE || (high >= low && high <= MOST_SIZE);
    }

    /** How wide numbers are. */
    private static final class Width {
        private static int bitsOf(long v) {
            int n = 0;
            while (n < 63 && (v >>> n) != 0) {
                n++;
            }
            return n;
        }

        private static int bytesOf(long v) {
            int n = 1;
            while (n < 8 && (v >>> (8 * n)) != 0) {
                n++;
            }
            return n;
        }

        private static int signedBytesOf(long v) {
            int n = 1;
            while (n < 8 && (v >> (8 * n - 1)) != 0 && (v >> (8 * n - 1)) != -1) {
                n++;
            }
            return n;
        }
    }

    /** One type; what its kind does not use is not looked at. */
    private static final class Type {
        private int kind;
        private boolean marker;
        private int depth;
        private int weight;
        /** As integer() counts them: 0 none, 1 LOW, 2 LOW and HIGH; so for SIZES, too. */
        private int bounds;
        private long low;
        private long high;
        private int first;
        private int last;
        private int itemBits;
        private boolean itemsAligned;
        private int roots;
        private int added;
        private int optionals;
        /** Whether no value of it has a number; hollow: nor a bit. Walks may pass these by. */
        private boolean numberless;
        private boolean hollow;
        private Type listed;
        private final Type[] part = new Type[MOST_PARTS];
        private final boolean[] optional = new boolean[MOST_PARTS];

        private void start(int newKind, boolean newMarker) {
            kind = newKind;
            marker = newMarker;
            depth = 1;
            weight = 1;
            roots = 0;
            added = 0;
            optionals = 0;
            numberless = newKind == NOTHING || newKind == SEQUENCE;
            hollow = numberless && !newMarker;
        }

        private void setBounds(int newBounds, long newLow, long newHigh) {
            bounds = newBounds;
            low = newLow;
            high = newHigh;
        }

        private void setSizes(int newLow, int newHigh) {
            setBounds(newHigh == NONE ? 1 : 2, newLow, newHigh == NONE ? MOST_SIZE : newHigh);
        }

        private void setItems(int newFirst, int newLast) {
            first = newFirst;
            last = newLast;
            itemBits = 1;
            while (itemBits < 8 && (last - first) >> itemBits != 0) {
                itemBits = 2 * itemBits;
            }
            long mostBits = high * itemBits;
            boolean fixed = bounds == 2 && low == high;
            boolean tight = fixed && mostBits <= 16;
            boolean shortText = kind == TEXT && bounds == 2 && mostBits < 16;
            itemsAligned = !tight && !shortText;
        }

        private void setListed(Type item) {
            listed = item;
            depth = item.depth + 1;
            weight = item.weight + 1;
        }

        private boolean takes(int how) {
            switch (how) {
                case ROOT:
                    return added == 0;
                case OPTIONAL:
                    return kind == SEQUENCE && added == 0;
                case ADDITION:
                    return marker;
                default:
                    return false;
            }
        }

        private int addPart(Type piece, int how) {
            int at = parts();
            if (at >= MOST_PARTS) {
                return FULL;
            }
            part[at] = piece;
            optional[at] = how == OPTIONAL;
            roots += how == ADDITION ? 0 : 1;
            added += how == ADDITION ? 1 : 0;
            optionals += how == OPTIONAL ? 1 : 0;
            depth = Math.max(depth, piece.depth + 1);
            weight += piece.weight;
            numberless = numberless && how == ROOT && piece.numberless;
            hollow = hollow && how == ROOT && piece.hollow;
            return at;
        }

        private int parts() {
            return kind == SEQUENCE || kind == CHOICE ? roots + added : 0;
        }

        private int additions() {
            return kind == SEQUENCE || kind == CHOICE ? added : 0;
        }

        private Type partAt(int i) {
            return i < 0 || i >= parts() ? null : part[i];
        }

        private boolean isOptional(int i) {
            return i >= 0 && i < parts() && optional[i];
        }

        private long leastInteger() {
            return bounds == 0 || marker ? -MOST_INTEGER : low;
        }

        private long mostInteger() {
            return bounds != 2 || marker ? MOST_INTEGER : high;
        }

        private boolean isWithin(long v) {
            return bounds == 2 && v >= low && v <= high;
        }
    }

    /** The types that were told; the open one, if any, stands behind them. */
    private static final class Types {
        private final Type[] row = new Type[MOST_TYPES];
        private int count = 0;
        private boolean someOpen = false;

        private Types() {
            for (int i = 0; i < MOST_TYPES; i++) {
                row[i] = new Type();
            }
        }

        private Type told(int number) {
            return number < 0 || number >= count ? null : row[number];
        }

        private Type opened() {
            return someOpen && count < MOST_TYPES ? row[count] : null;
        }

        private Type fresh(int kind, boolean marker) {
            if (someOpen || count >= MOST_TYPES) {
                return null;
            }
            row[count].start(kind, marker);
            return row[count];
        }

        private int leaveOpen() {
            someOpen = true;
            return count;
        }

        private int tell() {
            someOpen = false;
            count++;
            return count - 1;
        }

        private int forget() {
            int had = someOpen ? count + 1 : count;
            someOpen = false;
            count = 0;
            return had;
        }
    }

    /** A row of numbers. */
    private static final class Numbers {
        private final long[] row = new long[MOST_NUMBERS];
        private int count = 0;

        private boolean add(long v) {
            if (count >= MOST_NUMBERS) {
                return false;
            }
            row[count] = v;
            count++;
            return true;
        }

        private long at(int i) {
            return i < 0 || i >= count ? 0 : row[i];
        }

        private void copyOf(Numbers other) {
            System.arraycopy(other.row, 0, row, 0, other.count);
            count = other.count;
        }
    }

    /** A row of bytes, each 0 .. 255. */
    private static final class Octets {
        private final int[] row = new int[MOST_OCTETS];
        private int count = 0;

        private boolean add(int b) {
            if (count >= MOST_OCTETS) {
                return false;
            }
            row[count] = b;
            count++;
            return true;
        }

        private int at(int i) {
            return i < 0 || i >= count ? NONE : row[i];
        }

        private int turnBit(int bit) {
            int i = bit >> 3;
            if (i < 0 || i >= count) {
                return BAD;
            }
            row[i] ^= 128 >> (bit & 7);
            return row[i];
        }
    }

    /** Bits that are written; once they are too many it is full and takes no more. */
    private static final class BitWriter {
        private final int[] row = new int[MOST_OCTETS];
        private int position = 0;
        private boolean full = false;

        private void restart() {
            position = 0;
            full = false;
        }

        private void write(long v, int n) {
            if (full || n > 8 * MOST_OCTETS - position) {
                full = true;
                return;
            }
            for (int i = n - 1; i >= 0; i--) {
                int mask = 128 >> (position & 7);
                int at = position >> 3;
                row[at] = ((v >>> i) & 1) == 1 ? row[at] | mask : row[at] & ~mask;
                position++;
            }
        }

        private void writeFlag(boolean set) {
            write(set ? 1 : 0, 1);
        }

        /** Sets a bit that was written as 0 before it was known. */
        private void setBit(int at) {
            if (at >= 0 && at < position) {
                row[at >> 3] |= 128 >> (at & 7);
            }
        }

        private void align() {
            write(0, -position & 7);
        }

        private void writeRanged(long v, long low, long high) {
            long span = high - low;
            long above = v - low;
            if (span < 255) {
                write(above, Width.bitsOf(span));
            } else if (span <= 65535) {
                align();
                write(above, span == 255 ? 8 : 16);
            } else {
                int n = Width.bytesOf(above);
                write(n - 1, Width.bitsOf(Width.bytesOf(span) - 1));
                align();
                write(above, 8 * n);
            }
        }

        private void writeLength(int n) {
            align();
            if (n <= SHORT_LENGTH) {
                write(n, 8);
            } else {
                write(n | LONG_LENGTH_MARK, 16);
            }
        }

        private void writeCounted(long v, int bytes) {
            writeLength(bytes);
            write(v, 8 * bytes);
        }

        private void writeSize(Type t, int n) {
            if (t.bounds == 2) {
                writeRanged(n, t.low, t.high);
            } else {
                writeLength(n);
            }
        }

        private void writeSmall(int n) {
            writeFlag(n > SHORT_SMALL);
            if (n > SHORT_SMALL) {
                writeLength(Width.bytesOf(n));
                write(n, 8 * Width.bytesOf(n));
            } else {
                write(n, 6);
            }
        }

        /** Keeps a byte for the LENGTH of an OPEN: where it is. */
        private int beginOpen() {
            align();
            int at = position;
            write(0, 8);
            return at;
        }

        private void endWhole(int from) {
            if (position == from) {
                write(0, 8);
            } else {
                align();
            }
        }

        /** Tells the LENGTH of an OPEN, whose bytes give way if it needs two. */
        private void endOpen(int from) {
            int at = from >> 3;
            int n = (position >> 3) - at - 1;
            if (n > SHORT_LENGTH) {
                write(0, 8);
            }
            if (full || at < 0 || n < 1) {
                return;
            }
            if (n > SHORT_LENGTH) {
                System.arraycopy(row, at + 1, row, at + 2, n);
                row[at] = (n | LONG_LENGTH_MARK) >> 8;
                row[at + 1] = n & 255;
            } else {
                row[at] = n;
            }
        }

        private void copyTo(Octets octets) {
            octets.count = position >> 3;
            System.arraycopy(row, 0, octets.row, 0, octets.count);
        }
    }

    /** Goes along a type and THE VALUE, and writes. */
    private static final class Packer {
        private final Numbers value;
        private final BitWriter out = new BitWriter();
        private int next = 0;
        private int misfitPlace = NONE;
        private int bitsBeforeLastAlign = 0;

        private Packer(Numbers value) {
            this.value = value;
        }

        private void begin() {
            out.restart();
            next = 0;
            misfitPlace = NONE;
        }

        private void finish() {
            if (misfitPlace == NONE && next < value.count) {
                misfitPlace = next;
            }
            bitsBeforeLastAlign = out.position;
            out.endWhole(0);
        }

        /** The next number; behind a misfit, and for one, the least, so that the walk can end. */
        private long take(long least, long most) {
            if (misfitPlace != NONE) {
                return least;
            }
            long v = value.at(next);
            if (next >= value.count || v < least || v > most) {
                misfitPlace = next;
                return least;
            }
            next++;
            return v;
        }

        private void packType(Type t) {
            if (t == null || misfitPlace != NONE || t.hollow || (t.numberless && out.full)) {
                return;
            }
            switch (t.kind) {
                case TRUTH:
                    out.write(take(0, 1), 1);
                    break;
                case INTEGER:
                    packInteger(t);
                    break;
                case ENUMERATION:
                    packNumber(t);
                    break;
                case BITS:
                case OCTETS:
                case TEXT:
                    packItems(t);
                    break;
                case LIST:
                    packList(t);
                    break;
                case SEQUENCE:
                    packSequence(t);
                    break;
                case CHOICE:
                    packChoice(t);
                    break;
                default:
                    break;
            }
        }

        private void packInteger(Type t) {
            long v = take(t.leastInteger(), t.mostInteger());
            if (t.marker) {
                out.writeFlag(!t.isWithin(v));
            }
            if (t.isWithin(v)) {
                out.writeRanged(v, t.low, t.high);
            } else if (t.bounds == 1) {
                out.writeCounted(v - t.low, Width.bytesOf(v - t.low));
            } else {
                out.writeCounted(v, Width.signedBytesOf(v));
            }
        }

        /** The number of an item or alternative: whether it is a root one, and which. */
        private int packNumber(Type t) {
            int v = (int) take(0, t.roots + t.added - 1);
            if (t.marker) {
                out.writeFlag(v >= t.roots);
            }
            if (v < t.roots) {
                out.writeRanged(v, 0, t.roots - 1);
            } else {
                out.writeSmall(v - t.roots);
            }
            return v;
        }

        private void packItems(Type t) {
            int n = (int) take(t.low, t.high);
            out.writeSize(t, n);
            if (n > 0 && t.itemsAligned) {
                out.align();
            }
            for (int i = 0; i < n && misfitPlace == NONE; i++) {
                out.write(take(t.first, t.last) - t.first, t.itemBits);
            }
        }

        private void packList(Type t) {
            int n = (int) take(t.low, t.high);
            out.writeSize(t, n);
            if (t.listed == null || t.listed.hollow) {
                return;
            }
            for (int i = 0; i < n && misfitPlace == NONE; i++) {
                packType(t.listed);
            }
        }

        /** The bits ahead of the components are written as 0 and set when THE VALUE tells them. */
        private void packSequence(Type t) {
            int markerAt = out.position;
            int optionalAt = t.marker ? markerAt + 1 : markerAt;
            out.write(0, t.marker ? t.optionals + 1 : t.optionals);
            for (int i = 0; i < t.roots && misfitPlace == NONE; i++) {
                boolean there = true;
                if (t.isOptional(i)) {
                    there = take(0, 1) == 1;
                    if (there) {
                        out.setBit(optionalAt);
                    }
                    optionalAt++;
                }
                if (there) {
                    packType(t.partAt(i));
                }
            }
            packAdditions(t, markerAt);
        }

        private void packAdditions(Type t, int markerAt) {
            int rowAt = NONE;
            for (int i = 0; i < t.added && misfitPlace == NONE; i++) {
                if (take(0, 1) == 0) {
                    continue;
                }
                if (rowAt == NONE) {
                    out.setBit(markerAt);
                    out.write(t.added - 1, 7);
                    rowAt = out.position;
                    out.write(0, t.added);
                }
                out.setBit(rowAt + i);
                packOpen(t.partAt(t.roots + i));
            }
        }

        private void packChoice(Type t) {
            int v = packNumber(t);
            if (v < t.roots) {
                packType(t.partAt(v));
            } else {
                packOpen(t.partAt(v));
            }
        }

        private void packOpen(Type t) {
            int lengthAt = out.beginOpen();
            packType(t);
            out.endWhole(lengthAt + 8);
            out.endOpen(lengthAt);
        }
    }

    /** Bits that are read; the first fault stops it, and what is read behind that is 0. */
    private static final class BitReader {
        private static final int GOING = 0;

        private final Octets from;
        private int position = 0;
        private int end = 0;
        private int stop = GOING;
        private int stopPlace = NONE;

        private BitReader(Octets from) {
            this.from = from;
        }

        private void restart() {
            position = 0;
            end = 8 * from.count;
            stop = GOING;
            stopPlace = NONE;
        }

        private boolean goesOn() {
            return stop == GOING;
        }

        private void refuse(int at) {
            if (stop == GOING) {
                stop = REFUSED;
                stopPlace = at;
            }
        }

        private void overflow() {
            if (stop == GOING) {
                stop = FULL;
            }
        }

        private long read(int n) {
            if (stop == GOING && n > end - position) {
                stop = REFUSED;
                stopPlace = end;
            }
            if (stop != GOING) {
                return 0;
            }
            long v = 0;
            for (int i = 0; i < n && position < 8 * MOST_OCTETS; i++) {
                int b = from.row[position >> 3];
                v = (v << 1) | ((b >> (7 - (position & 7))) & 1);
                position++;
            }
            return v;
        }

        private boolean readFlag() {
            return read(1) == 1;
        }

        /** A number in n bits, which is at most so much. */
        private long readUpTo(long most, int n) {
            int at = position;
            long v = read(n);
            if (v > most) {
                refuse(at);
            }
            return v;
        }

        private void align() {
            int at = position;
            if (read(-position & 7) != 0) {
                refuse(at);
            }
        }

        private long readRanged(long low, long high) {
            long span = high - low;
            if (span < 255) {
                return low + readUpTo(span, Width.bitsOf(span));
            }
            if (span <= 65535) {
                align();
                return low + readUpTo(span, span == 255 ? 8 : 16);
            }
            int mostBytes = Width.bytesOf(span);
            int n = 1 + (int) readUpTo(mostBytes - 1, Width.bitsOf(mostBytes - 1));
            align();
            return low + readBytes(n, span);
        }

        /** A number in n bytes, which it needs, and at most so much. */
        private long readBytes(int n, long most) {
            int at = position;
            long v = read(8 * n);
            if (v < 0 || v > most || Width.bytesOf(v) != n) {
                refuse(at);
            }
            return v;
        }

        private int readLength(int least, int most) {
            align();
            int at = position;
            int n = (int) read(8);
            if (n >= NO_LENGTH) {
                refuse(at);
            } else if (n > SHORT_LENGTH) {
                n = (n << 8 | (int) read(8)) ^ LONG_LENGTH_MARK;
                if (n <= SHORT_LENGTH) {
                    refuse(at);
                }
            }
            if (n < least || n > most) {
                refuse(at);
            }
            return goesOn() ? n : 0;
        }

        private int readSize(Type t) {
            if (t.bounds == 2) {
                return (int) readRanged(t.low, t.high);
            }
            return readLength((int) t.low, (int) t.high);
        }

        private int readSmall() {
            if (!readFlag()) {
                return (int) read(6);
            }
            int n = readLength(1, 2);
            int at = position;
            int v = (int) readBytes(n, 65535);
            if (v <= SHORT_SMALL) {
                refuse(at);
            }
            return v;
        }

        /** Where so many bytes end, which must be there. */
        private int endOfBytes(int n) {
            if (8 * n > end - position) {
                refuse(end);
            }
            return goesOn() ? position + 8 * n : position;
        }

        private void passOpen() {
            int n = readLength(1, LONG_LENGTH);
            position = endOfBytes(n);
        }

        private int readHowManyAdditions() {
            return 1 + (int) readUpTo(63, 7);
        }

        private long readAdditionRow(int n) {
            int at = position;
            long there = read(n);
            if (there == 0) {
                refuse(at);
            }
            return there;
        }

        private void endWhole(int start) {
            if (position == start) {
                readUpTo(0, 8);
            } else {
                align();
            }
            if (position < end) {
                refuse(position);
            }
        }
    }

    /** Goes along a type and THE OCTETS, and gathers numbers. */
    private static final class Unpacker {
        private final BitReader in;
        private final Numbers read = new Numbers();

        private Unpacker(Octets octets) {
            in = new BitReader(octets);
        }

        private void begin() {
            in.restart();
            read.count = 0;
        }

        private void give(long v) {
            if (in.goesOn() && !read.add(v)) {
                in.overflow();
            }
        }

        private void unpackType(Type t) {
            if (t == null || t.hollow || !in.goesOn()) {
                return;
            }
            switch (t.kind) {
                case TRUTH:
                    give(in.read(1));
                    break;
                case INTEGER:
                    unpackInteger(t);
                    break;
                case ENUMERATION:
                    unpackNumber(t);
                    break;
                case BITS:
                case OCTETS:
                case TEXT:
                    unpackItems(t);
                    break;
                case LIST:
                    unpackList(t);
                    break;
                case SEQUENCE:
                    unpackSequence(t);
                    break;
                case CHOICE:
                    unpackChoice(t);
                    break;
                default:
                    break;
            }
        }

        private void unpackInteger(Type t) {
            boolean outside = t.marker && in.readFlag();
            if (t.bounds == 2 && !outside) {
                give(in.readRanged(t.low, t.high));
            } else if (t.bounds == 1) {
                int n = in.readLength(1, 8);
                give(t.low + in.readBytes(n, MOST_INTEGER - t.low));
            } else {
                give(readSigned(t));
            }
        }

        private long readSigned(Type t) {
            int n = in.readLength(1, 8);
            int at = in.position;
            int unused = 64 - 8 * n;
            long v = in.read(8 * n) << unused >> unused;
            if (v < -MOST_INTEGER || v > MOST_INTEGER || t.isWithin(v) || Width.signedBytesOf(v) != n) {
                in.refuse(at);
            }
            return v;
        }

        /** The number of an item or alternative; NONE if it is beyond those that are known. */
        private int unpackNumber(Type t) {
            int v;
            if (t.marker && in.readFlag()) {
                int beyondRoots = in.readSmall();
                v = beyondRoots < t.added ? t.roots + beyondRoots : NONE;
            } else {
                v = (int) in.readRanged(0, t.roots - 1);
            }
            give(v);
            return v;
        }

        private void unpackItems(Type t) {
            int n = in.readSize(t);
            give(n);
            if (n > 0 && t.itemsAligned) {
                in.align();
            }
            for (int i = 0; i < n && in.goesOn(); i++) {
                give(t.first + in.readUpTo(t.last - t.first, t.itemBits));
            }
        }

        private void unpackList(Type t) {
            int n = in.readSize(t);
            give(n);
            if (t.listed == null || t.listed.hollow) {
                return;
            }
            for (int i = 0; i < n && in.goesOn(); i++) {
                unpackType(t.listed);
            }
        }

        private void unpackSequence(Type t) {
            boolean extended = t.marker && in.readFlag();
            long there = in.read(t.optionals);
            int left = t.optionals;
            for (int i = 0; i < t.roots && in.goesOn(); i++) {
                boolean isThere = true;
                if (t.isOptional(i)) {
                    left--;
                    isThere = ((there >> left) & 1) == 1;
                    give(isThere ? 1 : 0);
                }
                if (isThere) {
                    unpackType(t.partAt(i));
                }
            }
            unpackAdditions(t, extended);
        }

        private void unpackAdditions(Type t, boolean extended) {
            int told = extended ? in.readHowManyAdditions() : 0;
            long there = extended ? in.readAdditionRow(told) : 0;
            int most = Math.max(told, t.added);
            for (int i = 0; i < most && in.goesOn(); i++) {
                boolean isThere = i < told && ((there >> (told - 1 - i)) & 1) == 1;
                if (i < t.added) {
                    give(isThere ? 1 : 0);
                }
                if (isThere && i < t.added) {
                    unpackOpen(t.partAt(t.roots + i));
                } else if (isThere) {
                    in.passOpen();
                }
            }
        }

        private void unpackChoice(Type t) {
            int v = unpackNumber(t);
            if (v == NONE) {
                in.passOpen();
            } else if (v < t.roots) {
                unpackType(t.partAt(v));
            } else {
                unpackOpen(t.partAt(v));
            }
        }

        private void unpackOpen(Type t) {
            int outerEnd = in.end;
            int n = in.readLength(1, LONG_LENGTH);
            int start = in.position;
            in.end = in.endOfBytes(n);
            unpackType(t);
            in.endWhole(start);
            in.end = outerEnd;
        }
    }
}
