import java.util.ArrayList;
import java.util.List;

/**
 * The whole object a second time, in the plainest way: lists for all that it holds, DEPTH and WEIGHT
 * counted anew each time, and Model for what is packed.
 */
final class PlainCodec {
    private static final int NONE = -1;
    private static final int BAD = -2;
    private static final int FULL = -3;
    private static final int MISFIT = -11;
    private static final int REFUSED = -12;
    private static final long BOUND = 1L << 61;

    final List<Model> types = new ArrayList<>();
    Model opened = null;
    List<Long> value = new ArrayList<>();
    final List<Integer> octets = new ArrayList<>();
    private int place = NONE;
    private int bits = 0;

    private int tell(boolean good, Model type) {
        if (!good) {
            return BAD;
        }
        if (types.size() == 60 || opened != null) {
            return FULL;
        }
        types.add(type);
        return types.size() - 1;
    }

    private static boolean between(long least, long v, long most) {
        return least <= v && v <= most;
    }

    private static boolean sizes(int low, int high) {
        return between(0, low, 300) && (high == NONE || between(low, high, 300));
    }

    private static Model sized(int kind, int low, int high) {
        Model t = new Model();
        t.kind = kind;
        t.low = low;
        t.bounds = high == NONE ? 1 : 2;
        t.high = high == NONE ? 300 : high;
        return t;
    }

    private Model told(int number) {
        return between(0, number, types.size() - 1) ? types.get(number) : null;
    }

    int simple(int kind) {
        Model t = new Model();
        t.kind = kind;
        return tell(kind == 0 || kind == 1, t);
    }

    int integer(long low, long high, int bounds, boolean marker) {
        boolean good = between(0, bounds, 2) && (bounds == 2 || !marker);
        good &= bounds == 0 || between(-BOUND, low, BOUND);
        good &= bounds != 2 || between(-BOUND, high, BOUND) && low <= high;
        Model t = new Model();
        t.kind = Model.INTEGER;
        t.low = low;
        t.high = high;
        t.bounds = bounds;
        t.marker = marker;
        return tell(good, t);
    }

    int enumeration(int r, int x) {
        Model t = new Model();
        t.kind = Model.ENUMERATION;
        t.roots = r;
        t.added = x == NONE ? 0 : x;
        t.marker = x != NONE;
        return tell(between(1, r, 300) && between(NONE, x, 100), t);
    }

    int row(int kind, int low, int high) {
        return tell(between(0, kind, 1) && sizes(low, high), sized(Model.BITS + kind, low, high));
    }

    int text(int first, int last, int low, int high) {
        Model t = sized(Model.TEXT, low, high);
        t.first = first;
        t.last = last;
        return tell(0 <= first && first <= last && last <= 255 && sizes(low, high), t);
    }

    int list(int of, int low, int high) {
        Model item = told(of);
        Model t = sized(Model.LIST, low, high);
        if (item == null) {
            return BAD;
        }
        t.parts.add(item);
        t.hows.add(0);
        return tell(sizes(low, high) && depth(t) <= 8 && weight(t) <= 100, t);
    }

    int open(int kind, boolean marker) {
        Model t = new Model();
        t.kind = Model.SEQUENCE + kind;
        t.marker = marker;
        int number = tell(between(0, kind, 1), t);
        if (number >= 0) {
            opened = types.remove(number);
        }
        return number;
    }

    int part(int type, int how) {
        Model piece = told(type);
        if (opened == null || piece == null || !between(0, how, 2)) {
            return BAD;
        }
        if (how == 1 && opened.kind != Model.SEQUENCE || how == 2 && !opened.marker) {
            return BAD;
        }
        if (how != 2 && opened.added > 0 || depth(piece) == 8) {
            return BAD;
        }
        if (opened.parts.size() == 20 || weight(opened) + weight(piece) > 100) {
            return FULL;
        }
        opened.parts.add(piece);
        opened.hows.add(how);
        opened.added += how == 2 ? 1 : 0;
        opened.roots += how == 2 ? 0 : 1;
        return opened.parts.size() - 1;
    }

    int close() {
        if (opened == null || opened.kind == Model.CHOICE && opened.roots == 0) {
            return BAD;
        }
        types.add(opened);
        opened = null;
        return types.size() - 1;
    }

    int clear() {
        int had = types.size() + (opened == null ? 0 : 1);
        types.clear();
        opened = null;
        return had;
    }

    static int depth(Model t) {
        int most = 0;
        for (Model part : t.parts) {
            most = Math.max(most, depth(part));
        }
        return most + 1;
    }

    static int weight(Model t) {
        int all = 1;
        for (Model part : t.parts) {
            all += weight(part);
        }
        return all;
    }

    int put(long v) {
        if (value.size() == 600) {
            return FULL;
        }
        value.add(v);
        return value.size();
    }

    int drop() {
        int had = value.size();
        value = new ArrayList<>();
        return had;
    }

    long number(int i) {
        return between(0, i, value.size() - 1) ? value.get(i) : 0;
    }

    int numbers() {
        return value.size();
    }

    int pack(int type) {
        Model t = told(type);
        if (t == null) {
            return BAD;
        }
        place = Misfit.placeOf(t, value);
        if (place != NONE) {
            return MISFIT;
        }
        String whole = Model.whole(t, value, new int[1]);
        if (whole.length() > 8000) {
            return FULL;
        }
        octets.clear();
        for (int i = 0; i < whole.length(); i += 8) {
            octets.add(Integer.parseInt(whole.substring(i, i + 8), 2));
        }
        bits = t.bitsOf(value);
        return octets.size();
    }

    int unpack(int type) {
        Model t = told(type);
        if (t == null) {
            return BAD;
        }
        place = NONE;
        StringBuilder all = new StringBuilder();
        for (int b : octets) {
            all.append(Integer.toBinaryString(256 + b).substring(1));
        }
        try {
            value = Model.unpacked(t, all.toString());
            return value.size();
        } catch (Model.Fault fault) {
            place = fault.answer == REFUSED ? fault.place : NONE;
            return fault.answer;
        }
    }

    int place() {
        return place;
    }

    int bits() {
        return bits;
    }

    int feed(int b) {
        if (!between(0, b, 255)) {
            return BAD;
        }
        if (octets.size() == 1000) {
            return FULL;
        }
        octets.add(b);
        return octets.size();
    }

    int wipe() {
        int had = octets.size();
        octets.clear();
        return had;
    }

    int turn(int bit) {
        if (!between(0, bit, 8 * octets.size() - 1)) {
            return BAD;
        }
        int turned = octets.get(bit / 8) ^ 1 << 7 - bit % 8;
        octets.set(bit / 8, turned);
        return turned;
    }

    int octet(int i) {
        return between(0, i, octets.size() - 1) ? octets.get(i) : NONE;
    }

    int octets() {
        return octets.size();
    }

    int type(int type, int what) {
        Model t = told(type);
        if (t == null || !between(0, what, 4)) {
            return BAD;
        }
        boolean whole = t.kind >= Model.SEQUENCE;
        int[] answers = {t.kind, depth(t), whole ? t.parts.size() : 0, whole ? t.added : 0, t.marker ? 1 : 0};
        return answers[what];
    }

    /** Goes along a type and a row of numbers, and tells the first that cannot be. */
    private static final class Misfit {
        private final List<Long> value;
        private int next = 0;
        private boolean found = false;

        private Misfit(List<Long> value) {
            this.value = value;
        }

        static int placeOf(Model t, List<Long> value) {
            Misfit walk = new Misfit(value);
            walk.along(t);
            return walk.found || walk.next < value.size() ? walk.next : NONE;
        }

        private long number(long least, long most) {
            if (found || next >= value.size() || !between(least, value.get(next), most)) {
                found = true;
                return 0;
            }
            return value.get(next++);
        }

        private void along(Model t) {
            switch (t.kind) {
                case Model.TRUTH:
                    number(0, 1);
                    break;
                case Model.INTEGER:
                    boolean below = t.bounds == 0 || t.marker;
                    boolean above = t.bounds != 2 || t.marker;
                    number(below ? -Model.MOST : t.low, above ? Model.MOST : t.high);
                    break;
                case Model.ENUMERATION:
                    number(0, t.roots + t.added - 1);
                    break;
                case Model.CHOICE:
                    int alternative = (int) number(0, t.parts.size() - 1);
                    if (!found) {
                        along(t.parts.get(alternative));
                    }
                    break;
                case Model.SEQUENCE:
                    for (int i = 0; i < t.parts.size() && !found; i++) {
                        if (t.hows.get(i) == 0 || number(0, 1) == 1) {
                            along(t.parts.get(i));
                        }
                    }
                    break;
                case Model.NOTHING:
                    break;
                default:
                    items(t);
                    break;
            }
        }

        private void items(Model t) {
            long n = number(t.low, t.high);
            for (int i = 0; i < n && !found; i++) {
                if (t.kind == Model.LIST) {
                    along(t.parts.get(0));
                } else if (t.kind == Model.TEXT) {
                    number(t.first, t.last);
                } else {
                    number(0, t.kind == Model.BITS ? 1 : 255);
                }
            }
        }
    }
}
