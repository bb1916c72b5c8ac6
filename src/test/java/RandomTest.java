import java.util.ArrayList;
import java.util.List;
import java.util.Random;

/**
 * Promises 16 to 19 and 22 on many types, against the plain model: the seed is fixed, so that every
 * run is the same.
 */
public final class RandomTest {
    private static final int TRIALS = 20000;

    public static void main(String[] args) {
        Random random = new Random(20261115);
        int[] kinds = new int[4];
        for (int i = 0; i < TRIALS; i++) {
            Model type = Model.random(random, 1 + random.nextInt(4));
            Model old = type.older(random);
            List<Long> value = new ArrayList<>();
            type.randomValue(random, value);
            if (value.size() < 100 && fits(type, old)) {
                packAndBack(i, type, old, value, kinds);
                faults(i, random, type, old, value, kinds);
            }
        }
        for (int i = 0; i < kinds.length; i++) {
            if (kinds[i] < 1000) {
                Due.is("trials of sort " + i, 1000, kinds[i]);
            }
        }
        Due.end();
    }

    /** Whether both types can be told in few enough calls. */
    private static boolean fits(Model type, Model old) {
        PackedCodec codec = new PackedCodec();
        int number = type.tell(codec);
        int oldNumber = old.tell(codec);
        return number >= 0 && oldNumber >= 0 && codec.clear() <= 60;
    }

    private static String bits(PackedCodec codec) {
        StringBuilder all = new StringBuilder();
        int n = codec.octets();
        for (int i = 0; i < n; i++) {
            all.append(Integer.toBinaryString(256 + codec.octet(i)).substring(1));
        }
        return all.toString();
    }

    private static long[] array(List<Long> numbers) {
        return numbers.stream().mapToLong(Long::longValue).toArray();
    }

    private static void set(PackedCodec codec, List<Long> value) {
        codec.drop();
        for (long v : value) {
            codec.put(v);
        }
    }

    private static void packAndBack(int trial, Model type, Model old, List<Long> value, int[] kinds) {
        Bench b = new Bench();
        int number = type.tell(b.codec);
        int oldNumber = old.tell(b.codec);
        set(b.codec, value);
        String want = Model.whole(type, value, new int[1]);
        int answer = b.codec.pack(number);
        if (want.length() > 8000) {
            Due.is(trial + " full", PackedCodec.FULL, answer);
            return;
        }
        Due.is(trial + " pack", want.length() / 8, answer);
        Due.is(trial + " bits", type.bitsOf(value), b.codec.bits());
        Due.is(trial + " octets", 0, want.compareTo(bits(b.codec)));
        b.codec.drop();
        Due.is(trial + " unpack", value.size(), b.codec.unpack(number));
        Due.are(trial + " value", array(value), b.value());
        List<Long> seen = new ArrayList<>();
        type.project(old, value, new int[1], seen);
        Due.is(trial + " unpack by the older", seen.size(), b.codec.unpack(oldNumber));
        Due.are(trial + " value of the older", array(seen), b.value());
        kinds[0]++;
        readByNewer(trial, b, number, oldNumber, seen);
    }

    /** What the older one packs the newer one reads, and packs to a value that the older reads the same. */
    private static void readByNewer(int trial, Bench b, int number, int oldNumber, List<Long> seen) {
        if (seen.contains(-1L) || seen.size() > 50) {
            return;
        }
        set(b.codec, seen);
        if (b.codec.pack(oldNumber) < 0) {
            return;
        }
        Due.is(trial + " newer reads older", 1, b.codec.unpack(number) >= seen.size() ? 1 : 0);
        Due.is(trial + " newer packs it", 1, b.codec.pack(number) > 0 ? 1 : 0);
        Due.is(trial + " older reads it", seen.size(), b.codec.unpack(oldNumber));
        Due.are(trial + " older's value", array(seen), b.value());
    }

    private static void faults(int trial, Random random, Model type, Model old, List<Long> value, int[] kinds) {
        for (int i = 0; i < 20; i++) {
            Bench b = new Bench();
            int number = type.tell(b.codec);
            int oldNumber = old.tell(b.codec);
            set(b.codec, value);
            int n = b.codec.pack(number);
            if (n < 0) {
                return;
            }
            spoil(random, b, n);
            b.codec.drop();
            boolean byOld = random.nextBoolean();
            compare(trial, b, byOld ? old : type, byOld ? oldNumber : number, kinds);
            misfit(trial, random, b, number, value);
        }
    }

    private static void spoil(Random random, Bench b, int n) {
        switch (random.nextInt(4)) {
            case 0:
                b.codec.feed(random.nextInt(256));
                break;
            case 1:
                long[] octets = b.octets();
                int kept = random.nextInt(n);
                b.codec.wipe();
                for (int i = 0; i < kept; i++) {
                    b.codec.feed((int) octets[i]);
                }
                break;
            default:
                for (int i = random.nextInt(3); i >= 0; i--) {
                    b.codec.turn(random.nextInt(8 * Math.min(n, random.nextBoolean() ? 6 : 1000)));
                }
                break;
        }
    }

    private static void compare(int trial, Bench b, Model type, int number, int[] kinds) {
        String bits = bits(b.codec);
        int answer = b.codec.unpack(number);
        try {
            List<Long> want = Model.unpacked(type, bits);
            Due.is(trial + " unpack " + bits, want.size(), answer);
            Due.is(trial + " place " + bits, PackedCodec.NONE, b.codec.place());
            Due.are(trial + " value " + bits, array(want), b.value());
            kinds[1]++;
        } catch (Model.Fault fault) {
            Due.is(trial + " unpack " + bits, fault.answer, answer);
            Due.is(trial + " place " + bits, fault.place, b.codec.place());
            Due.is(trial + " numbers " + bits, 0, b.codec.numbers());
            kinds[2]++;
        }
        kinds[3]++;
    }

    /** A number that can be nowhere is told by its place; so is the lack of it, and one too many. */
    private static void misfit(int trial, Random random, Bench b, int number, List<Long> value) {
        List<Long> spoilt = new ArrayList<>(value);
        int at = value.isEmpty() ? 0 : random.nextInt(value.size());
        switch (random.nextInt(3)) {
            case 0:
                spoilt.subList(at, spoilt.size()).clear();
                at = spoilt.size();
                break;
            case 1:
                spoilt.add(5L);
                at = value.size();
                break;
            default:
                if (!value.isEmpty()) {
                    spoilt.set(at, Long.MIN_VALUE);
                }
                break;
        }
        if (spoilt.size() == value.size() && value.isEmpty()) {
            return;
        }
        set(b.codec, spoilt);
        Due.is(trial + " misfit", PackedCodec.MISFIT, b.codec.pack(number));
        Due.is(trial + " misfit's place", at, b.codec.place());
    }
}
