/** The examples of README.md, line by line, with the answers that are told there. */
public final class ExampleTest {
    private static final PackedCodec codec = new PackedCodec();

    public static void main(String[] args) {
        int truth = codec.simple(0);
        int age = codec.integer(0, 150, 2, false);
        int person = codec.open(0, true);
        Due.is("a root component", 0, codec.part(age, 0));
        Due.is("an OPTIONAL one", 1, codec.part(truth, 1));
        Due.is("the SEQUENCE", 2, codec.close());

        Due.is("the age", 1, codec.put(42));
        Due.is("the OPTIONAL one is there", 2, codec.put(1));
        Due.is("and is true", 3, codec.put(1));
        Due.is("bytes", 2, codec.pack(person));
        octets(74, 160);
        Due.is("bits", 11, codec.bits());

        Due.is("drop", 3, codec.drop());
        Due.is("numbers", 3, codec.unpack(person));
        numbers(42, 1, 1);

        extended(truth, age, person);
        Due.end();
    }

    private static void extended(int truth, int age, int person) {
        int name = codec.text(97, 122, 0, PackedCodec.NONE);
        int newer = codec.open(0, true);
        codec.part(age, 0);
        codec.part(truth, 1);
        Due.is("an ADDITION", 2, codec.part(name, 2));
        Due.is("the newer SEQUENCE", 4, codec.close());
        Due.is("the newer reads the older's", 4, codec.unpack(newer));
        numbers(42, 1, 1, 0);

        codec.drop();
        long[] value = {42, 0, 1, 2, 104, 105};
        for (long v : value) {
            codec.put(v);
        }
        Due.is("bytes of the newer", 7, codec.pack(newer));
        octets(138, 128, 64, 3, 2, 7, 8);
        Due.is("the older reads the newer's", 2, codec.unpack(person));
        numbers(42, 0);
        faults(age, newer);
    }

    private static void faults(int age, int newer) {
        Due.is("one number too many", PackedCodec.MISFIT, codec.pack(age));
        Due.is("the number at fault", 1, codec.place());
        Due.is("the LENGTH becomes 2", 2, codec.turn(31));
        Due.is("the name is cut off", PackedCodec.REFUSED, codec.unpack(newer));
        Due.is("the bit at fault", 48, codec.place());
    }

    private static void octets(int... due) {
        Due.is("octets()", due.length, codec.octets());
        for (int i = 0; i < due.length; i++) {
            Due.is("octet " + i, due[i], codec.octet(i));
        }
    }

    private static void numbers(long... due) {
        Due.is("numbers()", due.length, codec.numbers());
        for (int i = 0; i < due.length; i++) {
            Due.is("number " + i, due[i], codec.number(i));
        }
    }
}
