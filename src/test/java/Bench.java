/** An object under test, with the calls that tests repeat. */
final class Bench {
    final PackedCodec codec = new PackedCodec();

    int sequence(boolean marker, int... typesAndHows) {
        return whole(0, marker, typesAndHows);
    }

    int choice(boolean marker, int... typesAndHows) {
        return whole(1, marker, typesAndHows);
    }

    private int whole(int kind, boolean marker, int... typesAndHows) {
        int number = codec.open(kind, marker);
        for (int i = 0; i + 1 < typesAndHows.length; i += 2) {
            Due.is("part " + i / 2, i / 2, codec.part(typesAndHows[i], typesAndHows[i + 1]));
        }
        Due.is("close", number, codec.close());
        return number;
    }

    void setValue(long... numbers) {
        codec.drop();
        for (long number : numbers) {
            codec.put(number);
        }
    }

    void setOctets(int... bytes) {
        codec.wipe();
        for (int b : bytes) {
            codec.feed(b);
        }
    }

    long[] value() {
        long[] numbers = new long[codec.numbers()];
        for (int i = 0; i < numbers.length; i++) {
            numbers[i] = codec.number(i);
        }
        return numbers;
    }

    long[] octets() {
        long[] bytes = new long[codec.octets()];
        for (int i = 0; i < bytes.length; i++) {
            bytes[i] = codec.octet(i);
        }
        return bytes;
    }

    /** The value is packed to these bytes, and is what these are unpacked to. */
    void bothWays(String what, int type, long[] numbers, int... bytes) {
        long[] wide = new long[bytes.length];
        for (int i = 0; i < bytes.length; i++) {
            wide[i] = bytes[i];
        }
        setValue(numbers);
        codec.wipe();
        Due.is(what + ": pack", bytes.length, codec.pack(type));
        Due.is(what + ": place", PackedCodec.NONE, codec.place());
        Due.are(what + ": octets", wide, octets());
        codec.drop();
        Due.is(what + ": unpack", numbers.length, codec.unpack(type));
        Due.is(what + ": place", PackedCodec.NONE, codec.place());
        Due.are(what + ": value", numbers, value());
    }

    void unpacks(String what, int type, long[] numbers, int... bytes) {
        setOctets(bytes);
        codec.drop();
        Due.is(what + ": unpack", numbers.length, codec.unpack(type));
        Due.is(what + ": place", PackedCodec.NONE, codec.place());
        Due.are(what + ": value", numbers, value());
    }

    void misfits(String what, int type, int place, long... numbers) {
        setValue(numbers);
        long[] before = octets();
        Due.is(what + ": pack", PackedCodec.MISFIT, codec.pack(type));
        Due.is(what + ": place", place, codec.place());
        Due.are(what + ": octets", before, octets());
        Due.are(what + ": value", numbers, value());
    }

    void refuses(String what, int type, int place, int... bytes) {
        setOctets(bytes);
        setValue(77, 78);
        Due.is(what + ": unpack", PackedCodec.REFUSED, codec.unpack(type));
        Due.is(what + ": place", place, codec.place());
        Due.are(what + ": value", new long[] {77, 78}, value());
    }

    static long[] row(long... numbers) {
        return numbers;
    }

    /** Bytes that are written as bits, with blanks wherever they please; a last one is filled up with 0. */
    static int[] bytes(String written) {
        String bits = written.replace(" ", "");
        int[] bytes = new int[(bits.length() + 7) / 8];
        for (int i = 0; i < bits.length(); i++) {
            bytes[i / 8] |= bits.charAt(i) == '1' ? 128 >> i % 8 : 0;
        }
        return bytes;
    }
}
