import java.util.function.ToIntFunction;

/**
 * The edges of promises 2 to 11 and 25: the last argument that is taken and the first that is not, on
 * both sides; each in a new object, as the 60th and the 61st type, and while another is open.
 */
public final class EdgeTypesTest {
    private static final int NONE = PackedCodec.NONE;
    private static final int BAD = PackedCodec.BAD;
    private static final int FULL = PackedCodec.FULL;
    private static final int LEAST = Integer.MIN_VALUE;
    private static final int MOST = Integer.MAX_VALUE;
    private static final long BOUND = 1L << 61;
    private static final int ROOT = 0;
    private static final int OPTIONAL = 1;
    private static final int ADDITION = 2;

    public static void main(String[] args) {
        simpleKind();
        integerBounds();
        integerMarker();
        integerLow();
        integerHigh();
        integerLowAndHigh();
        integerThatDoNotCount();
        enumerationItems();
        enumerationMore();
        rowKind();
        sizesOf("5 BITS", (x, low, high) -> x.row(0, low, high));
        sizesOf("5 OCTETS", (x, low, high) -> x.row(1, low, high));
        textFirstAndLast();
        sizesOf("6 TEXT", (x, low, high) -> x.text(65, 66, low, high));
        sizesOf("7 LIST", (x, low, high) -> x.list(0, low, high));
        listOf();
        listDepth();
        listWeight();
        openKind();
        openAsTheSixtieth();
        oneIsOpen();
        partHow();
        partType();
        partBehindAddition();
        partNoneOpen();
        partDepth();
        partTwenty();
        partWeight();
        weightOfEachKind();
        weightOfEachHow();
        closeNoneOpen();
        closeChoice();
        closeSequence();
        clearCounts();
        typeNumber();
        typeWhat();
        typeOfEachKind();
        Due.end();
    }

    /** An object with so many types TRUTH. */
    private static PackedCodec told(int n) {
        PackedCodec x = new PackedCodec();
        for (int i = 0; i < n; i++) {
            x.simple(0);
        }
        return x;
    }

    private static PackedCodec withOneOpen() {
        PackedCodec x = told(1);
        x.open(0, true);
        return x;
    }

    private static void taken(String what, ToIntFunction<PackedCodec> call) {
        Due.is(what, 1, call.applyAsInt(told(1)));
        Due.is(what + ", the 60th", 59, call.applyAsInt(told(59)));
        PackedCodec all = told(60);
        Due.is(what + ", the 61st", FULL, call.applyAsInt(all));
        Due.is(what + ", the 61st is not told", 60, all.clear());
        PackedCodec busy = withOneOpen();
        Due.is(what + ", while one is open", FULL, call.applyAsInt(busy));
        Due.is(what + ", the open one stays open", 0, busy.part(0, ROOT));
        Due.is(what + ", while one is open, is not told", 2, busy.clear());
    }

    private static void bad(String what, ToIntFunction<PackedCodec> call) {
        for (int n : new int[] {1, 59, 60}) {
            PackedCodec x = told(n);
            Due.is(what + ", behind " + n, BAD, call.applyAsInt(x));
            Due.is(what + ", behind " + n + ", is not told", n, x.clear());
        }
        PackedCodec busy = withOneOpen();
        Due.is(what + ", while one is open", BAD, call.applyAsInt(busy));
        Due.is(what + ", the open one stays open", 0, busy.part(0, ROOT));
        Due.is(what + ", while one is open, is not told", 2, busy.clear());
    }

    private static void simpleKind() {
        bad("2 kind least", x -> x.simple(LEAST));
        bad("2 kind -1", x -> x.simple(-1));
        taken("2 kind 0", x -> x.simple(0));
        taken("2 kind 1", x -> x.simple(1));
        bad("2 kind 2", x -> x.simple(2));
        bad("2 kind most", x -> x.simple(MOST));
    }

    private static void integerBounds() {
        bad("3 bounds least", x -> x.integer(0, 1, LEAST, false));
        bad("3 bounds -1", x -> x.integer(0, 1, -1, false));
        taken("3 bounds 0", x -> x.integer(0, 1, 0, false));
        taken("3 bounds 1", x -> x.integer(0, 1, 1, false));
        taken("3 bounds 2", x -> x.integer(0, 1, 2, false));
        bad("3 bounds 3", x -> x.integer(0, 1, 3, false));
        bad("3 bounds most", x -> x.integer(0, 1, MOST, false));
    }

    private static void integerMarker() {
        bad("3 MARKER with bounds -1", x -> x.integer(0, 1, -1, true));
        bad("3 MARKER with none", x -> x.integer(0, 1, 0, true));
        bad("3 MARKER with LOW", x -> x.integer(0, 1, 1, true));
        taken("3 MARKER with both", x -> x.integer(0, 1, 2, true));
        bad("3 MARKER with bounds 3", x -> x.integer(0, 1, 3, true));
    }

    private static void integerLow() {
        bad("3 LOW alone, least", x -> x.integer(Long.MIN_VALUE, 0, 1, false));
        bad("3 LOW alone, - 2^61 - 1", x -> x.integer(-BOUND - 1, 0, 1, false));
        taken("3 LOW alone, - 2^61", x -> x.integer(-BOUND, 0, 1, false));
        taken("3 LOW alone, 2^61", x -> x.integer(BOUND, 0, 1, false));
        bad("3 LOW alone, 2^61 + 1", x -> x.integer(BOUND + 1, 0, 1, false));
        bad("3 LOW alone, most", x -> x.integer(Long.MAX_VALUE, 0, 1, false));
        bad("3 LOW of both, least", x -> x.integer(Long.MIN_VALUE, 0, 2, false));
        bad("3 LOW of both, - 2^61 - 1", x -> x.integer(-BOUND - 1, 0, 2, false));
        taken("3 LOW of both, - 2^61", x -> x.integer(-BOUND, 0, 2, false));
        taken("3 LOW of both, 2^61", x -> x.integer(BOUND, BOUND, 2, false));
        bad("3 both, 2^61 + 1", x -> x.integer(BOUND + 1, BOUND + 1, 2, false));
        bad("3 LOW with a MARKER, - 2^61 - 1", x -> x.integer(-BOUND - 1, 0, 2, true));
        taken("3 LOW with a MARKER, - 2^61", x -> x.integer(-BOUND, 0, 2, true));
    }

    private static void integerHigh() {
        bad("3 both, - 2^61 - 1", x -> x.integer(-BOUND - 1, -BOUND - 1, 2, false));
        taken("3 HIGH, - 2^61", x -> x.integer(-BOUND, -BOUND, 2, false));
        taken("3 HIGH, 2^61", x -> x.integer(0, BOUND, 2, false));
        bad("3 HIGH, 2^61 + 1", x -> x.integer(0, BOUND + 1, 2, false));
        bad("3 HIGH, most", x -> x.integer(0, Long.MAX_VALUE, 2, false));
        taken("3 HIGH with a MARKER, 2^61", x -> x.integer(0, BOUND, 2, true));
        bad("3 HIGH with a MARKER, 2^61 + 1", x -> x.integer(0, BOUND + 1, 2, true));
        taken("3 the widest", x -> x.integer(-BOUND, BOUND, 2, false));
    }

    private static void integerLowAndHigh() {
        taken("3 LOW below HIGH", x -> x.integer(6, 7, 2, false));
        taken("3 LOW = HIGH", x -> x.integer(7, 7, 2, false));
        bad("3 LOW above HIGH", x -> x.integer(8, 7, 2, false));
        bad("3 LOW above HIGH with a MARKER", x -> x.integer(8, 7, 2, true));
        taken("3 both below 0", x -> x.integer(-8, -7, 2, false));
        bad("3 both below 0, LOW above HIGH", x -> x.integer(-7, -8, 2, false));
    }

    private static void integerThatDoNotCount() {
        taken("3 LOW does not count", x -> x.integer(BOUND + 1, 0, 0, false));
        taken("3 LOW does not count", x -> x.integer(-BOUND - 1, 0, 0, false));
        taken("3 HIGH does not count without LOW", x -> x.integer(0, BOUND + 1, 0, false));
        taken("3 HIGH does not count with LOW", x -> x.integer(0, BOUND + 1, 1, false));
        taken("3 HIGH does not count with LOW", x -> x.integer(0, -BOUND - 1, 1, false));
        taken("3 LOW above HIGH does not count", x -> x.integer(8, 7, 0, false));
        taken("3 LOW above HIGH does not count", x -> x.integer(8, 7, 1, false));
    }

    private static void enumerationItems() {
        bad("4 r least", x -> x.enumeration(LEAST, 0));
        bad("4 r -1", x -> x.enumeration(-1, 0));
        bad("4 r 0", x -> x.enumeration(0, 0));
        bad("4 r 0 without a MARKER", x -> x.enumeration(0, NONE));
        taken("4 r 1", x -> x.enumeration(1, 0));
        taken("4 r 300", x -> x.enumeration(300, 0));
        taken("4 r 300 without a MARKER", x -> x.enumeration(300, NONE));
        bad("4 r 301", x -> x.enumeration(301, 0));
        bad("4 r most", x -> x.enumeration(MOST, 0));
    }

    private static void enumerationMore() {
        bad("4 x least", x -> x.enumeration(1, LEAST));
        bad("4 x -2", x -> x.enumeration(1, -2));
        taken("4 x NONE", x -> x.enumeration(1, NONE));
        taken("4 x 0", x -> x.enumeration(1, 0));
        taken("4 x 100", x -> x.enumeration(300, 100));
        bad("4 x 101", x -> x.enumeration(1, 101));
        bad("4 x most", x -> x.enumeration(1, MOST));
        PackedCodec x = new PackedCodec();
        x.enumeration(1, NONE);
        x.enumeration(1, 0);
        Due.is("4 x NONE: without a MARKER", 0, x.type(0, 4));
        Due.is("4 x 0: with a MARKER", 1, x.type(1, 4));
    }

    private static void rowKind() {
        bad("5 kind least", x -> x.row(LEAST, 0, 1));
        bad("5 kind -1", x -> x.row(-1, 0, 1));
        taken("5 kind 0", x -> x.row(0, 0, 1));
        taken("5 kind 1", x -> x.row(1, 0, 1));
        bad("5 kind 2", x -> x.row(2, 0, 1));
        bad("5 kind most", x -> x.row(MOST, 0, 1));
    }

    private interface Sized {
        int tell(PackedCodec x, int low, int high);
    }

    private static void sizesOf(String what, Sized type) {
        bad(what + ", LOW least", x -> type.tell(x, LEAST, 1));
        bad(what + ", LOW -1", x -> type.tell(x, -1, 1));
        bad(what + ", LOW -1 without HIGH", x -> type.tell(x, -1, NONE));
        taken(what + ", LOW 0", x -> type.tell(x, 0, 1));
        taken(what + ", LOW 0 without HIGH", x -> type.tell(x, 0, NONE));
        taken(what + ", LOW 300 without HIGH", x -> type.tell(x, 300, NONE));
        bad(what + ", LOW 301 without HIGH", x -> type.tell(x, 301, NONE));
        bad(what + ", LOW most without HIGH", x -> type.tell(x, MOST, NONE));
        taken(what + ", both 0", x -> type.tell(x, 0, 0));
        taken(what + ", both 300", x -> type.tell(x, 300, 300));
        bad(what + ", both 301", x -> type.tell(x, 301, 301));
        bad(what + ", HIGH least", x -> type.tell(x, 0, LEAST));
        bad(what + ", HIGH -2", x -> type.tell(x, 0, -2));
        taken(what + ", HIGH 300", x -> type.tell(x, 0, 300));
        bad(what + ", HIGH 301", x -> type.tell(x, 0, 301));
        bad(what + ", HIGH most", x -> type.tell(x, 0, MOST));
        taken(what + ", LOW below HIGH", x -> type.tell(x, 6, 7));
        taken(what + ", LOW = HIGH", x -> type.tell(x, 7, 7));
        bad(what + ", LOW above HIGH", x -> type.tell(x, 8, 7));
        bad(what + ", LOW above HIGH 0", x -> type.tell(x, 1, 0));
    }

    private static void textFirstAndLast() {
        bad("6 FIRST least", x -> x.text(LEAST, 66, 0, 1));
        bad("6 FIRST -1", x -> x.text(-1, 66, 0, 1));
        taken("6 FIRST 0", x -> x.text(0, 66, 0, 1));
        taken("6 LAST 255", x -> x.text(65, 255, 0, 1));
        bad("6 LAST 256", x -> x.text(65, 256, 0, 1));
        bad("6 LAST most", x -> x.text(65, MOST, 0, 1));
        taken("6 both 0", x -> x.text(0, 0, 0, 1));
        taken("6 both 255", x -> x.text(255, 255, 0, 1));
        bad("6 both -1", x -> x.text(-1, -1, 0, 1));
        bad("6 both 256", x -> x.text(256, 256, 0, 1));
        taken("6 FIRST below LAST", x -> x.text(65, 66, 0, 1));
        taken("6 FIRST = LAST", x -> x.text(66, 66, 0, 1));
        bad("6 FIRST above LAST", x -> x.text(67, 66, 0, 1));
        bad("6 LAST -1", x -> x.text(0, -1, 0, 1));
    }

    private static void listOf() {
        bad("7 of least", x -> x.list(LEAST, 0, 1));
        bad("7 of -1", x -> x.list(-1, 0, 1));
        taken("7 of 0", x -> x.list(0, 0, 1));
        bad("7 of 60", x -> x.list(60, 0, 1));
        bad("7 of most", x -> x.list(MOST, 0, 1));
        Due.is("7 of any, without types", BAD, new PackedCodec().list(0, 0, 1));
        PackedCodec x = told(3);
        Due.is("7 of the one that it would be", BAD, x.list(3, 0, 1));
        Due.is("7 of the last", 3, x.list(2, 0, 1));
        Due.is("7 of 59", FULL, told(60).list(59, 0, 1));
        PackedCodec busy = withOneOpen();
        Due.is("7 of the open one", BAD, busy.list(1, 0, 1));
        busy.close();
        Due.is("7 of the one that was open", 2, busy.list(1, 0, 1));
    }

    /** Type n - 1 has DEPTH n, up to 8. */
    private static PackedCodec deep() {
        PackedCodec x = told(1);
        for (int i = 1; i < 8; i++) {
            x.list(i - 1, 0, 1);
        }
        return x;
    }

    private static void listDepth() {
        PackedCodec x = deep();
        for (int i = 0; i < 8; i++) {
            Due.is("7 DEPTH", i + 1, x.type(i, 1));
        }
        Due.is("7 DEPTH 9", BAD, x.list(7, 0, 1));
        Due.is("7 DEPTH 9 is not told", 8, x.list(6, 0, 1));
        Due.is("7 DEPTH 8", 8, x.type(8, 1));
        x.open(0, false);
        Due.is("7 DEPTH 9, while one is open", BAD, x.list(7, 0, 1));
        Due.is("7 DEPTH 8, while one is open", FULL, x.list(6, 0, 1));
        x = deep();
        for (int i = 8; i < 60; i++) {
            x.simple(0);
        }
        Due.is("7 DEPTH 9, the 61st", BAD, x.list(7, 0, 1));
        Due.is("7 DEPTH 8, the 61st", FULL, x.list(6, 0, 1));
    }

    /** Type 0 weighs 1, 1 weighs 21, 2 weighs 14, 3 weighs 98, all SEQUENCES but the first. */
    private static PackedCodec heavy() {
        Bench b = new Bench();
        b.codec.simple(0);
        b.sequence(false, new int[40]);
        b.sequence(false, new int[26]);
        b.sequence(false, 1, 0, 1, 0, 1, 0, 1, 0, 0, 0, 0, 0, 0, 0, 0, 0, 0, 0, 0, 0, 0, 0, 0, 0, 0, 0, 0, 0, 0, 0,
            0, 0, 0, 0);
        return b.codec;
    }

    private static void listWeight() {
        PackedCodec x = heavy();
        Due.is("7 WEIGHT 99", 4, x.list(3, 0, 1));
        Due.is("7 WEIGHT 100", 5, x.list(4, 0, 1));
        Due.is("7 WEIGHT 101", BAD, x.list(5, 0, 1));
        Due.is("7 WEIGHT 101 is not told", 6, x.simple(0));
        x.open(0, false);
        Due.is("7 WEIGHT 101, while one is open", BAD, x.list(5, 0, 1));
        Due.is("7 WEIGHT 100, while one is open", FULL, x.list(4, 0, 1));
    }

    private static void openKind() {
        bad("8 kind least", x -> x.open(LEAST, false));
        bad("8 kind -1", x -> x.open(-1, false));
        taken("8 kind 0", x -> x.open(0, false));
        taken("8 kind 1", x -> x.open(1, false));
        taken("8 kind 0 with a MARKER", x -> x.open(0, true));
        taken("8 kind 1 with a MARKER", x -> x.open(1, true));
        bad("8 kind 2", x -> x.open(2, true));
        bad("8 kind most", x -> x.open(MOST, false));
    }

    private static void openAsTheSixtieth() {
        PackedCodec x = told(59);
        Due.is("8 the 60th", 59, x.open(1, false));
        Due.is("9 of the 60th", 0, x.part(58, ROOT));
        Due.is("9 itself", BAD, x.part(59, ROOT));
        Due.is("10 the 60th", 59, x.close());
        Due.is("8 the 61st", FULL, x.open(0, false));
        Due.is("10 the 61st", BAD, x.close());
        Due.is("25 the 60th", 9, x.type(59, 0));
        Due.is("11 60", 60, x.clear());
    }

    private static void oneIsOpen() {
        PackedCodec x = told(1);
        Due.is("8 open", 1, x.open(0, true));
        Due.is("8 one is open", FULL, x.open(0, true));
        Due.is("10 close", 1, x.close());
        Due.is("8 none is open any more", 2, x.open(0, true));
        x.clear();
        Due.is("8 clear leaves none open", 0, x.open(0, true));
    }

    private static PackedCodec opened(int kind, boolean marker) {
        PackedCodec x = told(1);
        x.open(kind, marker);
        return x;
    }

    private static void partHow() {
        for (int kind = 0; kind < 2; kind++) {
            for (int marker = 0; marker < 2; marker++) {
                String what = "9 part of kind " + kind + (marker == 0 ? "" : " with a MARKER") + ", how ";
                for (int how : new int[] {LEAST, -1, ROOT, OPTIONAL, ADDITION, 3, MOST}) {
                    boolean taken = how == ROOT || (how == OPTIONAL && kind == 0) || (how == ADDITION && marker == 1);
                    PackedCodec x = opened(kind, marker == 1);
                    Due.is(what + how, taken ? 0 : BAD, x.part(0, how));
                    Due.is(what + how + ", how many then", taken ? 1 : 0, x.part(0, marker == 1 ? ADDITION : ROOT));
                }
            }
        }
    }

    private static void partType() {
        PackedCodec x = opened(0, false);
        Due.is("9 type least", BAD, x.part(LEAST, ROOT));
        Due.is("9 type -1", BAD, x.part(-1, ROOT));
        Due.is("9 type 1, the open one", BAD, x.part(1, ROOT));
        Due.is("9 type 2", BAD, x.part(2, ROOT));
        Due.is("9 type most", BAD, x.part(MOST, ROOT));
        Due.is("9 type 0", 0, x.part(0, ROOT));
        Due.is("9 type 0 again", 1, x.part(0, ROOT));
    }

    private static void partBehindAddition() {
        for (int kind = 0; kind < 2; kind++) {
            PackedCodec x = opened(kind, true);
            Due.is("9 root, ahead of an ADDITION", 0, x.part(0, ROOT));
            Due.is("9 root, ahead of an ADDITION", 1, x.part(0, ROOT));
            Due.is("9 ADDITION", 2, x.part(0, ADDITION));
            Due.is("9 root, behind an ADDITION", BAD, x.part(0, ROOT));
            Due.is("9 OPTIONAL, behind an ADDITION", BAD, x.part(0, OPTIONAL));
            Due.is("9 ADDITION, behind an ADDITION", 3, x.part(0, ADDITION));
            x.close();
            Due.is("25 parts", 4, x.type(1, 2));
            Due.is("25 ADDITIONS", 2, x.type(1, 3));
            x.open(kind, true);
            Due.is("9 root, of the next one", 0, x.part(0, ROOT));
        }
    }

    private static void partNoneOpen() {
        Due.is("9 none is open, no types", BAD, new PackedCodec().part(0, ROOT));
        PackedCodec x = told(1);
        Due.is("9 none is open", BAD, x.part(0, ROOT));
        x.open(0, false);
        x.part(0, ROOT);
        x.close();
        Due.is("9 none is open any more", BAD, x.part(0, ROOT));
        Due.is("25 nor has it got one", 1, x.type(1, 2));
        x.open(0, false);
        x.clear();
        x.simple(0);
        Due.is("9 none is open behind clear()", BAD, x.part(0, ROOT));
        Due.is("9 none is open, 60 types", BAD, told(60).part(0, ROOT));
    }

    private static void partDepth() {
        for (int kind = 0; kind < 2; kind++) {
            for (int how : new int[] {ROOT, OPTIONAL, ADDITION}) {
                if (kind == 1 && how == OPTIONAL) {
                    continue;
                }
                String what = "9 kind " + kind + ", how " + how;
                PackedCodec x = deep();
                x.open(kind, true);
                x.part(0, ROOT);
                Due.is(what + ", DEPTH 9", BAD, x.part(7, how));
                Due.is(what + ", DEPTH 8", 1, x.part(6, how));
                Due.is(what + ", one less deep behind it", 2, x.part(0, how));
                Due.is(what + ", close", 8, x.close());
                Due.is(what + ", DEPTH", 8, x.type(8, 1));
                Due.is(what + ", a LIST of it", BAD, x.list(8, 0, 1));
            }
        }
    }

    private static void partTwenty() {
        for (int kind = 0; kind < 2; kind++) {
            PackedCodec x = opened(kind, true);
            for (int i = 0; i < 20; i++) {
                Due.is("9 part " + i, i, x.part(0, i < 19 ? ROOT : ADDITION));
            }
            Due.is("9 it has 20", FULL, x.part(0, ADDITION));
            Due.is("9 it has 20, and how is BAD", BAD, x.part(0, 3));
            Due.is("9 it has 20, and a root one is BAD", BAD, x.part(0, ROOT));
            Due.is("9 it has 20, and no such type", BAD, x.part(1, ADDITION));
            Due.is("10 of 20", 1, x.close());
            Due.is("25 20 parts", 20, x.type(1, 2));
            Due.is("25 one ADDITION", 1, x.type(1, 3));
        }
    }

    private static void partWeight() {
        for (int kind = 0; kind < 2; kind++) {
            PackedCodec x = heavy();
            x.open(kind, false);
            Due.is("9 WEIGHT 99", 0, x.part(3, ROOT));
            Due.is("9 WEIGHT 120", FULL, x.part(1, ROOT));
            Due.is("9 WEIGHT 100", 1, x.part(0, ROOT));
            Due.is("9 WEIGHT 101", FULL, x.part(0, ROOT));
            Due.is("9 WEIGHT 101, and how is BAD", BAD, x.part(0, ADDITION));
            Due.is("9 WEIGHT 101, and no such type", BAD, x.part(4, ROOT));
            Due.is("10 WEIGHT 100", 4, x.close());
            Due.is("25 two parts", 2, x.type(4, 2));
            Due.is("7 a LIST of WEIGHT 101", BAD, x.list(4, 0, 1));
            x.open(kind, false);
            Due.is("9 WEIGHT 101 by one", FULL, x.part(4, ROOT));
        }
    }

    /** All but LISTS, SEQUENCES and CHOICES weigh 1; a LIST of one weighs 2. */
    private static void weightOfEachKind() {
        for (int kind = 0; kind < 10; kind++) {
            PackedCodec x = heavy();
            int one = tellKind(x, kind);
            x.open(0, false);
            Due.is("9 WEIGHT 99", 0, x.part(3, ROOT));
            if (kind < 7) {
                Due.is("9 WEIGHT 100 by kind " + kind, 1, x.part(one, ROOT));
                Due.is("9 WEIGHT 101 by kind " + kind, FULL, x.part(one, ROOT));
            } else {
                Due.is("9 WEIGHT 101 by kind " + kind, FULL, x.part(one, ROOT));
            }
        }
    }

    private static int tellKind(PackedCodec x, int kind) {
        switch (kind) {
            case 2:
                return x.integer(0, 1, 2, true);
            case 3:
                return x.enumeration(300, 100);
            case 4:
                return x.row(0, 0, 300);
            case 5:
                return x.row(1, 0, 300);
            case 6:
                return x.text(0, 255, 0, 300);
            case 7:
                return x.list(0, 0, 300);
            case 8:
            case 9:
                x.open(kind - 8, true);
                x.part(0, ROOT);
                return x.close();
            default:
                return x.simple(kind);
        }
    }

    private static void weightOfEachHow() {
        int[][] kindsAndHows = {{0, ROOT}, {0, OPTIONAL}, {0, ADDITION}, {1, ROOT}, {1, ADDITION}};
        for (int[] each : kindsAndHows) {
            String what = ", of kind " + each[0] + ", how " + each[1];
            PackedCodec x = heavy();
            x.open(each[0], true);
            Due.is("9 WEIGHT 99" + what, 0, x.part(3, each[1]));
            Due.is("9 WEIGHT 113" + what, FULL, x.part(2, each[1]));
            Due.is("9 WEIGHT 100" + what, 1, x.part(0, each[1]));
            Due.is("9 WEIGHT 101" + what, FULL, x.part(0, each[1]));
        }
        PackedCodec x = heavy();
        x.open(0, false);
        x.close();
        x.open(0, false);
        x.part(3, ROOT);
        Due.is("9 WEIGHT 100 by an empty SEQUENCE", 1, x.part(4, ROOT));
        Due.is("9 WEIGHT 101 by an empty SEQUENCE", FULL, x.part(4, ROOT));
    }

    private static void closeNoneOpen() {
        Due.is("10 none is open, no types", BAD, new PackedCodec().close());
        Due.is("10 none is open", BAD, told(1).close());
        Due.is("10 none is open, 60 types", BAD, told(60).close());
        PackedCodec x = opened(0, false);
        Due.is("10 one is open", 1, x.close());
        Due.is("10 none is open any more", BAD, x.close());
        Due.is("11 two", 2, x.clear());
    }

    private static void closeChoice() {
        PackedCodec x = opened(1, true);
        Due.is("10 CHOICE without alternatives", BAD, x.close());
        Due.is("10 it stays open", FULL, x.simple(0));
        x.part(0, ADDITION);
        Due.is("10 CHOICE without root alternatives", BAD, x.close());
        Due.is("10 it stays open", 1, x.part(0, ADDITION));
        Due.is("25 it is no type yet", BAD, x.type(1, 0));
        x = opened(1, true);
        x.part(0, ROOT);
        Due.is("10 CHOICE with one root alternative", 1, x.close());
        x.open(1, false);
        Due.is("10 the next CHOICE without alternatives", BAD, x.close());
        x.part(0, ROOT);
        Due.is("10 and with one", 2, x.close());
    }

    private static void closeSequence() {
        Due.is("10 SEQUENCE without components", 1, opened(0, false).close());
        PackedCodec x = opened(0, true);
        x.part(0, ADDITION);
        Due.is("10 SEQUENCE without root components", 1, x.close());
        Due.is("25 its parts", 1, x.type(1, 2));
        Due.is("25 its ADDITIONS", 1, x.type(1, 3));
    }

    private static void clearCounts() {
        Due.is("11 none", 0, new PackedCodec().clear());
        Due.is("11 one", 1, told(1).clear());
        Due.is("11 60", 60, told(60).clear());
        PackedCodec alone = new PackedCodec();
        alone.open(0, false);
        Due.is("11 an open one alone", 1, alone.clear());
        PackedCodec x = told(59);
        x.open(0, false);
        Due.is("11 an open one counts", 60, x.clear());
        Due.is("11 none is left", 0, x.clear());
        Due.is("10 none is open", BAD, x.close());
        Due.is("25 no type is left", BAD, x.type(0, 0));
        Due.is("16 no type is left", BAD, x.pack(0));
        Due.is("17 no type is left", BAD, x.unpack(0));
        Due.is("2 from 0 on", 0, x.simple(1));
        Due.is("7 of one that is gone", BAD, x.list(1, 0, 1));
        nothingOfTheOld();
    }

    /** Of an open one that is gone the next one has no parts, no MARKER, and no WEIGHT. */
    private static void nothingOfTheOld() {
        PackedCodec x = heavy();
        x.open(0, true);
        x.part(3, OPTIONAL);
        x.part(0, ADDITION);
        x.clear();
        for (int i = 0; i < 4; i++) {
            x.simple(0);
        }
        x.open(0, false);
        for (int i = 0; i < 20; i++) {
            Due.is("11 part " + i + " of the new one", i, x.part(0, ROOT));
        }
        x.close();
        Due.is("11 DEPTH of the new one", 2, x.type(4, 1));
        Due.is("11 ADDITIONS of the new one", 0, x.type(4, 3));
        Due.is("11 MARKER of the new one", 0, x.type(4, 4));
        for (int i = 0; i < 20; i++) {
            x.put(1);
        }
        Due.is("11 the new one has no OPTIONAL ones", 3, x.pack(4));
        Due.is("11 the new one has no OPTIONAL ones", 20, x.bits());
    }

    private static void typeNumber() {
        Due.is("25 no types", BAD, new PackedCodec().type(0, 0));
        PackedCodec x = told(60);
        Due.is("25 type least", BAD, x.type(LEAST, 0));
        Due.is("25 type -1", BAD, x.type(-1, 0));
        Due.is("25 type 0", 0, x.type(0, 0));
        Due.is("25 type 59", 0, x.type(59, 0));
        Due.is("25 type 60", BAD, x.type(60, 0));
        Due.is("25 type most", BAD, x.type(MOST, 0));
        PackedCodec busy = opened(0, false);
        for (int what = 0; what < 5; what++) {
            Due.is("25 it is open", BAD, busy.type(1, what));
        }
        busy.close();
        Due.is("25 it is told", 8, busy.type(1, 0));
    }

    private static void typeWhat() {
        PackedCodec x = opened(0, true);
        x.part(0, ROOT);
        x.part(0, ADDITION);
        x.part(0, ADDITION);
        x.close();
        Due.is("25 what least", BAD, x.type(1, LEAST));
        Due.is("25 what -1", BAD, x.type(1, -1));
        Due.is("25 what 0", 8, x.type(1, 0));
        Due.is("25 what 1", 2, x.type(1, 1));
        Due.is("25 what 2", 3, x.type(1, 2));
        Due.is("25 what 3", 2, x.type(1, 3));
        Due.is("25 what 4", 1, x.type(1, 4));
        Due.is("25 what 5", BAD, x.type(1, 5));
        Due.is("25 what most", BAD, x.type(1, MOST));
    }

    private static void typeOfEachKind() {
        for (int kind = 0; kind < 10; kind++) {
            PackedCodec x = told(1);
            int t = tellKind(x, kind);
            Due.is("25 kind", kind, x.type(t, 0));
            Due.is("25 DEPTH of kind " + kind, kind < 7 ? 1 : 2, x.type(t, 1));
            Due.is("25 parts of kind " + kind, kind < 8 ? 0 : 1, x.type(t, 2));
            Due.is("25 ADDITIONS of kind " + kind, 0, x.type(t, 3));
            boolean marker = kind == 2 || kind == 3 || kind > 7;
            Due.is("25 MARKER of kind " + kind, marker ? 1 : 0, x.type(t, 4));
        }
    }
}
