import java.util.Arrays;
import java.util.HexFormat;

/** The boundary cases of the terms that stand above the promises. */
public final class BoundaryTermsTest {
    private static final Check CHECK = new Check();

    private BoundaryTermsTest() {
    }

    public static void main(String[] args) {
        wordsWrapAround();
        bytesBehindTheRow();
        bytesBehindTheRowAreNotOfIt();
        lengthInBits();
        bytesBehindTheRowOfAMark();
        knownMarks();
        keyOfMoreThan64IsItsSum();
        zerosMakeTheKey64();
        partsOneBehindTheOther();
        numberOfPartBehindTheSalt();
        asManyBytesAsWanted();
        CHECK.end();
    }

    private static void wordsWrapAround() {
        CHECK.about("WORDS \"are added modulo 2^32\"");
        PlainSum plain = new PlainSum();
        byte[][] rows = {Rows.EMPTY, Rows.same(1, 255), Rows.same(64, 0), Rows.same(64, 255), Rows.same(150, 0),
            Rows.same(150, 128), Rows.same(150, 127), Rows.same(150, 255), Rows.row(150, 1)};
        for (byte[] row : rows) {
            dueSum(row, plain.of(row));
        }
        CHECK.due("some additions come to 2^32 or more", plain.wrapped > 0, true);
        CHECK.due("some additions stay below 2^32", plain.notWrapped > 0, true);
        dueSum(Rows.EMPTY, hex("e3b0c44298fc1c149afbf4c8996fb92427ae41e4649b934ca495991b7852b855"));
        dueSum(Rows.text("abc"), hex("ba7816bf8f01cfea414140de5dae2223b00361a396177a9cb410ff61f20015ad"));
    }

    private static void bytesBehindTheRow() {
        CHECK.about("THE SUM: \"as few bytes 0 .. as make the whole a multiple of 64\"");
        // 55 and 119 need no byte 0; one byte more needs 63 of them and a block more.
        int[] lengths = {0, 1, 54, 55, 56, 57, 63, 64, 65, 118, 119, 120, 121, 127, 128, 129, 149, 150};
        PlainSum plain = new PlainSum();
        for (int length : lengths) {
            byte[] row = Rows.row(length, length + 50);
            byte[] sum = plain.of(row);
            CHECK.due("the two references for " + length, Arrays.equals(sum, Reference.sumOf(row)), true);
            dueSum(row, sum);
        }
        dueSum(Rows.text("abcdbcdecdefdefgefghfghighijhijkijkljklmklmnlmnomnopnopq"),
            hex("248d6a61d20638b8e5c026930c3e6039a33ce45964ff2167f6ecedd419db06c1"));
    }

    private static void bytesBehindTheRowAreNotOfIt() {
        CHECK.about("THE SUM: \"Behind the row come a byte 128, then as few bytes 0\"");
        byte[] row = Rows.row(20, 3);
        dueSum(row, Reference.sumOf(row));
        byte[] more = Rows.joined(row, (byte) 128);
        dueSum(more, Reference.sumOf(more));
        for (int length = 22; length <= 56; length++) {
            more = Rows.joined(more, (byte) 0);
            dueSum(more, Reference.sumOf(more));
        }
    }

    private static void lengthInBits() {
        CHECK.about("THE SUM: \"its length in bits in eight bytes, the highest first\"");
        // 31 bytes are 248 bits, one byte of length; 32 are 256, the first of two.
        int[] lengths = {30, 31, 32, 33, 95, 96, 127, 128, 150};
        for (int length : lengths) {
            dueSum(Rows.same(length, 0), Reference.sumOf(Rows.same(length, 0)));
        }
    }

    private static void bytesBehindTheRowOfAMark() {
        CHECK.about("THE SUM within THE MARK: \"as make the whole a multiple of 64\"");
        int[] lengths = {0, 1, 54, 55, 56, 57, 63, 64, 65, 79, 80};
        for (int length : lengths) {
            dueMark(Rows.row(33, 4), Rows.row(length, 5), Reference.markOf(Rows.row(33, 4), Rows.row(length, 5)));
        }
    }

    private static void knownMarks() {
        CHECK.about("THE MARK, as published");
        dueMark(Rows.same(20, 0x0b), Rows.text("Hi There"),
            hex("b0344c61d8db38535ca8afceaf0bf12b881dc200c9833da726e9376c2e32cff7"));
        dueMark(Rows.same(131, 0xaa), Rows.text("Test Using Larger Than Block-Size Key - Hash Key First"),
            hex("60e431591ee0b67f0d8a26aacbf5b77f8e0bc6213728c5140546040f0ee37f54"));
    }

    private static void keyOfMoreThan64IsItsSum() {
        CHECK.about("THE MARK: \"a key of more than 64 bytes is its sum instead\"");
        byte[] salt = Rows.row(12, 6);
        int[] lengths = {62, 63, 64, 65, 66, 127, 128, 129, 150};
        for (int length : lengths) {
            byte[] key = Rows.row(length, 7);
            dueMark(key, salt, Reference.markOf(key, salt));
            boolean sameAsItsSum = markOf(key, salt).equals(markOf(Reference.sumOf(key), salt));
            CHECK.due("a key of " + length + " is its sum", sameAsItsSum, length > 64);
        }
    }

    private static void zerosMakeTheKey64() {
        CHECK.about("THE MARK: \"bytes 0 behind it make it 64\"");
        byte[] salt = Rows.row(12, 8);
        for (int length = 0; length <= 63; length += 9) {
            byte[] key = Rows.row(length, 9);
            String mark = markOf(key, salt);
            for (int with = length + 1; with <= 66; with++) {
                boolean same = mark.equals(markOf(Arrays.copyOf(key, with), salt));
                CHECK.due(length + " bytes and bytes 0 up to " + with, same, with <= 64);
            }
            byte[] long65 = Rows.row(65, length);
            byte[] itsSum = Arrays.copyOf(Reference.sumOf(long65), 64);
            CHECK.due("bytes 0 behind a sum", markOf(long65, salt).equals(markOf(itsSum, salt)), true);
        }
    }

    private static void partsOneBehindTheOther() {
        CHECK.about("THE KEY: \"its parts one behind the other\"");
        byte[] password = Rows.row(40, 10);
        byte[] salt = Rows.row(20, 11);
        CountedMaker x = State.started(password, salt, 2, 100).after(8).make();
        for (int part = 1; part <= 4; part++) {
            byte[] first = Reference.markOf(password, Rows.joined(salt, (byte) 0, (byte) 0, (byte) 0, (byte) part));
            byte[] second = Reference.markOf(password, first);
            for (int n = 0; n < 32 && (part - 1) * 32 + n < 100; n++) {
                int i = (part - 1) * 32 + n;
                CHECK.due("key(" + i + ")", x.key(i), (first[n] ^ second[n]) & 255);
            }
        }
    }

    private static void numberOfPartBehindTheSalt() {
        CHECK.about("THE KEY: \"the salt and then j in four bytes\"");
        // With these four bytes the row comes to 55 | 56 and to 63 | 64, and to 84 at most.
        int[] lengths = {0, 1, 50, 51, 52, 53, 58, 59, 60, 61, 79, 80};
        for (int length : lengths) {
            State key = State.started(Rows.row(17, 12), Rows.row(length, 13), 1, 100);
            key.dueStill(CHECK, key.toString(), key.make());
        }
        // A salt that ends like the number of a part is not that number.
        byte[] salt = {0, 0, 0, 2};
        State key = State.started(Rows.row(17, 12), salt, 1, 100);
        key.dueStill(CHECK, key.toString(), key.make());
    }

    private static void asManyBytesAsWanted() {
        CHECK.about("THE KEY: \"as many bytes as are wanted\"");
        byte[] whole = Reference.keyOf(Rows.row(70, 14), Rows.row(9, 15), 2, 100);
        int[] counts = {1, 2, 31, 32, 33, 63, 64, 65, 95, 96, 97, 99, 100};
        for (int count : counts) {
            CountedMaker x = State.open(Rows.row(70, 14), Rows.row(9, 15)).make();
            int parts = (count + 31) / 32;
            CHECK.due("start(2, " + count + ")", x.start(2, count), 2 * parts);
            CHECK.due("run(8)", x.run(8), 2 * parts);
            for (int i = 0; i < 130; i++) {
                CHECK.due(count + " bytes: key(" + i + ")", x.key(i), i < count ? whole[i] & 255 : KeyMaker.NONE);
            }
        }
    }

    private static void dueSum(byte[] row, byte[] sum) {
        CountedMaker x = State.open(row, Rows.EMPTY).make();
        for (int i = 0; i < 32; i++) {
            CHECK.due(row.length + " bytes: sum(" + i + ")", x.sum(i), sum[i] & 255);
        }
    }

    private static void dueMark(byte[] key, byte[] row, byte[] mark) {
        CountedMaker x = State.open(key, row).make();
        for (int i = 0; i < 32; i++) {
            CHECK.due(row.length + " under " + key.length + " bytes: mark(" + i + ")", x.mark(i), mark[i] & 255);
        }
    }

    /** The mark that the class answers, as a text. */
    private static String markOf(byte[] key, byte[] row) {
        CountedMaker x = State.open(key, row).make();
        StringBuilder mark = new StringBuilder();
        for (int i = 0; i < 32; i++) {
            mark.append(x.mark(i)).append(' ');
        }
        return mark.toString();
    }

    private static byte[] hex(String text) {
        return HexFormat.of().parseHex(text);
    }
}
