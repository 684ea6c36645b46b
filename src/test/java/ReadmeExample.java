/** The example of README.md, word for word; ReadmeTest sees that it stands there and does what is said of it. */
public final class ReadmeExample {
    private ReadmeExample() {
    }

    public static void main(String[] args) {
        KeyMaker maker = new KeyMaker();

        // The password "password": its bytes one by one, or four at once, the highest first.
        for (char c : "pass".toCharArray()) {
            maker.password(c);
        }
        maker.four('w' << 24 | 'o' << 16 | 'r' << 8 | 'd');

        // The salt "salt".
        for (char c : "salt".toCharArray()) {
            maker.salt(c);
        }

        // A key of 40 bytes: two parts (32 bytes, then 8), each of 1000 turns.
        int turns = maker.start(1000, 40);
        System.out.println("turns in all: " + turns);

        // The turns: one, then as many as are wanted at a time.
        System.out.println("left after one: " + maker.step());
        System.out.println("made by run(999): " + maker.run(999));

        // The first part is there; the second has all its turns left.
        System.out.println("key(31): " + maker.key(31) + ", key(32): " + maker.key(32));
        while (maker.left() > 0) {
            maker.run(300);
        }

        // The bytes of the key.
        for (int i = 0; i < maker.many(2); i++) {
            System.out.printf("%02x", maker.key(i));
        }
        System.out.println();

        // As new, for the next key.
        maker.reset();
    }
}
