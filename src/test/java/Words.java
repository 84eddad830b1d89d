import java.nio.ByteBuffer;

/** Words made and checked byte by byte, apart from the program's own arithmetic. */
final class Words {
    static final int MAX_NUMBER = 16777215;

    private Words() {
    }

    static long of(int balance, int number) {
        byte[] bytes = ByteBuffer.allocate(8).putInt(balance).putInt(number << 8).array();
        bytes[7] = (byte) check(bytes);
        return ByteBuffer.wrap(bytes).getLong();
    }

    static boolean valid(long word) {
        byte[] bytes = ByteBuffer.allocate(8).putLong(word).array();
        return (bytes[7] & 0xff) == check(bytes);
    }

    static int balance(long word) {
        return ByteBuffer.allocate(8).putLong(word).getInt(0);
    }

    static int number(long word) {
        return ByteBuffer.allocate(8).putLong(word).getInt(4) >>> 8;
    }

    private static int check(byte[] bytes) {
        int sum = 0;
        for (int i = 0; i < 7; i++) {
            sum += bytes[i] & 0xff;
        }
        return sum % 251 + 1;
    }
}
