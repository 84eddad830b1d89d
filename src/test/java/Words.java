import java.lang.reflect.Field;
import java.nio.ByteBuffer;

/** Words made and checked byte by byte, apart from the program's own arithmetic. */
final class Words {
    static final int MAX_NUMBER = 16777215;

    private Words() {
    }

    static long of(int balance, int number) {
        byte[] bytes = ByteBuffer.allocate(8).putInt(balance).putInt(number << 8).array();
        bytes[7] = (byte) check(bytes);
        return ByteBuffer.wrap(bytes).getLong();
    }

    static boolean valid(long word) {
        byte[] bytes = ByteBuffer.allocate(8).putLong(word).array();
        return (bytes[7] & 0xff) == check(bytes);
    }

    static int balance(long word) {
        return ByteBuffer.allocate(8).putLong(word).getInt(0);
    }

    static int number(long word) {
        return ByteBuffer.allocate(8).putLong(word).getInt(4) >>> 8;
    }

    private static int check(byte[] bytes) {
        int sum = 0;
        for (int i = 0; i < 7; i++) {
            sum += bytes[i] & 0xff;
        }
        return sum % 251 + 1;
    }

    /** How the class holds its words is free: they can be planted if it has them plane behind plane in one array. */
    static boolean canBePlanted() {
        return memoryOf(new FadeLedger()) != null;
    }

    /** Puts a word where no 512 calls could bring it. */
    static void plant(FadeLedger ledger, int plane, int cell, long word) {
        memoryOf(ledger)[plane * 20 + cell] = word;
        if (ledger.word(plane, cell) != word) {
            throw new IllegalStateException("the word was planted elsewhere");
        }
    }

    private static long[] memoryOf(FadeLedger ledger) {
        try {
            Field memory = FadeLedger.class.getDeclaredField("memory");
            memory.setAccessible(true);
            return memory.get(ledger) instanceof long[] words && words.length == 80 ? words : null;
        } catch (ReflectiveOperationException e) {
            return null;
        }
    }

    static void plantAll(FadeLedger ledger, int cell, long word) {
        for (int plane = 0; plane < 4; plane++) {
            plant(ledger, plane, cell, word);
        }
    }
}
