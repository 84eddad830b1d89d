/**
 * A ledger on a memory that forgets a word when it is read. Every cell is kept on four planes, and a
 * transfer goes by a slip that a mount can finish after a failure of power.
 *
 * Once power is off, a turn does nothing and a read gives 0. So a call that loses power simply runs to
 * its end without any further effect, and only its answer has to look at the power.
 */
public final class FadeLedger {
    public static final int NONE = -1;
    public static final int OFF = -2;
    public static final long UNOPENED = 1099511627776L;
    public static final long LOST = 2199023255552L;
    public static final long DARK = 4398046511104L;
    public static final long NOWHERE = 8796093022208L;

    private static final int ACCOUNTS = 16;
    private static final int CELLS = 20;
    private static final int PLANES = 4;

    private static final int SLIP_AMOUNT = 16;
    private static final int SLIP_FROM_NUMBER = 17;
    private static final int SLIP_TO_NUMBER = 18;
    private static final int SLIP_ROUTE = 19;

    private static final int PENDING = 65536;
    private static final int FINISHED = 131072;

    private static final int MAX_NUMBER = 16777215;
    private static final int NO_FAILURE_TOLD = -1;

    private final long[] memory;
    private final int[] invalidPlanes;
    private boolean powered;
    private int turnsLeft;
    private int reads;
    private int writes;

    public FadeLedger() {
        memory = new long[PLANES * CELLS];
        invalidPlanes = new int[CELLS];
        powered = true;
        turnsLeft = NO_FAILURE_TOLD;
        long unopened = makeWord(0, 0);
        for (int i = 0; i < memory.length; i++) {
            memory[i] = unopened;
        }
    }

    public int open(int account, int balance) {
        if (!isAccount(account)) {
            return NONE;
        }
        long found = readTurn(0, account);
        boolean accepted = isUnopened(found);
        if (accepted) {
            put(account, makeWord(balance, 1));
        } else {
            writeTurn(0, account, found);
        }
        return answerOf(accepted);
    }

    public long balance(int account) {
        if (!isAccount(account)) {
            return NOWHERE;
        }
        long found = look(account);
        if (!powered) {
            return DARK;
        }
        if (!isValid(found)) {
            return LOST;
        }
        return isUnopened(found) ? UNOPENED : balanceOf(found);
    }

    public int post(int account, int amount) {
        if (!isAccount(account)) {
            return NONE;
        }
        long found = readTurn(0, account);
        long sum = (long) balanceOf(found) + amount;
        boolean accepted = isOpen(found) && hasNextNumber(found) && isInt(sum);
        if (accepted) {
            put(account, makeWord((int) sum, numberOf(found) + 1));
        } else {
            writeTurn(0, account, found);
        }
        return answerOf(accepted);
    }

    public int transfer(int from, int to, int amount) {
        if (!isAccount(from) || !isAccount(to) || from == to || amount < 0) {
            return NONE;
        }
        long source = look(from);
        long target = look(to);
        long slip = look(SLIP_AMOUNT);
        boolean accepted = canTake(source, -(long) amount) && canTake(target, amount)
                && isValid(slip) && hasNextNumber(slip);
        if (accepted) {
            long newSource = nextWord(source, -amount);
            long newTarget = nextWord(target, amount);
            int slipNumber = numberOf(slip) + 1;
            int route = from * 256 + to;
            put(SLIP_AMOUNT, makeWord(amount, slipNumber));
            put(SLIP_FROM_NUMBER, makeWord(numberOf(newSource), slipNumber));
            put(SLIP_TO_NUMBER, makeWord(numberOf(newTarget), slipNumber));
            put(SLIP_ROUTE, makeWord(route + PENDING, slipNumber));
            put(from, newSource);
            put(to, newTarget);
            put(SLIP_ROUTE, makeWord(route + FINISHED, slipNumber));
        }
        return answerOf(accepted);
    }

    public long total() {
        long sum = 0;
        for (int account = 0; account < ACCOUNTS; account++) {
            long found = look(account);
            if (isOpen(found)) {
                sum += balanceOf(found);
            }
        }
        return powered ? sum : DARK;
    }

    public int number(int account) {
        if (!isAccount(account)) {
            return NONE;
        }
        long found = look(account);
        if (!powered) {
            return OFF;
        }
        return isValid(found) ? numberOf(found) : NONE;
    }

    public boolean failAfter(int n) {
        if (n < 0) {
            return false;
        }
        turnsLeft = n;
        return true;
    }

    public boolean fail() {
        // With power off, a number that was told is kept for the next mount.
        if (!powered) {
            return false;
        }
        losePower();
        return true;
    }

    public int mount() {
        powered = true;
        for (int cell = 0; cell < CELLS; cell++) {
            restoreCell(cell);
        }
        if (powered && slipIsPending()) {
            finishTransfer();
        }
        return answerOf(true);
    }

    public boolean on() {
        return powered;
    }

    public int lost(int cell) {
        return isCell(cell) ? invalidPlanes[cell] : 0;
    }

    public long word(int plane, int cell) {
        if (plane < 0 || plane >= PLANES || !isCell(cell)) {
            return 0;
        }
        return memory[slot(plane, cell)];
    }

    public int done(int what) {
        if (what == 0) {
            return reads;
        }
        return what == 1 ? writes : NONE;
    }

    // Mounting

    private void restoreCell(int cell) {
        int invalid = 0;
        long best = 0;
        for (int plane = 0; plane < PLANES; plane++) {
            long found = readTurn(plane, cell);
            best = betterOf(best, found);
            if (!isValid(found)) {
                invalid++;
            }
            // The count stands from the fourth read on, even if power fails at the write behind it.
            if (plane == PLANES - 1 && powered) {
                invalidPlanes[cell] = invalid;
            }
            writeTurn(plane, cell, found);
        }
        if (isValid(best)) {
            writeWhereOther(cell, best);
        }
    }

    private void writeWhereOther(int cell, long best) {
        for (int plane = 0; plane < PLANES; plane++) {
            if (memory[slot(plane, cell)] != best) {
                writeTurn(plane, cell, best);
            }
        }
    }

    private boolean slipIsPending() {
        int slipNumber = numberOf(foundIn(SLIP_AMOUNT));
        for (int cell = SLIP_AMOUNT; cell <= SLIP_ROUTE; cell++) {
            long found = foundIn(cell);
            if (!isValid(found) || numberOf(found) != slipNumber) {
                return false;
            }
        }
        int route = balanceOf(foundIn(SLIP_ROUTE));
        return (route & PENDING) != 0 && isAccount(fromOf(route)) && isAccount(toOf(route));
    }

    private void finishTransfer() {
        long slip = foundIn(SLIP_ROUTE);
        int route = balanceOf(slip);
        int amount = balanceOf(foundIn(SLIP_AMOUNT));
        finishAccount(fromOf(route), -amount, balanceOf(foundIn(SLIP_FROM_NUMBER)));
        finishAccount(toOf(route), amount, balanceOf(foundIn(SLIP_TO_NUMBER)));
        put(SLIP_ROUTE, makeWord(route - PENDING + FINISHED, numberOf(slip)));
    }

    private void finishAccount(int account, int change, int newNumber) {
        long found = foundIn(account);
        if (isValid(found) && numberOf(found) < newNumber) {
            put(account, makeWord(balanceOf(found) + change, newNumber));
        }
    }

    /** What a mount found in a cell: behind its restoring, plane 0 has the best word if there is one. */
    private long foundIn(int cell) {
        return memory[slot(0, cell)];
    }

    private static int fromOf(int route) {
        return (route >> 8) & 255;
    }

    private static int toOf(int route) {
        return route & 255;
    }

    // Turns and power

    private long look(int cell) {
        long found = readTurn(0, cell);
        writeTurn(0, cell, found);
        return found;
    }

    private void put(int cell, long value) {
        for (int plane = 0; plane < PLANES; plane++) {
            writeTurn(plane, cell, value);
        }
    }

    private long readTurn(int plane, int cell) {
        if (!takeTurn()) {
            return 0;
        }
        reads++;
        int slot = slot(plane, cell);
        long found = memory[slot];
        memory[slot] = 0;
        return found;
    }

    private void writeTurn(int plane, int cell, long value) {
        if (takeTurn()) {
            writes++;
            memory[slot(plane, cell)] = value;
        }
    }

    private boolean takeTurn() {
        if (!powered) {
            return false;
        }
        if (turnsLeft == 0) {
            losePower();
            return false;
        }
        if (turnsLeft > 0) {
            turnsLeft--;
        }
        return true;
    }

    private void losePower() {
        powered = false;
        turnsLeft = NO_FAILURE_TOLD;
    }

    private int answerOf(boolean accepted) {
        if (!powered) {
            return OFF;
        }
        return accepted ? 1 : NONE;
    }

    private static int slot(int plane, int cell) {
        return plane * CELLS + cell;
    }

    private static boolean isAccount(int account) {
        return account >= 0 && account < ACCOUNTS;
    }

    private static boolean isCell(int cell) {
        return cell >= 0 && cell < CELLS;
    }

    // Words

    private static long makeWord(int balance, int number) {
        long upper = ((long) balance << 32) | ((long) number << 8);
        return upper | checkByte(upper);
    }

    private static int checkByte(long value) {
        int sum = 0;
        for (int shift = 8; shift < 64; shift += 8) {
            sum += (int) (value >>> shift) & 255;
        }
        return sum % 251 + 1;
    }

    private static boolean isValid(long value) {
        return (int) (value & 255) == checkByte(value);
    }

    private static int balanceOf(long value) {
        return (int) (value >> 32);
    }

    private static int numberOf(long value) {
        return (int) (value >>> 8) & MAX_NUMBER;
    }

    private static boolean isUnopened(long value) {
        return isValid(value) && numberOf(value) == 0;
    }

    private static boolean isOpen(long value) {
        return isValid(value) && numberOf(value) != 0;
    }

    private static boolean hasNextNumber(long value) {
        return numberOf(value) < MAX_NUMBER;
    }

    private static boolean isInt(long value) {
        return value == (int) value;
    }

    private static boolean canTake(long value, long change) {
        long sum = balanceOf(value) + change;
        return isOpen(value) && hasNextNumber(value) && isInt(sum) && sum >= 0;
    }

    private static long nextWord(long value, int change) {
        return makeWord(balanceOf(value) + change, numberOf(value) + 1);
    }

    /** The best so far, which is none while it is not valid, or a word that is better. */
    private static long betterOf(long best, long value) {
        if (!isValid(value)) {
            return best;
        }
        if (!isValid(best)) {
            return value;
        }
        if (numberOf(value) != numberOf(best)) {
            return numberOf(value) > numberOf(best) ? value : best;
        }
        return balanceOf(value) > balanceOf(best) ? value : best;
    }
}
