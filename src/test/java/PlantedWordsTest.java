import java.util.function.LongSupplier;

/** The edges that no 512 calls reach (the highest number, odd slips, words of every kind): words are planted. */
public final class PlantedWordsTest {
    private static final int NONE = FadeLedger.NONE;
    private static final int TOP = Words.MAX_NUMBER;
    private static final int PENDING = 65536 + 2 * 256 + 5;
    private static final int FINISHED = 131072 + 2 * 256 + 5;

    private static final Due due = new Due();

    private PlantedWordsTest() {
    }

    public static void main(String[] args) {
        highestNumberToPost();
        highestNumberToTransfer();
        highestNumberOfTheSlip();
        highestNumberToFinish();
        wordsThatAreNotValid();
        unopenedWithABalance();
        bestOfFour();
        slipsThatAreFinished();
        slipsThatAreLeft();
        due.end();
    }

    private static void highestNumberToPost() {
        due.part("promise 4: its number is below 16777215");
        FadeLedger x = twoAccounts();
        Planter.plantAll(x, 2, Words.of(50, TOP - 1));
        due.is("post(2, -51)", x.post(2, -51), 1);
        same(x, 2, Words.of(-1, TOP));
        due.is("number(2)", x.number(2), TOP);
        due.is("balance(2)", x.balance(2), -1);
        leaves(x, 1, "post(2, 1)", () -> x.post(2, 1));
        leaves(x, 1, "post(2, 0)", () -> x.post(2, 0));
        leaves(x, 1, "open(2, 1)", () -> x.open(2, 1));
    }

    private static void highestNumberToTransfer() {
        due.part("promise 5: or its number is 16777215");
        FadeLedger x = twoAccounts();
        Planter.plantAll(x, 2, Words.of(50, TOP));
        leaves(x, 3, "transfer(2, 5, 1)", () -> x.transfer(2, 5, 1));
        leaves(x, 3, "transfer(5, 2, 1)", () -> x.transfer(5, 2, 1));
        Planter.plantAll(x, 2, Words.of(50, TOP - 1));
        due.is("transfer(2, 5, 50)", x.transfer(2, 5, 50), 1);
        same(x, 2, Words.of(0, TOP));
        same(x, 17, Words.of(TOP, 1));
        same(x, 18, Words.of(2, 1));
        FadeLedger y = twoAccounts();
        Planter.plantAll(y, 5, Words.of(50, TOP - 1));
        due.is("transfer(2, 5, 100)", y.transfer(2, 5, 100), 1);
        same(y, 5, Words.of(150, TOP));
        same(y, 17, Words.of(2, 1));
        same(y, 18, Words.of(TOP, 1));
    }

    private static void highestNumberOfTheSlip() {
        due.part("promise 5: cell 16 .. its number is 16777215");
        FadeLedger x = twoAccounts();
        Planter.plantAll(x, 16, Words.of(0, TOP - 1));
        due.is("transfer(2, 5, 1)", x.transfer(2, 5, 1), 1);
        same(x, 16, Words.of(1, TOP));
        same(x, 17, Words.of(2, TOP));
        same(x, 18, Words.of(2, TOP));
        same(x, 19, Words.of(FINISHED, TOP));
        leaves(x, 3, "transfer(2, 5, 1)", () -> x.transfer(2, 5, 1));
        same(x, 2, Words.of(99, 2));
        due.is("mount()", x.mount(), 1);
        leaves(x, 3, "transfer(2, 5, 0)", () -> x.transfer(2, 5, 0));
    }

    private static void highestNumberToFinish() {
        due.part("promise 10: a slip with the highest numbers");
        FadeLedger x = twoAccounts();
        Planter.plantAll(x, 2, Words.of(50, TOP - 1));
        Planter.plantAll(x, 5, Words.of(60, TOP));
        Planter.plantAll(x, 16, Words.of(50, TOP));
        Planter.plantAll(x, 17, Words.of(TOP, TOP));
        Planter.plantAll(x, 18, Words.of(TOP, TOP));
        Planter.plantAll(x, 19, Words.of(PENDING, TOP));
        due.is("mount()", x.mount(), 1);
        same(x, 2, Words.of(0, TOP));
        same(x, 5, Words.of(60, TOP));
        same(x, 19, Words.of(FINISHED, TOP));
    }

    /** A call that is refused with so many looks and leaves the words as they are. */
    private static void leaves(FadeLedger x, int looks, String call, LongSupplier run) {
        long[] before = planeZero(x);
        int reads = x.done(0);
        int writes = x.done(1);
        due.answers(call, run, NONE);
        due.is(call + ": done(0)", x.done(0), reads + looks);
        due.is(call + ": done(1)", x.done(1), writes + looks);
        for (int cell = 0; cell < 20; cell++) {
            due.is(call + ": word(0, " + cell + ")", x.word(0, cell), before[cell]);
        }
    }

    private static void wordsThatAreNotValid() {
        due.part("words that are not valid");
        long good = Words.of(77, 3);
        for (int bit = 0; bit < 8; bit++) {
            FadeLedger x = new FadeLedger();
            long bad = good ^ (1L << bit);
            Planter.plant(x, 0, 4, bad);
            due.is("balance(4)", x.balance(4), FadeLedger.LOST);
            due.is("number(4)", x.number(4), NONE);
            due.is("open(4, 1)", x.open(4, 1), NONE);
            due.is("post(4, 1)", x.post(4, 1), NONE);
            due.is("total()", x.total(), 0);
            due.is("word(0, 4) is written back", x.word(0, 4), bad);
            due.is("word(1, 4)", x.word(1, 4), Words.of(0, 0));
            Planter.plantAll(x, 4, bad);
            due.is("mount()", x.mount(), 1);
            same(x, 4, bad);
            due.is("lost(4)", x.lost(4), 4);
        }
    }

    private static void unopenedWithABalance() {
        due.part("unopened, with a balance");
        FadeLedger x = twoAccounts();
        Planter.plantAll(x, 4, Words.of(9, 0));
        due.is("total()", x.total(), 110);
        due.is("balance(4)", x.balance(4), FadeLedger.UNOPENED);
        due.is("post(4, 1)", x.post(4, 1), NONE);
        due.is("transfer(4, 5, 1)", x.transfer(4, 5, 1), NONE);
        due.is("open(4, 3)", x.open(4, 3), 1);
        due.is("total()", x.total(), 113);
    }

    private static void bestOfFour() {
        due.part("the best of four");
        long[] words = {0, Words.of(5, 3) ^ 1, Words.of(-9, 7), Words.of(4, 7), Words.of(900, 6),
            Words.of(Integer.MIN_VALUE, 7), Words.of(1, TOP), Words.of(0, 0)};
        for (int choice = 0; choice < 4096; choice++) {
            FadeLedger x = new FadeLedger();
            long best = 0;
            int invalid = 0;
            for (int plane = 0; plane < 4; plane++) {
                long word = words[choice >> (3 * plane) & 7];
                Planter.plant(x, plane, 9, word);
                best = better(best, word);
                invalid += Words.valid(word) ? 0 : 1;
            }
            int repairs = 0;
            for (int plane = 0; plane < 4; plane++) {
                repairs += best != 0 && x.word(plane, 9) != best ? 1 : 0;
            }
            due.is("mount()", x.mount(), 1);
            due.is("done(1)", x.done(1), 80 + repairs);
            due.is("lost(9)", x.lost(9), invalid);
            for (int plane = 0; plane < 4; plane++) {
                due.is("word", x.word(plane, 9), best != 0 ? best : words[choice >> (3 * plane) & 7]);
            }
        }
    }

    private static long better(long best, long word) {
        if (!Words.valid(word)) {
            return best;
        }
        boolean higher = Words.number(word) > Words.number(best)
                || Words.number(word) == Words.number(best) && Words.balance(word) > Words.balance(best);
        return best == 0 || higher ? word : best;
    }

    private static void slipsThatAreFinished() {
        due.part("slips that are finished");
        for (int done = 0; done < 4; done++) {
            FadeLedger x = twoAccounts();
            plantSlip(x, 30, 8, 9, PENDING);
            long first = Words.of(100, done % 2 == 0 ? 7 : 8);
            long second = Words.of(10, done / 2 == 0 ? 1 : 9);
            Planter.plantAll(x, 2, first);
            Planter.plantAll(x, 5, second);
            due.is("mount()", x.mount(), 1);
            same(x, 2, done % 2 == 0 ? Words.of(70, 8) : first);
            same(x, 5, done / 2 == 0 ? Words.of(40, 9) : second);
            same(x, 19, Words.of(FINISHED, 4));
        }
        for (int lost = 0; lost < 4; lost++) {
            FadeLedger x = twoAccounts();
            plantSlip(x, 30, 8, 9, PENDING);
            long first = lost % 2 == 0 ? Words.of(100, 7) : 0;
            long second = lost / 2 == 0 ? Words.of(10, 1) : Words.of(10, 1) ^ 2;
            Planter.plantAll(x, 2, first);
            Planter.plantAll(x, 5, second);
            due.is("mount()", x.mount(), 1);
            same(x, 2, lost % 2 == 0 ? Words.of(70, 8) : 0);
            same(x, 5, lost / 2 == 0 ? Words.of(40, 9) : second);
            same(x, 19, Words.of(FINISHED, 4));
        }
        FadeLedger y = twoAccounts();
        plantSlip(y, 30, 8, 9, PENDING);
        for (int cell = 16; cell < 20; cell++) {
            Planter.plant(y, cell - 16, cell, 0);
        }
        due.is("mount() by the slip's best words", y.mount(), 1);
        same(y, 2, Words.of(70, 8));
        same(y, 5, Words.of(40, 9));
    }

    private static void slipsThatAreLeft() {
        due.part("slips that are left");
        int[] routes = {FINISHED, 0, 2 * 256 + 5, 65536 + 16 * 256 + 5, 65536 + 2 * 256 + 16, 65536 + 128 * 256 + 5,
            65536 + 2 * 256 + 128, 65536 + 255 * 256 + 255};
        for (int route : routes) {
            FadeLedger x = twoAccounts();
            plantSlip(x, 30, 8, 9, route);
            leftAsItIs(x);
        }
        for (int cell = 16; cell < 20; cell++) {
            FadeLedger x = twoAccounts();
            plantSlip(x, 30, 8, 9, PENDING);
            Planter.plantAll(x, cell, Words.of(Words.balance(x.word(0, cell)), 3));
            leftAsItIs(x);
            plantSlip(x, 30, 8, 9, PENDING);
            Planter.plantAll(x, cell, Words.of(Words.balance(x.word(0, cell)), 5));
            leftAsItIs(x);
            plantSlip(x, 30, 8, 9, PENDING);
            Planter.plantAll(x, cell, x.word(0, cell) ^ 1);
            leftAsItIs(x);
        }
    }

    private static void leftAsItIs(FadeLedger x) {
        long[] before = planeZero(x);
        int writes = x.done(1);
        due.is("mount()", x.mount(), 1);
        due.is("done(1)", x.done(1), writes + 80);
        for (int cell = 0; cell < 20; cell++) {
            same(x, cell, before[cell]);
        }
    }

    private static long[] planeZero(FadeLedger x) {
        long[] words = new long[20];
        for (int cell = 0; cell < 20; cell++) {
            words[cell] = x.word(0, cell);
        }
        return words;
    }

    private static FadeLedger twoAccounts() {
        FadeLedger x = new FadeLedger();
        x.open(2, 100);
        x.open(5, 10);
        return x;
    }

    private static void plantSlip(FadeLedger x, int amount, int fromNumber, int toNumber, int route) {
        Planter.plantAll(x, 16, Words.of(amount, 4));
        Planter.plantAll(x, 17, Words.of(fromNumber, 4));
        Planter.plantAll(x, 18, Words.of(toNumber, 4));
        Planter.plantAll(x, 19, Words.of(route, 4));
    }

    private static void same(FadeLedger x, int cell, long want) {
        for (int plane = 0; plane < 4; plane++) {
            due.is("word(" + plane + ", " + cell + ")", x.word(plane, cell), want);
        }
    }
}
