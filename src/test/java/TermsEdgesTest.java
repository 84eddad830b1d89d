/** The edges that the document's opening and its Terms name, each sentence by a test of its own. */
public final class TermsEdgesTest {
    private static final int NONE = FadeLedger.NONE;
    private static final int OFF = FadeLedger.OFF;
    private static final int MAX = Integer.MAX_VALUE;
    private static final int MIN = Integer.MIN_VALUE;
    private static final long FRESH = 1;

    private static final LedgerDue due = new LedgerDue();

    private TermsEdgesTest() {
    }

    public static void main(String[] args) {
        threeFailuresLoseNothing();
        theFourthFailureMayLose();
        fiveHundredAndTwelveCalls();
        cellsAndAccounts();
        planes();
        sumsRoundTheModulus();
        balancesFromEndToEnd();
        numbersOverAByte();
        zeroIsNotValid();
        freshWords();
        readLeavesZero();
        nothingElseOfTheCall();
        offUntilAMount();
        puttingGoesByPlanes();
        lookingTouchesPlaneZeroAlone();
        bestByNumber();
        bestByBalance();
        noBest();
        refusedFirstOfAll();
        offAtItsFirstTurn();
        failingDuringTheCall();
        kindsOfAccount();
        due.end();
    }

    private static void threeFailuresLoseNothing() {
        due.part("up to three failures between two mounts lose nothing");
        for (int cell = 0; cell < 20; cell++) {
            Ledger x = twoAccounts();
            x.transfer(0, 15, 3);
            long word = x.word(0, cell);
            due.wearCell(x, cell, 3);
            due.is("mount()", x.mount(), 1);
            due.is("lost(" + cell + ")", x.lost(cell), 3);
            due.allPlanes(x, cell, word);
        }
    }

    private static void theFourthFailureMayLose() {
        due.part("a fourth failure on the last plane");
        for (int cell = 0; cell < 20; cell++) {
            Ledger x = twoAccounts();
            x.transfer(0, 15, 3);
            due.loseCell(x, cell);
            due.allPlanes(x, cell, 0);
        }
    }

    private static void fiveHundredAndTwelveCalls() {
        due.part("used for at most 512 calls");
        FadeLedger x = new FadeLedger();
        due.is("call 1: open(8, 0)", x.open(8, 0), 1);
        for (int call = 2; call < 512; call++) {
            due.is("call " + call + ": post(8, 1)", x.post(8, 1), 1);
        }
        due.is("call 512: number(8)", x.number(8), 511);

        FadeLedger y = new FadeLedger();
        y.open(0, 10);
        y.open(15, 20);
        for (int call = 3; call <= 507; call++) {
            due.is("call " + call + ": transfer", call % 2 == 1 ? y.transfer(0, 15, 10) : y.transfer(15, 0, 10), 1);
        }
        due.is("call 508: mount()", y.mount(), 1);
        due.is("call 509: word(3, 16)", y.word(3, 16), Words.of(10, 505));
        due.is("call 510: word(3, 0)", y.word(3, 0), Words.of(0, 506));
        due.is("call 511: done(1)", y.done(1), 4 + 4 + 505 * 31 + 80);
        due.is("call 512: balance(15)", y.balance(15), 30);
    }

    private static void cellsAndAccounts() {
        due.part("CELLS are 0 .. 19: ACCOUNTS 0 .. 15, the SLIP 16 .. 19");
        Ledger x = new Ledger();
        for (int account = 0; account < 16; account++) {
            due.is("open(" + account + ")", x.open(account, account), 1);
        }
        for (int cell = 16; cell < 20; cell++) {
            int slip = cell;
            due.leaves(x, 0, "open(" + cell + ")", () -> x.open(slip, 1), NONE);
            due.allPlanes(x, cell, FRESH);
        }
        due.is("word(0, 20)", x.word(0, 20), 0);
        due.is("word(0, -1)", x.word(0, -1), 0);
    }

    private static void planes() {
        due.part("four PLANES 0 .. 3");
        Ledger x = new Ledger();
        due.is("word(0, 19)", x.word(0, 19), FRESH);
        due.is("word(3, 19)", x.word(3, 19), FRESH);
        due.is("word(4, 19)", x.word(4, 19), 0);
        due.is("word(-1, 19)", x.word(-1, 19), 0);
    }

    private static void sumsRoundTheModulus() {
        due.part("the sum of its seven upper bytes (each 0 .. 255) modulo 251, plus 1");
        Ledger x = new Ledger();
        opened(x, 0, 249, 1069446857211L);
        opened(x, 1, 250, 1073741824257L);
        opened(x, 2, 251, 1078036791554L);
        opened(x, 3, 255, 1095216660742L);
        opened(x, 4, 256, 1099511628035L);
        opened(x, 5, -1, -4294967022L);
    }

    private static void balancesFromEndToEnd() {
        due.part("a BALANCE (an int) in bits 32 .. 63");
        Ledger x = new Ledger();
        opened(x, 0, MAX, 9223372032559808909L);
        opened(x, 1, MIN, -9223372036854775422L);
        opened(x, 2, 0, 258);
        due.is("balance(0)", x.balance(0), 2147483647L);
        due.is("balance(1)", x.balance(1), -2147483648L);
        due.is("balance(2)", x.balance(2), 0);
    }

    private static void opened(Ledger x, int account, int balance, long word) {
        due.is("open(" + account + ", " + balance + ")", x.open(account, balance), 1);
        due.allPlanes(x, account, word);
    }

    private static void numbersOverAByte() {
        due.part("a NUMBER in bits 8 .. 31");
        Ledger x = new Ledger();
        x.open(0, 0);
        for (int number = 2; number <= 255; number++) {
            x.post(0, 0);
        }
        due.allPlanes(x, 0, 255 * 256 + 5);
        x.post(0, 0);
        due.allPlanes(x, 0, 65538);
        due.is("number(0)", x.number(0), 256);
    }

    private static void zeroIsNotValid() {
        due.part("A word is VALID if its lowest byte is that; 0 is not");
        Ledger x = new Ledger();
        due.loseCell(x, 5);
        due.allPlanes(x, 5, 0);
        due.is("lost(5)", x.lost(5), 4);
        due.is("balance(5)", x.balance(5), FadeLedger.LOST);
    }

    private static void freshWords() {
        due.part("At first each plane has in each cell the word with balance 0, number 0");
        Ledger x = new Ledger();
        for (int cell = 0; cell < 20; cell++) {
            due.allPlanes(x, cell, FRESH);
        }
    }

    private static void readLeavesZero() {
        due.part("A READ of a plane's cell gives its word and leaves 0 there");
        Ledger x = twoAccounts();
        x.failAfter(1);
        due.is("balance(15)", x.balance(15), FadeLedger.DARK);
        due.is("word(0, 15)", x.word(0, 15), 0);
        due.is("word(1, 15)", x.word(1, 15), Words.of(20, 1));
    }

    private static void nothingElseOfTheCall() {
        due.part("then the next one is not done, nor anything else of the call");
        Ledger x = twoAccounts();
        long[][] words = LedgerDue.wordsOf(x);
        x.failAfter(2);
        due.is("transfer(0, 15, 1)", x.transfer(0, 15, 1), OFF);
        due.turns(x, 3, 9);
        due.sameWords("transfer", x, words);
    }

    private static void offUntilAMount() {
        due.part("power is OFF until a mount");
        Ledger x = twoAccounts();
        x.failAfter(0);
        due.is("number(0)", x.number(0), OFF);
        due.leaves(x, 0, "number(0)", () -> x.number(0), OFF);
        due.leaves(x, 0, "open(1, 1)", () -> x.open(1, 1), OFF);
        due.leaves(x, 0, "post(0, 1)", () -> x.post(0, 1), OFF);
        due.leaves(x, 0, "transfer(0, 15, 1)", () -> x.transfer(0, 15, 1), OFF);
        due.leaves(x, 0, "balance(0)", () -> x.balance(0), FadeLedger.DARK);
        due.leaves(x, 0, "total()", x::total, FadeLedger.DARK);
        due.is("on()", x.on(), false);
        due.is("mount()", x.mount(), 1);
        due.is("on()", x.on(), true);
        due.is("number(0)", x.number(0), 1);
    }

    private static void puttingGoesByPlanes() {
        due.part("PUTTING a word to a cell is four writes: planes 0, 1, 2, 3");
        for (int written = 0; written <= 4; written++) {
            Ledger x = twoAccounts();
            x.failAfter(1 + written);
            due.is("post(15, 1)", x.post(15, 1), written == 4 ? 1 : OFF);
            for (int plane = 0; plane < 4; plane++) {
                long old = plane == 0 ? 0 : Words.of(20, 1);
                due.is("word(" + plane + ", 15)", x.word(plane, 15), plane < written ? Words.of(21, 2) : old);
            }
        }
    }

    private static void lookingTouchesPlaneZeroAlone() {
        due.part("LOOKING at a cell is a read of plane 0 and a write of what it gave to plane 0");
        Ledger x = twoAccounts();
        due.leaves(x, 1, "balance(0)", () -> x.balance(0), 10);
        due.leaves(x, 1, "balance(1)", () -> x.balance(1), FadeLedger.UNOPENED);
        due.loseCell(x, 1);
        due.leaves(x, 1, "balance(1)", () -> x.balance(1), FadeLedger.LOST);
    }

    private static void bestByNumber() {
        due.part("of the valid ones, that with the highest number");
        Ledger x = twoAccounts();
        x.failAfter(2);
        due.is("post(15, -19), on plane 0 alone", x.post(15, -19), OFF);
        due.is("mount()", x.mount(), 1);
        due.allPlanes(x, 15, Words.of(1, 2));
    }

    private static void bestByBalance() {
        due.part("of these the one with the highest balance");
        Ledger x = twoAccounts();
        x.failAfter(31);
        due.is("transfer(15, 0, 4), 19 finished on plane 0 alone", x.transfer(15, 0, 4), OFF);
        due.is("word(0, 19)", x.word(0, 19), Words.of(131072 + 15 * 256, 1));
        due.is("word(1, 19)", x.word(1, 19), Words.of(65536 + 15 * 256, 1));
        int writes = x.done(1);
        due.is("mount()", x.mount(), 1);
        due.is("done(1): three repairs, no slip to finish", x.done(1), writes + 80 + 3);
        due.allPlanes(x, 19, Words.of(131072 + 15 * 256, 1));
    }

    private static void noBest() {
        due.part("there is none if none is valid");
        Ledger x = twoAccounts();
        due.loseCell(x, 0);
        int writes = x.done(1);
        due.is("mount()", x.mount(), 1);
        due.is("done(1)", x.done(1), writes + 80);
        due.allPlanes(x, 0, 0);
    }

    private static void refusedFirstOfAll() {
        due.part("where that is none (there is no such account, ..) it is refused first of all");
        for (int power = 0; power < 3; power++) {
            Ledger x = twoAccounts();
            if (power == 1) {
                x.failAfter(0);
            } else if (power == 2) {
                x.fail();
            }
            due.leaves(x, 0, "open(16, 1)", () -> x.open(16, 1), NONE);
            due.leaves(x, 0, "balance(16)", () -> x.balance(16), FadeLedger.NOWHERE);
            due.leaves(x, 0, "post(-1, 1)", () -> x.post(-1, 1), NONE);
            due.leaves(x, 0, "number(16)", () -> x.number(16), NONE);
            due.leaves(x, 0, "transfer(16, 0, 1)", () -> x.transfer(16, 0, 1), NONE);
            due.leaves(x, 0, "transfer(0, -1, 1)", () -> x.transfer(0, -1, 1), NONE);
            due.leaves(x, 0, "transfer(0, 0, 1)", () -> x.transfer(0, 0, 1), NONE);
            due.leaves(x, 0, "transfer(0, 15, -1)", () -> x.transfer(0, 15, -1), NONE);
        }
    }

    private static void offAtItsFirstTurn() {
        due.part("A call that finds power off at its first turn .. answers OFF");
        Ledger x = twoAccounts();
        x.fail();
        due.leaves(x, 0, "open(0, 1), which would be refused", () -> x.open(0, 1), OFF);
        due.leaves(x, 0, "post(1, 1), which would be refused", () -> x.post(1, 1), OFF);
        due.leaves(x, 0, "transfer(0, 1, 1), which would be refused", () -> x.transfer(0, 1, 1), OFF);
        due.leaves(x, 0, "number(1)", () -> x.number(1), OFF);
        due.leaves(x, 0, "balance(1)", () -> x.balance(1), FadeLedger.DARK);
    }

    private static void failingDuringTheCall() {
        due.part("or during which it fails, answers OFF");
        Ledger x = twoAccounts();
        x.failAfter(1);
        due.is("open(0, 1), failing at the write behind its refusal", x.open(0, 1), OFF);
        due.is("word(0, 0)", x.word(0, 0), 0);
        x.mount();
        x.failAfter(1);
        due.is("post(1, 1), failing at the write behind its refusal", x.post(1, 1), OFF);
        due.is("word(0, 1)", x.word(0, 1), 0);
        x.mount();
        x.failAfter(5);
        due.is("transfer(1, 0, 1), failing at its last look", x.transfer(1, 0, 1), OFF);
        due.is("word(0, 16)", x.word(0, 16), 0);
        due.is("mount()", x.mount(), 1);
        due.is("lost(16)", x.lost(16), 1);
    }

    private static void kindsOfAccount() {
        due.part("AN ACCOUNT is LOST if its word is not valid, UNOPENED with number 0, OPEN else");
        Ledger x = twoAccounts();
        due.loseCell(x, 3);
        due.is("balance(3), lost", x.balance(3), FadeLedger.LOST);
        due.is("balance(4), unopened", x.balance(4), FadeLedger.UNOPENED);
        due.is("open(4, 0)", x.open(4, 0), 1);
        due.is("balance(4), open with number 1 and balance 0", x.balance(4), 0);
    }

    private static Ledger twoAccounts() {
        Ledger x = new Ledger();
        x.open(0, 10);
        x.open(15, 20);
        return x;
    }
}
