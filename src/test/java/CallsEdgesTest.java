/** The edges that promises 1 to 7 name, each sentence by a test of its own. */
public final class CallsEdgesTest {
    private static final int NONE = FadeLedger.NONE;
    private static final int MAX = Integer.MAX_VALUE;
    private static final int MIN = Integer.MIN_VALUE;
    private static final int[] NO_ACCOUNTS = {-1, 16, 17, 18, 19, 20, 255, 256, 65536, -16, MAX, MIN};

    private static final LedgerDue due = new LedgerDue();

    private CallsEdgesTest() {
    }

    public static void main(String[] args) {
        powerIsOn();
        openUnopened();
        openElse();
        openNoSuchAccount();
        balanceKinds();
        balanceNoSuchAccount();
        postNotOpen();
        postTooLarge();
        postTooSmall();
        postNoSuchAccount();
        transferOrderOfLooks();
        transferNotOpen();
        transferFirstBelowZero();
        transferFirstNoInt();
        transferSecondBelowZero();
        transferSecondNoInt();
        transferSlipLost();
        transferNumberBehind();
        transferSlipWords();
        transferNoSuchAccount();
        transferSameAccount();
        transferAmountBelowZero();
        totalOfNone();
        totalOfAll();
        totalOfOpenOnes();
        numberKinds();
        numberNoSuchAccount();
        due.end();
    }

    private static void powerIsOn() {
        due.part("promise 1: Power is on");
        Ledger x = new Ledger();
        due.is("on()", x.on(), true);
        due.is("mount(), with no number told", x.mount(), 1);
        due.is("total()", x.total(), 0);
    }

    private static void openUnopened() {
        due.part("promise 2: If it is unopened, the word with the balance and number 1 is put");
        for (int balance : new int[] {0, 1, -1, MAX, MIN}) {
            Ledger x = new Ledger();
            due.is("open(0, " + balance + ")", x.open(0, balance), 1);
            due.allPlanes(x, 0, Words.of(balance, 1));
            due.turns(x, 1, 4);
            due.is("balance(0)", x.balance(0), balance);
        }
    }

    private static void openElse() {
        due.part("promise 2: Else what was read is written to plane 0: NONE");
        Ledger x = new Ledger();
        x.open(7, 0);
        due.leaves(x, 1, "open(7, 0), as it is", () -> x.open(7, 0), NONE);
        due.leaves(x, 1, "open(7, 5)", () -> x.open(7, 5), NONE);
        x.post(7, 1);
        due.leaves(x, 1, "open(7, 1), behind a post", () -> x.open(7, 1), NONE);
        due.loseCell(x, 8);
        due.leaves(x, 1, "open(8, 1), a lost one", () -> x.open(8, 1), NONE);
    }

    private static void openNoSuchAccount() {
        due.part("promise 2: NONE without a turn if there is no such account");
        Ledger x = new Ledger();
        for (int account : NO_ACCOUNTS) {
            due.leaves(x, 0, "open(" + account + ", 1)", () -> x.open(account, 1), NONE);
        }
    }

    private static void balanceKinds() {
        due.part("promise 3: its balance, or UNOPENED, or LOST");
        Ledger x = new Ledger();
        x.open(0, MIN);
        x.open(15, MAX);
        x.open(1, 0);
        due.loseCell(x, 2);
        due.leaves(x, 1, "balance(0)", () -> x.balance(0), MIN);
        due.leaves(x, 1, "balance(15)", () -> x.balance(15), MAX);
        due.leaves(x, 1, "balance(1)", () -> x.balance(1), 0);
        due.leaves(x, 1, "balance(2)", () -> x.balance(2), FadeLedger.LOST);
        due.leaves(x, 1, "balance(3)", () -> x.balance(3), FadeLedger.UNOPENED);
    }

    private static void balanceNoSuchAccount() {
        due.part("promise 3: NOWHERE, without a turn, if there is none such");
        Ledger x = new Ledger();
        for (int account : NO_ACCOUNTS) {
            due.leaves(x, 0, "balance(" + account + ")", () -> x.balance(account), FadeLedger.NOWHERE);
        }
    }

    private static void postNotOpen() {
        due.part("promise 4: If it is open");
        Ledger x = new Ledger();
        due.leaves(x, 1, "post(0, 0), unopened", () -> x.post(0, 0), NONE);
        due.leaves(x, 1, "post(0, 5), unopened", () -> x.post(0, 5), NONE);
        due.loseCell(x, 1);
        due.leaves(x, 1, "post(1, 0), lost", () -> x.post(1, 0), NONE);
        x.open(0, 0);
        due.is("post(0, 0), open", x.post(0, 0), 1);
        due.allPlanes(x, 0, Words.of(0, 2));
    }

    private static void postTooLarge() {
        due.part("promise 4: balance and amount together are an int, at its upper end");
        Ledger x = new Ledger();
        x.open(0, MAX - 1);
        due.leaves(x, 1, "post(0, 2)", () -> x.post(0, 2), NONE);
        due.leaves(x, 1, "post(0, MAX)", () -> x.post(0, MAX), NONE);
        due.is("post(0, 1)", x.post(0, 1), 1);
        due.allPlanes(x, 0, Words.of(MAX, 2));
        due.leaves(x, 1, "post(0, 1)", () -> x.post(0, 1), NONE);
        due.is("post(0, MIN)", x.post(0, MIN), 1);
        due.allPlanes(x, 0, Words.of(-1, 3));
    }

    private static void postTooSmall() {
        due.part("promise 4: balance and amount together are an int, at its lower end");
        Ledger x = new Ledger();
        x.open(0, MIN + 1);
        due.leaves(x, 1, "post(0, -2)", () -> x.post(0, -2), NONE);
        due.leaves(x, 1, "post(0, MIN)", () -> x.post(0, MIN), NONE);
        due.is("post(0, -1)", x.post(0, -1), 1);
        due.allPlanes(x, 0, Words.of(MIN, 2));
        due.leaves(x, 1, "post(0, -1)", () -> x.post(0, -1), NONE);
        due.leaves(x, 1, "post(0, MIN), whose wrapped sum is 0", () -> x.post(0, MIN), NONE);
        due.is("post(0, MAX)", x.post(0, MAX), 1);
        due.allPlanes(x, 0, Words.of(-1, 3));
    }

    private static void postNoSuchAccount() {
        due.part("promise 4: NONE without a turn if there is no such account");
        Ledger x = new Ledger();
        for (int account : NO_ACCOUNTS) {
            due.leaves(x, 0, "post(" + account + ", 1)", () -> x.post(account, 1), NONE);
        }
    }

    private static void transferOrderOfLooks() {
        due.part("promise 5: Both accounts are looked at, the first one first, then cell 16 of the slip");
        int[] order = {9, 4, 16};
        for (int look = 0; look < 3; look++) {
            Ledger x = new Ledger();
            x.open(9, 1);
            x.failAfter(2 * look + 1);
            due.is("transfer(9, 4, 1)", x.transfer(9, 4, 1), FadeLedger.OFF);
            for (int other = 0; other < 3; other++) {
                due.is("word(0, " + order[other] + ") is 0", x.word(0, order[other]) == 0, look == other);
            }
        }
    }

    private static void transferNotOpen() {
        due.part("promise 5: NONE (no more is done) if one is not open");
        Ledger x = new Ledger();
        x.open(0, 9);
        refused(x, 0, 1, 0);
        refused(x, 1, 0, 0);
        refused(x, 1, 2, 0);
        due.loseCell(x, 3);
        refused(x, 0, 3, 0);
        refused(x, 3, 0, 0);
        refused(x, 3, 1, 0);
    }

    private static void transferFirstBelowZero() {
        due.part("promise 5: the first one's balance less the amount .. is .. below 0");
        Ledger x = new Ledger();
        x.open(0, 9);
        x.open(1, 0);
        x.open(2, -1);
        refused(x, 0, 1, 10);
        refused(x, 1, 0, 1);
        refused(x, 2, 0, 0);
        due.is("transfer(0, 1, 9), to the last", x.transfer(0, 1, 9), 1);
        due.allPlanes(x, 0, Words.of(0, 2));
        due.allPlanes(x, 1, Words.of(9, 2));
        due.is("transfer(0, 1, 0), of nothing", x.transfer(0, 1, 0), 1);
        refused(x, 0, 1, 1);
    }

    private static void transferFirstNoInt() {
        due.part("promise 5: the first one's balance less the amount .. is no int");
        Ledger x = new Ledger();
        x.open(0, MIN);
        x.open(1, 0);
        x.open(2, -2);
        refused(x, 0, 1, 1);
        refused(x, 0, 1, MAX);
        refused(x, 2, 1, MAX);
        refused(x, 0, 1, 0);
    }

    private static void transferSecondBelowZero() {
        due.part("promise 5: the second one's and the amount, is .. below 0");
        Ledger x = new Ledger();
        x.open(0, MAX);
        x.open(1, -5);
        x.open(2, MIN);
        refused(x, 0, 1, 0);
        refused(x, 0, 1, 4);
        refused(x, 0, 2, MAX);
        due.is("transfer(0, 1, 5), up to 0", x.transfer(0, 1, 5), 1);
        due.allPlanes(x, 1, Words.of(0, 2));
    }

    private static void transferSecondNoInt() {
        due.part("promise 5: the second one's and the amount, is no int");
        Ledger x = new Ledger();
        x.open(0, MAX);
        x.open(1, MAX - 3);
        x.open(2, MAX);
        refused(x, 0, 1, 4);
        refused(x, 0, 2, 1);
        refused(x, 0, 2, MAX);
        due.is("transfer(0, 1, 3), up to the highest int", x.transfer(0, 1, 3), 1);
        due.allPlanes(x, 1, Words.of(MAX, 2));
        due.is("transfer(0, 2, 0)", x.transfer(0, 2, 0), 1);
        x.open(3, 0);
        due.is("transfer(2, 3, MAX), all there is", x.transfer(2, 3, MAX), 1);
        due.allPlanes(x, 2, Words.of(0, 3));
        due.allPlanes(x, 3, Words.of(MAX, 2));
        due.allPlanes(x, 16, Words.of(MAX, 3));
    }

    private static void transferSlipLost() {
        due.part("promise 5: cell 16 is lost");
        Ledger x = new Ledger();
        x.open(0, 9);
        x.open(1, 9);
        for (int cell = 17; cell < 20; cell++) {
            due.loseCell(x, cell);
        }
        due.is("transfer(0, 1, 1), the slip's other cells lost", x.transfer(0, 1, 1), 1);
        due.allPlanes(x, 19, Words.of(131072 + 1, 1));
        due.loseCell(x, 16);
        refused(x, 0, 1, 1);
        due.is("mount()", x.mount(), 1);
        refused(x, 0, 1, 1);
    }

    private static void transferNumberBehind() {
        due.part("promise 5: n being the number behind that of cell 16");
        Ledger x = new Ledger();
        x.open(0, 9);
        x.open(1, 9);
        due.is("transfer(0, 1, 1), from number 0", x.transfer(0, 1, 1), 1);
        slip(x, 1, 1, 2, 2, 131072 + 1);
        x.failAfter(7);
        due.is("transfer(0, 1, 2), failing behind its first write", x.transfer(0, 1, 2), FadeLedger.OFF);
        due.is("mount()", x.mount(), 1);
        due.allPlanes(x, 16, Words.of(2, 2));
        due.allPlanes(x, 17, Words.of(2, 1));
        due.is("transfer(1, 0, 3)", x.transfer(1, 0, 3), 1);
        slip(x, 3, 3, 3, 3, 131072 + 256);
    }

    private static void transferSlipWords() {
        due.part("promise 5: the first account * 256 + the second one + 65536; then .. 131072");
        for (int first = 0; first < 16; first++) {
            for (int second = 0; second < 16; second++) {
                if (first != second) {
                    slipWords(first, second);
                }
            }
        }
    }

    private static void slipWords(int first, int second) {
        Ledger x = new Ledger();
        x.open(first, 50);
        x.open(second, 60);
        x.post(second, 0);
        x.failAfter(22);
        due.is("transfer, failing behind the slip", x.transfer(first, second, 50), FadeLedger.OFF);
        slip(x, 1, 50, 2, 3, 65536 + first * 256 + second);
        due.allPlanes(x, first, Words.of(50, 1));
        due.allPlanes(x, second, Words.of(60, 2));
        due.is("mount()", x.mount(), 1);
        slip(x, 1, 50, 2, 3, 131072 + first * 256 + second);
        due.allPlanes(x, first, Words.of(0, 2));
        due.allPlanes(x, second, Words.of(110, 3));
        due.is("transfer(back)", x.transfer(second, first, 110), 1);
        slip(x, 2, 110, 4, 3, 131072 + second * 256 + first);
    }

    private static void transferNoSuchAccount() {
        due.part("promise 5: NONE without a turn if one is none");
        Ledger x = new Ledger();
        x.open(0, 9);
        for (int none : NO_ACCOUNTS) {
            refusedAtOnce(x, none, 0, 1);
            refusedAtOnce(x, 0, none, 1);
            refusedAtOnce(x, none, none, 1);
            refusedAtOnce(x, none, -2, -1);
        }
    }

    private static void transferSameAccount() {
        due.part("promise 5: NONE without a turn if .. both are the same");
        Ledger x = new Ledger();
        x.open(0, 9);
        x.open(15, 9);
        refusedAtOnce(x, 0, 0, 1);
        refusedAtOnce(x, 15, 15, 0);
        refusedAtOnce(x, 3, 3, 0);
    }

    private static void transferAmountBelowZero() {
        due.part("promise 5: NONE without a turn if .. the amount is below 0");
        Ledger x = new Ledger();
        x.open(0, 9);
        x.open(15, 9);
        refusedAtOnce(x, 0, 15, -1);
        refusedAtOnce(x, 0, 15, MIN);
        due.is("transfer(0, 15, 0)", x.transfer(0, 15, 0), 1);
    }

    private static void totalOfNone() {
        due.part("promise 6: All accounts are looked at, none of them open");
        Ledger x = new Ledger();
        due.leaves(x, 16, "total()", x::total, 0);
    }

    private static void totalOfAll() {
        due.part("promise 6: the sum of the balances, beyond an int");
        Ledger high = new Ledger();
        Ledger low = new Ledger();
        for (int account = 0; account < 16; account++) {
            high.open(account, MAX);
            low.open(account, MIN);
        }
        due.leaves(high, 16, "total()", high::total, 34359738352L);
        due.leaves(low, 16, "total()", low::total, -34359738368L);
    }

    private static void totalOfOpenOnes() {
        due.part("promise 6: of the open ones");
        Ledger x = new Ledger();
        x.open(0, 1);
        x.open(5, 20);
        x.open(15, 300);
        due.leaves(x, 16, "total()", x::total, 321);
        due.loseCell(x, 5);
        due.leaves(x, 16, "total()", x::total, 301);
        due.loseCell(x, 0);
        due.loseCell(x, 15);
        due.leaves(x, 16, "total()", x::total, 0);
    }

    private static void numberKinds() {
        due.part("promise 7: its number; NONE if it is lost");
        Ledger x = new Ledger();
        due.leaves(x, 1, "number(0), unopened", () -> x.number(0), 0);
        x.open(15, -1);
        due.leaves(x, 1, "number(15)", () -> x.number(15), 1);
        due.loseCell(x, 15);
        due.leaves(x, 1, "number(15), lost", () -> x.number(15), NONE);
    }

    private static void numberNoSuchAccount() {
        due.part("promise 7: NONE if .. there is no such account (without a turn)");
        Ledger x = new Ledger();
        x.open(0, 9);
        for (int account : NO_ACCOUNTS) {
            due.leaves(x, 0, "number(" + account + ")", () -> x.number(account), NONE);
        }
    }

    private static void refused(Ledger x, int from, int to, int amount) {
        due.leaves(x, 3, "transfer(" + from + ", " + to + ", " + amount + ")", () -> x.transfer(from, to, amount), NONE);
    }

    private static void refusedAtOnce(Ledger x, int from, int to, int amount) {
        due.leaves(x, 0, "transfer(" + from + ", " + to + ", " + amount + ")", () -> x.transfer(from, to, amount), NONE);
    }

    private static void slip(Ledger x, int number, int amount, int fromNumber, int toNumber, int route) {
        due.allPlanes(x, 16, Words.of(amount, number));
        due.allPlanes(x, 17, Words.of(fromNumber, number));
        due.allPlanes(x, 18, Words.of(toNumber, number));
        due.allPlanes(x, 19, Words.of(route, number));
    }
}
