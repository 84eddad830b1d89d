import java.util.function.Supplier;
import java.util.function.ToLongFunction;

/** Every call that does turns, with power failing at each of them: what is due with one too few, and with just enough. */
public final class TurnsTest {
    private static final int NONE = FadeLedger.NONE;
    private static final int OFF = FadeLedger.OFF;
    private static final long DARK = FadeLedger.DARK;

    private static final LedgerDue due = new LedgerDue();

    private TurnsTest() {
    }

    public static void main(String[] args) {
        each("open, an unopened one", TurnsTest::accounts, x -> x.open(1, 5), 5, 1, OFF);
        each("open, an open one", TurnsTest::accounts, x -> x.open(0, 5), 2, NONE, OFF);
        each("balance", TurnsTest::accounts, x -> x.balance(0), 2, 70, DARK);
        each("balance, an unopened one", TurnsTest::accounts, x -> x.balance(1), 2, FadeLedger.UNOPENED, DARK);
        each("balance, a lost one", TurnsTest::accounts, x -> x.balance(4), 2, FadeLedger.LOST, DARK);
        each("post", TurnsTest::accounts, x -> x.post(0, 5), 5, 1, OFF);
        each("post, an unopened one", TurnsTest::accounts, x -> x.post(1, 5), 2, NONE, OFF);
        each("post, too much", TurnsTest::accounts, x -> x.post(0, Integer.MAX_VALUE), 2, NONE, OFF);
        each("transfer", TurnsTest::accounts, x -> x.transfer(0, 15, 70), 34, 1, OFF);
        each("transfer, too much", TurnsTest::accounts, x -> x.transfer(0, 15, 71), 6, NONE, OFF);
        each("transfer, from an unopened one", TurnsTest::accounts, x -> x.transfer(1, 15, 0), 6, NONE, OFF);
        each("transfer, to a lost one", TurnsTest::accounts, x -> x.transfer(0, 4, 0), 6, NONE, OFF);
        each("total", TurnsTest::accounts, Ledger::total, 32, 110, DARK);
        each("number", TurnsTest::accounts, x -> x.number(0), 2, 1, OFF);
        each("number, a lost one", TurnsTest::accounts, x -> x.number(4), 2, NONE, OFF);
        each("mount", TurnsTest::accounts, Ledger::mount, 160, 1, OFF);
        each("mount, a word worn", TurnsTest::worn, Ledger::mount, 161, 1, OFF);
        each("mount, three words worn", TurnsTest::wornThrice, Ledger::mount, 163, 1, OFF);
        each("mount, a slip to finish", TurnsTest::pending, Ledger::mount, 172, 1, OFF);
        due.end();
    }

    private static void each(String call, Supplier<Ledger> made, ToLongFunction<Ledger> asked, int turns, long answer, long dark) {
        for (int n = 0; n <= turns + 1; n++) {
            due.part(call + ", failAfter(" + n + ")");
            Ledger x = made.get();
            int before = x.done(0) + x.done(1);
            due.is("failAfter", x.failAfter(n), true);
            due.is("the call", asked.applyAsLong(x), n < turns ? dark : answer);
            due.is("its turns", x.done(0) + x.done(1) - before, Math.min(n, turns));
            due.is("on()", x.on(), n >= turns);
            due.is("mount(), with what is left of the number", x.mount(), n < turns ? 1 : OFF);
        }
    }

    private static Ledger accounts() {
        Ledger x = new Ledger();
        x.open(0, 70);
        x.open(15, 40);
        due.loseCell(x, 4);
        return x;
    }

    private static Ledger worn() {
        Ledger x = accounts();
        x.failAfter(1);
        x.number(15);
        return x;
    }

    private static Ledger wornThrice() {
        Ledger x = accounts();
        due.wearCell(x, 19, 3);
        return x;
    }

    private static Ledger pending() {
        Ledger x = accounts();
        x.failAfter(22);
        x.transfer(0, 15, 30);
        return x;
    }
}
