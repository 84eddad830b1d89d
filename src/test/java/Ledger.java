import java.util.ArrayList;
import java.util.List;

/**
 * A ledger of which a test may see as much as it likes. The document promises 512 calls of an object, so on,
 * lost, word and done are asked of another object on which the same calls were done before.
 */
final class Ledger {
    private static final int CALLS = 512;

    private interface Call {
        void on(FadeLedger ledger);
    }

    private final FadeLedger live = new FadeLedger();
    private final List<Call> calls = new ArrayList<>();
    private FadeLedger twin;
    private int twinCalls;

    int open(int account, int balance) {
        keep(x -> x.open(account, balance));
        return live.open(account, balance);
    }

    long balance(int account) {
        keep(x -> x.balance(account));
        return live.balance(account);
    }

    int post(int account, int amount) {
        keep(x -> x.post(account, amount));
        return live.post(account, amount);
    }

    int transfer(int from, int to, int amount) {
        keep(x -> x.transfer(from, to, amount));
        return live.transfer(from, to, amount);
    }

    long total() {
        keep(FadeLedger::total);
        return live.total();
    }

    int number(int account) {
        keep(x -> x.number(account));
        return live.number(account);
    }

    boolean failAfter(int n) {
        keep(x -> x.failAfter(n));
        return live.failAfter(n);
    }

    boolean fail() {
        keep(FadeLedger::fail);
        return live.fail();
    }

    int mount() {
        keep(FadeLedger::mount);
        return live.mount();
    }

    boolean on() {
        return toSee().on();
    }

    int lost(int cell) {
        return toSee().lost(cell);
    }

    long word(int plane, int cell) {
        return toSee().word(plane, cell);
    }

    int done(int what) {
        return toSee().done(what);
    }

    private void keep(Call call) {
        if (calls.size() == CALLS) {
            throw new IllegalStateException("a test does more calls than are promised");
        }
        calls.add(call);
        twin = null;
    }

    private FadeLedger toSee() {
        if (twin == null || twinCalls == CALLS) {
            twin = new FadeLedger();
            calls.forEach(call -> call.on(twin));
            twinCalls = calls.size();
        }
        if (twinCalls == CALLS) {
            throw new IllegalStateException("a test sees more than is promised");
        }
        twinCalls++;
        return twin;
    }
}
