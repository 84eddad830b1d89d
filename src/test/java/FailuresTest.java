import java.util.function.ToIntFunction;

/** Up to three failures between two mounts lose nothing: a call is done whole or not at all, and all else stays. */
public final class FailuresTest {
    private static final int MOUNT_TURNS = 180;

    private static final Due due = new Due();

    private FailuresTest() {
    }

    public static void main(String[] args) {
        due.part("no failure");
        due.is("the ledger as it was", isBefore(mounted(ready())), true);
        everyFailure("transfer", 34, x -> x.transfer(0, 15, 25), x -> has(x, 45, 2, 67, 3, FadeLedger.UNOPENED, 0));
        everyFailure("post", 5, x -> x.post(0, -90), x -> has(x, -20, 2, 42, 2, FadeLedger.UNOPENED, 0));
        everyFailure("open", 5, x -> x.open(3, -8), x -> has(x, 70, 1, 42, 2, -8, 1));
        due.end();
    }

    private interface State {
        boolean of(FadeLedger x);
    }

    private static void everyFailure(String name, int turns, ToIntFunction<FadeLedger> call, State after) {
        for (int first = 0; first <= turns; first++) {
            for (int second = 0; second <= MOUNT_TURNS; second++) {
                oneRun(name, call, after, first, second, -1);
                for (int third = first % 7; third <= MOUNT_TURNS; third += 7) {
                    oneRun(name, call, after, first, second, third);
                }
                // Failing twice at the same cell wears out most of its planes.
                for (int near = 0; near < 12; near++) {
                    oneRun(name, call, after, first, second, Math.max(0, second - 6 + near));
                }
            }
        }
    }

    private static void oneRun(String name, ToIntFunction<FadeLedger> call, State after, int first, int second, int third) {
        due.part(name + ", failures at " + first + ", " + second + ", " + third);
        FadeLedger x = ready();
        x.failAfter(first);
        int answer = call.applyAsInt(x);
        x.fail();
        failingMount(x, second);
        failingMount(x, third);
        mounted(x);
        for (int cell = 0; cell < 20; cell++) {
            due.is("lost(" + cell + ") is below 4", x.lost(cell) < 4, true);
        }
        boolean done = after.of(x);
        due.is("done whole or not at all", done || isBefore(x), true);
        if (answer == 1) {
            due.is("done, as it was answered", done, true);
        }
        due.is("the slip is not pending", x.word(0, 19) >> 48 & 1, 0);
        due.is("another transfer", x.transfer(7, 15, 3), 1);
    }

    private static FadeLedger ready() {
        FadeLedger x = new FadeLedger();
        x.open(0, 70);
        x.open(15, 40);
        x.open(7, 5);
        x.transfer(7, 15, 2);
        return x;
    }

    private static boolean isBefore(FadeLedger x) {
        return has(x, 70, 1, 42, 2, FadeLedger.UNOPENED, 0);
    }

    /** Whether the accounts 0, 15 and 3 have these balances and numbers, and 7 is as it was. */
    private static boolean has(FadeLedger x, long zero, int zeroNumber, long last, int lastNumber, long three, int threeNumber) {
        return x.balance(0) == zero && x.number(0) == zeroNumber
                && x.balance(15) == last && x.number(15) == lastNumber
                && x.balance(3) == three && x.number(3) == threeNumber
                && x.balance(7) == 3 && x.number(7) == 2;
    }

    private static FadeLedger mounted(FadeLedger x) {
        due.is("mount()", x.mount(), 1);
        return x;
    }

    private static void failingMount(FadeLedger x, int turns) {
        if (x.failAfter(turns)) {
            x.mount();
            x.fail();
        }
    }
}
