/** Up to three failures between two mounts lose nothing: a transfer is done whole or not at all. */
public final class FailuresTest {
    private static final Due due = new Due();

    private FailuresTest() {
    }

    public static void main(String[] args) {
        for (int first = 0; first <= 34; first++) {
            for (int second = 0; second <= 180; second++) {
                oneRun(first, second, -1);
                for (int third = first % 7; third <= 180; third += 7) {
                    oneRun(first, second, third);
                }
                // Failing twice at the same cell wears out most of its planes.
                for (int near = 0; near < 12; near++) {
                    oneRun(first, second, Math.max(0, second - 6 + near));
                }
            }
        }
        due.end();
    }

    private static void oneRun(int first, int second, int third) {
        due.part("failures at " + first + ", " + second + ", " + third);
        FadeLedger x = new FadeLedger();
        x.open(0, 70);
        x.open(15, 40);
        x.open(7, 5);
        x.transfer(7, 15, 2);
        x.failAfter(first);
        int answer = x.transfer(0, 15, 25);
        x.fail();
        failingMount(x, second);
        failingMount(x, third);
        due.is("mount()", x.mount(), 1);
        for (int cell = 0; cell < 20; cell++) {
            due.is("lost(" + cell + ") is below 4", x.lost(cell) < 4, true);
        }
        boolean moved = x.balance(0) == 45;
        if (answer == 1) {
            due.is("moved", moved, true);
        }
        due.is("balance(0)", x.balance(0), moved ? 45 : 70);
        due.is("number(0)", x.number(0), moved ? 2 : 1);
        due.is("balance(15)", x.balance(15), moved ? 67 : 42);
        due.is("number(15)", x.number(15), moved ? 3 : 2);
        due.is("total()", x.total(), 115);
        due.is("the slip is not pending", x.word(0, 19) >> 48 & 1, 0);
    }

    private static void failingMount(FadeLedger x, int turns) {
        if (x.failAfter(turns)) {
            x.mount();
            x.fail();
        }
    }
}
