/** The edges that promises 8, 9 and 11 name, each sentence by a test of its own. */
public final class PowerEdgesTest {
    private static final int NONE = FadeLedger.NONE;
    private static final int OFF = FadeLedger.OFF;
    private static final long DARK = FadeLedger.DARK;
    private static final long UNOPENED = FadeLedger.UNOPENED;
    private static final int MAX = Integer.MAX_VALUE;
    private static final int MIN = Integer.MIN_VALUE;

    private static final LedgerDue due = new LedgerDue();

    private PowerEdgesTest() {
    }

    public static void main(String[] args) {
        afterNoTurn();
        afterTurnsOfSeveralCalls();
        refusedCallsUseNoTurn();
        aNumberIsUsedOnce();
        anotherNumberTakesItsPlace();
        staysForTheNextMount();
        countsOnBehindTheMount();
        countsOnInAMountWithPowerOn();
        numberBelowZero();
        highNumbersOfTurns();
        failNow();
        failForgetsTheNumber();
        failWithPowerOff();
        onFollowsThePower();
        due.end();
    }

    private static void afterNoTurn() {
        due.part("promise 8: Power fails after n more turns, n being 0");
        Ledger x = new Ledger();
        long[][] words = LedgerDue.wordsOf(x);
        due.is("failAfter(0)", x.failAfter(0), true);
        due.is("on() before the turn that is not done", x.on(), true);
        due.is("open(0, 1)", x.open(0, 1), OFF);
        due.is("on()", x.on(), false);
        due.turns(x, 0, 0);
        due.sameWords("open", x, words);
        x.failAfter(0);
        due.is("mount()", x.mount(), OFF);
        due.is("on()", x.on(), false);
        due.turns(x, 0, 0);
        due.sameWords("mount", x, words);
    }

    private static void afterTurnsOfSeveralCalls() {
        due.part("promise 8: Power fails after n more turns, over several calls");
        Ledger x = new Ledger();
        due.is("failAfter(10)", x.failAfter(10), true);
        due.is("open(0, 1), turns 1 to 5", x.open(0, 1), 1);
        due.is("number(0), turns 6 and 7", x.number(0), 1);
        due.is("balance(1), turns 8 and 9", x.balance(1), UNOPENED);
        due.is("on()", x.on(), true);
        due.is("balance(0), turn 10 and no more", x.balance(0), DARK);
        due.turns(x, 4, 6);
        due.is("on()", x.on(), false);
        due.is("word(0, 0)", x.word(0, 0), 0);
    }

    private static void refusedCallsUseNoTurn() {
        due.part("promise 8: n more turns, of which refused calls use none");
        Ledger x = new Ledger();
        x.failAfter(2);
        due.is("open(16, 1)", x.open(16, 1), NONE);
        due.is("post(-1, 1)", x.post(-1, 1), NONE);
        due.is("transfer(0, 0, 1)", x.transfer(0, 0, 1), NONE);
        due.is("transfer(0, 1, -1)", x.transfer(0, 1, -1), NONE);
        due.is("balance(20)", x.balance(20), FadeLedger.NOWHERE);
        due.is("number(MIN)", x.number(MIN), NONE);
        due.is("number(0), both turns", x.number(0), 0);
        due.is("number(0)", x.number(0), OFF);
        due.turns(x, 1, 1);
    }

    private static void aNumberIsUsedOnce() {
        due.part("promise 8: a number that has made power fail is used up");
        Ledger x = new Ledger();
        x.failAfter(1);
        due.is("balance(0)", x.balance(0), DARK);
        due.is("mount()", x.mount(), 1);
        due.is("total()", x.total(), 0);
        due.is("mount()", x.mount(), 1);
        due.is("on()", x.on(), true);
    }

    private static void anotherNumberTakesItsPlace() {
        due.part("promise 8: another number takes the place of this one");
        Ledger x = new Ledger();
        x.failAfter(1);
        due.is("failAfter(4), more", x.failAfter(4), true);
        due.is("number(0)", x.number(0), 0);
        due.is("number(0)", x.number(0), 0);
        due.is("failAfter(2), when none were left", x.failAfter(2), true);
        due.is("number(0)", x.number(0), 0);
        due.is("number(0)", x.number(0), OFF);
        x.mount();
        x.failAfter(1000);
        due.is("failAfter(3), fewer", x.failAfter(3), true);
        due.is("number(0)", x.number(0), 0);
        due.is("number(0)", x.number(0), OFF);
        due.is("word(0, 0)", x.word(0, 0), 0);
    }

    private static void staysForTheNextMount() {
        due.part("promise 8: it stays for the next mount if power is off");
        Ledger x = new Ledger();
        x.fail();
        due.is("failAfter(500)", x.failAfter(500), true);
        due.is("failAfter(3) in its place", x.failAfter(3), true);
        due.is("on()", x.on(), false);
        due.is("balance(0)", x.balance(0), DARK);
        due.is("total()", x.total(), DARK);
        due.is("open(0, 1)", x.open(0, 1), OFF);
        due.is("fail()", x.fail(), false);
        due.is("mount(), three turns", x.mount(), OFF);
        due.turns(x, 2, 1);
        due.is("word(0, 0)", x.word(0, 0), Words.of(0, 0));
        due.is("word(1, 0)", x.word(1, 0), 0);
        due.is("mount(), the number being used up", x.mount(), 1);
    }

    private static void countsOnBehindTheMount() {
        due.part("promise 8: what a mount leaves of the number counts on");
        Ledger x = new Ledger();
        x.fail();
        x.failAfter(162);
        due.is("mount(), 160 turns", x.mount(), 1);
        due.is("number(0), the last two", x.number(0), 0);
        due.is("on()", x.on(), true);
        due.is("number(0)", x.number(0), OFF);
        x.failAfter(160);
        due.is("mount(), all of the turns", x.mount(), 1);
        due.is("on()", x.on(), true);
        due.is("number(0)", x.number(0), OFF);
        due.is("on()", x.on(), false);
        x.failAfter(159);
        due.is("mount(), one turn too few", x.mount(), OFF);
        due.is("word(3, 19)", x.word(3, 19), 0);
    }

    private static void countsOnInAMountWithPowerOn() {
        due.part("promise 8: a mount with power on does not change the number");
        Ledger x = new Ledger();
        x.failAfter(9);
        due.is("mount()", x.mount(), OFF);
        due.turns(x, 5, 4);
        due.is("word(0, 1)", x.word(0, 1), 0);
        due.is("mount()", x.mount(), 1);
    }

    private static void numberBelowZero() {
        due.part("promise 8: false if n is below 0");
        Ledger x = new Ledger();
        for (int n : new int[] {-1, -2, -160, MIN, MIN + 1}) {
            due.leaves(x, 0, "failAfter(" + n + ")", () -> x.failAfter(n) ? 1 : 0, 0);
        }
        due.is("mount(), no number being told", x.mount(), 1);
        x.failAfter(3);
        due.is("failAfter(-1) does not take the place of 3", x.failAfter(-1), false);
        due.is("number(0)", x.number(0), 0);
        due.is("number(0)", x.number(0), OFF);
        due.is("word(0, 0)", x.word(0, 0), 0);
        due.is("failAfter(-1), power off", x.failAfter(-1), false);
        due.is("mount()", x.mount(), 1);
        x.fail();
        x.failAfter(1);
        due.is("failAfter(MIN), power off", x.failAfter(MIN), false);
        due.is("mount()", x.mount(), OFF);
        due.is("word(0, 0)", x.word(0, 0), 0);
    }

    private static void highNumbersOfTurns() {
        due.part("promise 8: Power fails after n more turns, n being high");
        Ledger x = new Ledger();
        due.is("failAfter(70000)", x.failAfter(70000), true);
        for (int i = 0; i < 437; i++) {
            due.is("mount(), 160 turns", x.mount(), 1);
        }
        due.is("mount(), 80 turns and no more", x.mount(), OFF);
        due.turns(x, 35000, 35000);
        Ledger y = new Ledger();
        due.is("failAfter(MAX)", y.failAfter(MAX), true);
        for (int i = 0; i < 450; i++) {
            due.is("mount()", y.mount(), 1);
        }
        due.is("on()", y.on(), true);
        y.fail();
        due.is("failAfter(MAX), power off", y.failAfter(MAX), true);
        due.is("mount()", y.mount(), 1);
        due.is("total()", y.total(), 0);
    }

    private static void failNow() {
        due.part("promise 9: Power fails now");
        Ledger x = new Ledger();
        x.open(0, 5);
        long[][] words = LedgerDue.wordsOf(x);
        due.is("fail()", x.fail(), true);
        due.is("on()", x.on(), false);
        due.turns(x, 1, 4);
        due.sameWords("fail", x, words);
        due.is("balance(0)", x.balance(0), DARK);
        due.turns(x, 1, 4);
    }

    private static void failForgetsTheNumber() {
        due.part("promise 9: a number that was told is forgotten");
        for (int n : new int[] {0, 1, 7, 159, 160, 170}) {
            Ledger x = new Ledger();
            x.failAfter(n);
            due.is("fail()", x.fail(), true);
            due.is("mount()", x.mount(), 1);
            due.is("total()", x.total(), 0);
            due.is("mount()", x.mount(), 1);
        }
        Ledger y = new Ledger();
        y.failAfter(2);
        due.is("number(0), both turns", y.number(0), 0);
        due.is("fail() before the turn that is not done", y.fail(), true);
        due.is("mount()", y.mount(), 1);
    }

    private static void failWithPowerOff() {
        due.part("promise 9: false if it is off");
        Ledger x = new Ledger();
        x.fail();
        due.leaves(x, 0, "fail() behind fail()", () -> x.fail() ? 1 : 0, 0);
        x.mount();
        x.failAfter(0);
        x.number(0);
        due.leaves(x, 0, "fail() behind a failed call", () -> x.fail() ? 1 : 0, 0);
        x.failAfter(2);
        x.mount();
        due.leaves(x, 0, "fail() behind a failed mount", () -> x.fail() ? 1 : 0, 0);
        x.failAfter(5);
        due.is("fail(), a number being told", x.fail(), false);
        due.is("mount(), the number has stayed", x.mount(), OFF);
        due.is("word(2, 0)", x.word(2, 0), 0);
        due.is("mount()", x.mount(), 1);
        due.is("fail()", x.fail(), true);
    }

    private static void onFollowsThePower() {
        due.part("promise 11: Whether power is on");
        Ledger x = new Ledger();
        due.leaves(x, 0, "on() of a new object", () -> x.on() ? 1 : 0, 1);
        x.open(16, 0);
        due.leaves(x, 0, "on() behind a refused call", () -> x.on() ? 1 : 0, 1);
        x.fail();
        due.leaves(x, 0, "on() behind fail()", () -> x.on() ? 1 : 0, 0);
        x.total();
        due.leaves(x, 0, "on() behind a call with power off", () -> x.on() ? 1 : 0, 0);
        x.failAfter(100);
        due.leaves(x, 0, "on() behind failAfter(100), power off", () -> x.on() ? 1 : 0, 0);
        x.mount();
        due.leaves(x, 0, "on() behind a failed mount", () -> x.on() ? 1 : 0, 0);
        x.mount();
        due.leaves(x, 0, "on() behind a mount", () -> x.on() ? 1 : 0, 1);
    }
}
