/** One method for each promise of the document, by calls of the public face alone. */
public final class PromisesTest {
    private static final int NONE = FadeLedger.NONE;
    private static final int OFF = FadeLedger.OFF;
    private static final int MAX = Integer.MAX_VALUE;
    private static final int MIN = Integer.MIN_VALUE;
    private static final int[] NO_ACCOUNTS = {-1, 16, 19, 20, 256, MAX, MIN};

    private static final LedgerDue due = new LedgerDue();

    private PromisesTest() {
    }

    public static void main(String[] args) {
        newObject();
        open();
        balance();
        post();
        transfer();
        transferRefused();
        transferTurns();
        total();
        number();
        failAfter();
        fail();
        mount();
        mountFinishesSlip();
        on();
        lost();
        word();
        done();
        due.end();
    }

    private static void newObject() {
        due.part("promise 1");
        Ledger x = new Ledger();
        due.is("on()", x.on(), true);
        due.is("done(0)", x.done(0), 0);
        due.is("done(1)", x.done(1), 0);
        for (int cell = 0; cell < 20; cell++) {
            due.allPlanes(x, cell, Words.of(0, 0));
            due.is("lost", x.lost(cell), 0);
        }
        due.is("total()", x.total(), 0);
    }

    private static void open() {
        due.part("promise 2");
        Ledger x = new Ledger();
        due.is("open(0, 7)", x.open(0, 7), 1);
        due.turns(x, 1, 4);
        due.allPlanes(x, 0, Words.of(7, 1));
        due.is("open again", x.open(0, 8), NONE);
        due.turns(x, 2, 5);
        due.allPlanes(x, 0, Words.of(7, 1));
        due.is("open(15, MIN)", x.open(15, MIN), 1);
        due.allPlanes(x, 15, Words.of(MIN, 1));
        due.is("balance(15)", x.balance(15), MIN);
        due.is("open(14, MAX)", x.open(14, MAX), 1);
        due.allPlanes(x, 14, Words.of(MAX, 1));
        due.is("open(13, 0)", x.open(13, 0), 1);
        due.is("balance(13)", x.balance(13), 0);
        for (int turn = 0; turn < 5; turn++) {
            Ledger y = new Ledger();
            y.failAfter(turn);
            due.is("open with failAfter", y.open(3, 5), OFF);
            due.is("on()", y.on(), false);
            for (int plane = 0; plane < 4; plane++) {
                long old = plane == 0 && turn == 1 ? 0 : Words.of(0, 0);
                due.is("word", y.word(plane, 3), plane < turn - 1 ? Words.of(5, 1) : old);
            }
        }
        Ledger z = new Ledger();
        z.failAfter(5);
        due.is("open with enough turns", z.open(3, 5), 1);
        noAccount("open", account -> (long) new Ledger().open(account, 1), NONE);
        noTurn("open", (ledger, account) -> ledger.open(account, 1), NONE);
        lostAccount("open", (ledger, account) -> ledger.open(account, 1), NONE);
    }

    private static void balance() {
        due.part("promise 3");
        Ledger x = new Ledger();
        due.is("balance(4)", x.balance(4), FadeLedger.UNOPENED);
        due.turns(x, 1, 1);
        x.open(4, -12);
        due.is("balance(4)", x.balance(4), -12);
        due.turns(x, 3, 6);
        due.allPlanes(x, 4, Words.of(-12, 1));
        x.failAfter(0);
        due.is("balance, failing at the read", x.balance(4), FadeLedger.DARK);
        due.allPlanes(x, 4, Words.of(-12, 1));
        due.is("balance, power off", x.balance(4), FadeLedger.DARK);
        x.mount();
        x.failAfter(1);
        due.is("balance, failing at the write", x.balance(4), FadeLedger.DARK);
        due.is("word(0, 4)", x.word(0, 4), 0);
        due.is("word(1, 4)", x.word(1, 4), Words.of(-12, 1));
        noAccount("balance", account -> new Ledger().balance(account), FadeLedger.NOWHERE);
        noTurn("balance", Ledger::balance, FadeLedger.NOWHERE);
        lostAccount("balance", Ledger::balance, FadeLedger.LOST);
    }

    private static void post() {
        due.part("promise 4");
        Ledger x = new Ledger();
        due.is("post to an unopened one", x.post(2, 5), NONE);
        due.turns(x, 1, 1);
        due.allPlanes(x, 2, Words.of(0, 0));
        x.open(2, 100);
        due.is("post(2, -101)", x.post(2, -101), 1);
        due.turns(x, 3, 9);
        due.allPlanes(x, 2, Words.of(-1, 2));
        due.is("post(2, MIN)", x.post(2, MIN), NONE);
        due.turns(x, 4, 10);
        due.allPlanes(x, 2, Words.of(-1, 2));
        due.is("post(2, MIN + 1)", x.post(2, MIN + 1), 1);
        due.allPlanes(x, 2, Words.of(MIN, 3));
        due.is("post(2, -1)", x.post(2, -1), NONE);
        due.is("post(2, MAX)", x.post(2, MAX), 1);
        due.is("post(2, MAX)", x.post(2, MAX), 1);
        due.is("post(2, 1)", x.post(2, 1), 1);
        due.allPlanes(x, 2, Words.of(MAX, 6));
        due.is("post(2, 1)", x.post(2, 1), NONE);
        due.is("post(2, 0)", x.post(2, 0), 1);
        due.allPlanes(x, 2, Words.of(MAX, 7));
        for (int turn = 0; turn < 5; turn++) {
            Ledger y = new Ledger();
            y.open(1, 1);
            y.failAfter(turn);
            due.is("post with failAfter", y.post(1, 4), OFF);
            for (int plane = 0; plane < 4; plane++) {
                long old = plane == 0 && turn == 1 ? 0 : Words.of(1, 1);
                due.is("word", y.word(plane, 1), plane < turn - 1 ? Words.of(5, 2) : old);
            }
            due.is("post, power off", y.post(1, 4), OFF);
        }
        noAccount("post", account -> (long) new Ledger().post(account, 1), NONE);
        noTurn("post", (ledger, account) -> ledger.post(account, 1), NONE);
        lostAccount("post", (ledger, account) -> ledger.post(account, 1), NONE);
    }

    private static void transfer() {
        due.part("promise 5");
        Ledger x = new Ledger();
        x.open(15, 30);
        x.open(3, -5);
        x.post(3, 1);
        due.is("transfer(15, 3, 30)", x.transfer(15, 3, 30), 1);
        due.allPlanes(x, 15, Words.of(0, 2));
        due.allPlanes(x, 3, Words.of(26, 3));
        due.allPlanes(x, 16, Words.of(30, 1));
        due.allPlanes(x, 17, Words.of(2, 1));
        due.allPlanes(x, 18, Words.of(3, 1));
        due.allPlanes(x, 19, Words.of(131072 + 15 * 256 + 3, 1));
        due.turns(x, 3 + 3, 4 + 4 + 4 + 3 + 28);
        due.is("transfer(3, 15, 0)", x.transfer(3, 15, 0), 1);
        due.allPlanes(x, 15, Words.of(0, 3));
        due.allPlanes(x, 3, Words.of(26, 4));
        due.allPlanes(x, 16, Words.of(0, 2));
        due.allPlanes(x, 17, Words.of(4, 2));
        due.allPlanes(x, 18, Words.of(3, 2));
        due.allPlanes(x, 19, Words.of(131072 + 3 * 256 + 15, 2));
    }

    private static void transferRefused() {
        Ledger x = new Ledger();
        x.open(0, 10);
        x.open(1, MAX - 4);
        x.open(2, -8);
        refusedAfterLooking(x, 0, 5, 1);
        refusedAfterLooking(x, 5, 0, 0);
        refusedAfterLooking(x, 0, 1, 5);
        refusedAfterLooking(x, 0, 2, 7);
        refusedAfterLooking(x, 0, 2, 11);
        refusedAfterLooking(x, 2, 0, 0);
        refusedAfterLooking(x, 2, 0, MAX);
        due.is("transfer(0, 2, 8)", x.transfer(0, 2, 8), 1);
        due.is("transfer(2, 1, 0)", x.transfer(2, 1, 0), 1);
        due.is("transfer(0, 1, 2)", x.transfer(0, 1, 2), 1);
        refusedAtOnce(x, 0, 0, 1);
        refusedAtOnce(x, 0, 1, -1);
        refusedAtOnce(x, 0, 1, MIN);
        for (int none : NO_ACCOUNTS) {
            refusedAtOnce(x, none, 1, 1);
            refusedAtOnce(x, 1, none, 1);
            refusedAtOnce(x, none, none, 1);
        }
        x.fail();
        due.is("transfer, power off", x.transfer(0, 1, 0), OFF);
        refusedAtOnce(x, 0, 0, 1);
        refusedAtOnce(x, 0, 1, -1);
        refusedAtOnce(x, 16, 1, 1);

        Ledger y = new Ledger();
        y.open(0, 5);
        y.open(1, 5);
        y.open(2, 5);
        due.loseCell(y, 1);
        refusedAfterLooking(y, 0, 1, 1);
        refusedAfterLooking(y, 1, 0, 1);
        due.is("transfer(0, 2, 1)", y.transfer(0, 2, 1), 1);
        due.loseCell(y, 17);
        due.loseCell(y, 18);
        due.loseCell(y, 19);
        due.is("transfer(0, 2, 1)", y.transfer(0, 2, 1), 1);
        due.loseCell(y, 16);
        refusedAfterLooking(y, 0, 2, 1);
    }

    /** After each number of turns, every word is as the order of the turns leaves it. */
    private static void transferTurns() {
        long[][] puts = {
            {16, Words.of(9, 1)}, {17, Words.of(2, 1)}, {18, Words.of(2, 1)}, {19, Words.of(65536 + 6 * 256 + 11, 1)},
            {6, Words.of(11, 2)}, {11, Words.of(39, 2)}, {19, Words.of(131072 + 6 * 256 + 11, 1)}};
        int[] looks = {6, 11, 16};
        for (int turn = 0; turn <= 34; turn++) {
            Ledger x = new Ledger();
            x.open(6, 20);
            x.open(11, 30);
            long[][] want = LedgerDue.wordsOf(x);
            for (int i = 0; i < 3; i++) {
                if (turn == 2 * i + 1) {
                    want[0][looks[i]] = 0;
                }
            }
            for (int i = 6; i < turn; i++) {
                want[(i - 6) % 4][(int) puts[(i - 6) / 4][0]] = puts[(i - 6) / 4][1];
            }
            x.failAfter(turn);
            due.is("transfer, failAfter " + turn, x.transfer(6, 11, 9), turn < 34 ? OFF : 1);
            due.is("on()", x.on(), turn == 34);
            due.is("done", x.done(0) + x.done(1), 10 + turn);
            due.sameWords("transfer, failAfter " + turn, x, want);
        }
    }

    private static void total() {
        due.part("promise 6");
        Ledger x = new Ledger();
        for (int account = 0; account < 16; account++) {
            x.open(account, MAX);
        }
        due.is("total()", x.total(), 16L * MAX);
        due.turns(x, 32, 64 + 16);
        Ledger y = new Ledger();
        y.open(0, MIN);
        y.open(7, MIN);
        y.open(15, -1);
        due.is("total()", y.total(), 2L * MIN - 1);
        due.loseCell(y, 7);
        due.is("total() without a lost one", y.total(), (long) MIN - 1);
        y.transfer(0, 15, 0);
        y.failAfter(31);
        due.is("total(), failing at its last write", y.total(), FadeLedger.DARK);
        due.is("word(0, 15)", y.word(0, 15), 0);
        due.is("word(0, 14)", y.word(0, 14), Words.of(0, 0));
        due.is("total(), power off", y.total(), FadeLedger.DARK);
        y.mount();
        y.failAfter(32);
        due.is("total() with enough turns", y.total(), (long) MIN - 1);
        y.failAfter(3);
        due.is("total(), failing in the second account", y.total(), FadeLedger.DARK);
        due.is("word(0, 0)", y.word(0, 0), Words.of(MIN, 1));
        due.is("word(0, 1)", y.word(0, 1), 0);
    }

    private static void number() {
        due.part("promise 7");
        Ledger x = new Ledger();
        due.is("number(9)", x.number(9), 0);
        due.turns(x, 1, 1);
        x.open(9, 5);
        due.is("number(9)", x.number(9), 1);
        x.post(9, 5);
        x.post(9, 5);
        due.is("number(9)", x.number(9), 3);
        x.failAfter(1);
        due.is("number, failing at the write", x.number(9), OFF);
        due.is("word(0, 9)", x.word(0, 9), 0);
        due.is("number, power off", x.number(9), OFF);
        noAccount("number", account -> (long) new Ledger().number(account), NONE);
        noTurn("number", Ledger::number, NONE);
        lostAccount("number", Ledger::number, NONE);
    }

    private static void failAfter() {
        due.part("promise 8");
        Ledger x = new Ledger();
        due.is("failAfter(-1)", x.failAfter(-1), false);
        due.is("failAfter(MIN)", x.failAfter(MIN), false);
        due.is("balance(0)", x.balance(0), FadeLedger.UNOPENED);
        due.is("failAfter(3)", x.failAfter(3), true);
        due.is("failAfter(-1)", x.failAfter(-1), false);
        due.is("balance(0)", x.balance(0), FadeLedger.UNOPENED);
        due.is("on()", x.on(), true);
        due.is("balance(0)", x.balance(0), FadeLedger.DARK);
        due.is("on()", x.on(), false);
        due.is("word(0, 0)", x.word(0, 0), 0);
        due.is("mount() after a number was used", x.mount(), 1);
        due.is("failAfter(1)", x.failAfter(1), true);
        due.is("failAfter(4)", x.failAfter(4), true);
        due.is("number(0)", x.number(0), 0);
        due.is("number(0)", x.number(0), 0);
        due.is("number(0)", x.number(0), OFF);
        due.is("failAfter(170), power off", x.failAfter(170), true);
        due.is("number(0), power off", x.number(0), OFF);
        due.is("mount()", x.mount(), 1);
        due.is("total() by the ten turns left", x.total(), FadeLedger.DARK);
        due.is("failAfter(2)", x.failAfter(2), true);
        due.is("failAfter(MAX)", x.failAfter(MAX), true);
        due.is("mount()", x.mount(), 1);
        due.is("failAfter(0)", x.failAfter(0), true);
        due.is("on() before the turn that fails", x.on(), true);
        due.is("refused without a turn", x.open(16, 0), NONE);
        due.is("on()", x.on(), true);
        due.is("open(0, 1)", x.open(0, 1), OFF);
        due.is("on()", x.on(), false);
    }

    private static void fail() {
        due.part("promise 9");
        Ledger x = new Ledger();
        x.failAfter(3);
        due.is("fail()", x.fail(), true);
        due.is("on()", x.on(), false);
        due.is("fail()", x.fail(), false);
        due.is("mount(), the number is forgotten", x.mount(), 1);
        due.is("fail()", x.fail(), true);
        x.failAfter(3);
        due.is("fail()", x.fail(), false);
        due.is("mount(), the number is kept", x.mount(), OFF);
        due.is("fail()", x.fail(), false);
        due.is("open(0, 1)", x.open(0, 1), OFF);
        due.is("balance(0)", x.balance(0), FadeLedger.DARK);
        due.is("mount()", x.mount(), 1);
        due.is("on()", x.on(), true);
    }

    private static void mount() {
        due.part("promise 10");
        Ledger x = new Ledger();
        due.is("mount(), power on", x.mount(), 1);
        due.turns(x, 80, 80);
        x.open(0, 1);
        x.failAfter(3);
        due.is("post(0, 4)", x.post(0, 4), OFF);
        due.is("word(1, 0)", x.word(1, 0), Words.of(5, 2));
        due.is("word(2, 0)", x.word(2, 0), Words.of(1, 1));
        due.is("mount()", x.mount(), 1);
        due.allPlanes(x, 0, Words.of(5, 2));
        due.turns(x, 80 + 1 + 1 + 80, 80 + 4 + 2 + 80 + 2);
        x.failAfter(1);
        x.post(0, 4);
        due.is("mount()", x.mount(), 1);
        due.allPlanes(x, 0, Words.of(5, 2));
        x.failAfter(2);
        x.post(0, 4);
        x.failAfter(1);
        due.is("mount(), losing the only new word", x.mount(), OFF);
        due.is("mount()", x.mount(), 1);
        due.allPlanes(x, 0, Words.of(5, 2));
        x.failAfter(2);
        x.post(0, 4);
        x.failAfter(9);
        due.is("mount(), failing in its repair", x.mount(), OFF);
        due.is("word(0, 0)", x.word(0, 0), Words.of(9, 3));
        due.is("word(1, 0)", x.word(1, 0), Words.of(9, 3));
        due.is("word(2, 0)", x.word(2, 0), Words.of(5, 2));
        due.is("mount()", x.mount(), 1);
        due.allPlanes(x, 0, Words.of(9, 3));
        due.loseCell(x, 0);
        due.allPlanes(x, 0, 0);
        int writes = x.done(1);
        due.is("mount() with a lost cell", x.mount(), 1);
        due.is("done(1)", x.done(1), writes + 80);
        x.failAfter(159);
        due.is("mount(), power on, a number told", x.mount(), OFF);
        due.is("word(3, 19)", x.word(3, 19), 0);
        due.is("word(2, 19)", x.word(2, 19), Words.of(0, 0));
    }

    private static void mountFinishesSlip() {
        for (int turn = 0; turn < 34; turn++) {
            Ledger x = new Ledger();
            x.open(6, 20);
            x.open(11, 30);
            x.failAfter(turn);
            x.transfer(6, 11, 9);
            int reads = x.done(0);
            due.is("mount()", x.mount(), 1);
            due.is("done(0)", x.done(0), reads + 80);
            boolean moved = turn > 18;
            due.allPlanes(x, 6, moved ? Words.of(11, 2) : Words.of(20, 1));
            due.allPlanes(x, 11, moved ? Words.of(39, 2) : Words.of(30, 1));
            due.allPlanes(x, 19, moved ? Words.of(131072 + 6 * 256 + 11, 1) : Words.of(0, 0));
        }
        Ledger y = pendingAfterSlip();
        int writes = y.done(1);
        y.failAfter(166);
        due.is("mount(), failing while it finishes", y.mount(), OFF);
        due.is("done(1)", y.done(1), writes + 86);
        due.allPlanes(y, 6, Words.of(11, 2));
        due.is("word(1, 11)", y.word(1, 11), Words.of(39, 2));
        due.is("word(2, 11)", y.word(2, 11), Words.of(30, 1));
        due.is("mount()", y.mount(), 1);
        due.is("done(1)", y.done(1), writes + 86 + 80 + 2 + 4);
        due.allPlanes(y, 11, Words.of(39, 2));
        due.allPlanes(y, 19, Words.of(131072 + 6 * 256 + 11, 1));

        Ledger z = pendingAfterSlip();
        due.wearCell(z, 6, 4);
        due.is("mount() with the first account lost", z.mount(), 1);
        due.allPlanes(z, 6, 0);
        due.allPlanes(z, 11, Words.of(39, 2));
        due.allPlanes(z, 19, Words.of(131072 + 6 * 256 + 11, 1));

        Ledger v = pendingAfterSlip();
        due.wearCell(v, 18, 4);
        due.is("mount() with a slip's cell lost", v.mount(), 1);
        due.allPlanes(v, 6, Words.of(20, 1));
        due.allPlanes(v, 11, Words.of(30, 1));
        due.allPlanes(v, 19, Words.of(65536 + 6 * 256 + 11, 1));
    }

    private static void on() {
        due.part("promise 11");
        Ledger x = new Ledger();
        due.is("on()", x.on(), true);
        x.fail();
        due.is("on()", x.on(), false);
        x.failAfter(7);
        due.is("on()", x.on(), false);
        x.mount();
        due.is("on()", x.on(), false);
        x.mount();
        due.is("on()", x.on(), true);
        x.failAfter(2);
        x.balance(0);
        due.is("on() when as many turns were done", x.on(), true);
        x.balance(0);
        due.is("on()", x.on(), false);
    }

    private static void lost() {
        due.part("promise 12");
        Ledger x = new Ledger();
        x.failAfter(1);
        x.balance(1);
        due.is("lost(1) before a mount", x.lost(1), 0);
        x.failAfter(14);
        due.is("mount(), failing at the fourth read", x.mount(), OFF);
        due.is("lost(1)", x.lost(1), 0);
        x.failAfter(15);
        due.is("mount(), failing behind the fourth read", x.mount(), OFF);
        due.is("lost(1)", x.lost(1), 1);
        due.is("lost(0)", x.lost(0), 0);
        x.failAfter(11);
        due.is("mount()", x.mount(), OFF);
        due.is("lost(1) of the mount before", x.lost(1), 1);
        due.is("mount()", x.mount(), 1);
        due.is("lost(1)", x.lost(1), 3);
        due.is("lost(2)", x.lost(2), 0);
        x.open(1, 5);
        due.is("lost(1)", x.lost(1), 3);
        x.mount();
        due.is("lost(1)", x.lost(1), 0);
        due.loseCell(x, 19);
        due.is("lost(19)", x.lost(19), 4);
        for (int none : new int[] {-1, 20, MAX, MIN}) {
            due.answers("lost(" + none + ")", () -> x.lost(none), 0);
        }
    }

    private static void word() {
        due.part("promise 13");
        Ledger x = new Ledger();
        x.open(5, -3);
        x.failAfter(1);
        x.balance(5);
        due.is("word(0, 5)", x.word(0, 5), 0);
        due.is("word(3, 5)", x.word(3, 5), Words.of(-3, 1));
        due.is("word(3, 5) again", x.word(3, 5), Words.of(-3, 1));
        due.turns(x, 2, 4);
        for (int none : new int[] {-1, 4, 5, MAX, MIN}) {
            due.answers("word(" + none + ", 5)", () -> x.word(none, 5), 0);
        }
        for (int none : new int[] {-1, 20, 21, MAX, MIN}) {
            due.answers("word(1, " + none + ")", () -> x.word(1, none), 0);
        }
        Ledger y = new Ledger();
        y.open(0, -1);
        due.is("word with a sum above 251", y.word(0, 0), Words.of(-1, 1));
        y.open(1, 250);
        due.is("word with a sum of 251", y.word(2, 1) & 255, 1);
        y.open(2, 249);
        due.is("word with a sum of 250", y.word(2, 2) & 255, 251);
    }

    private static void done() {
        due.part("promise 14");
        Ledger x = new Ledger();
        x.open(0, 9);
        due.is("done(0)", x.done(0), 1);
        due.is("done(1)", x.done(1), 4);
        x.failAfter(1);
        x.post(0, 1);
        x.post(0, 1);
        due.is("done(0), the turn that failed is not done", x.done(0), 2);
        due.is("done(1)", x.done(1), 4);
        x.mount();
        due.is("done(0)", x.done(0), 82);
        due.is("done(1)", x.done(1), 85);
        for (int none : new int[] {-1, 2, MAX, MIN}) {
            due.answers("done(" + none + ")", () -> x.done(none), NONE);
        }
    }

    private interface OfAccount {
        long ask(int account);
    }

    private interface OfLedger {
        long ask(Ledger ledger, int account);
    }

    private static void noAccount(String call, OfAccount asked, long want) {
        for (int none : NO_ACCOUNTS) {
            due.answers(call + "(" + none + ")", () -> asked.ask(none), want);
        }
    }

    private static void noTurn(String call, OfLedger asked, long want) {
        Ledger x = new Ledger();
        x.failAfter(0);
        due.is(call + " of no account", asked.ask(x, 16), want);
        due.is("on()", x.on(), true);
        x.fail();
        due.is(call + " of no account, power off", asked.ask(x, -1), want);
        due.turns(x, 0, 0);
    }

    private static void lostAccount(String call, OfLedger asked, long want) {
        Ledger x = new Ledger();
        due.loseCell(x, 2);
        due.leaves(x, 1, call + " of a lost account", () -> asked.ask(x, 2), want);
    }

    private static void refusedAfterLooking(Ledger x, int from, int to, int amount) {
        due.leaves(x, 3, "transfer(" + from + ", " + to + ", " + amount + ")", () -> x.transfer(from, to, amount), NONE);
    }

    private static void refusedAtOnce(Ledger x, int from, int to, int amount) {
        due.leaves(x, 0, "transfer(" + from + ", " + to + ", " + amount + ")", () -> x.transfer(from, to, amount), NONE);
    }

    /** A ledger with power off whose slip is written and whose accounts are not. */
    private static Ledger pendingAfterSlip() {
        Ledger x = new Ledger();
        x.open(6, 20);
        x.open(11, 30);
        x.failAfter(22);
        x.transfer(6, 11, 9);
        return x;
    }
}
