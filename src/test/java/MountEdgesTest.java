/** The edges that promises 10 and 12 to 14 name, each sentence by a test of its own. */
public final class MountEdgesTest {
    private static final int NONE = FadeLedger.NONE;
    private static final int OFF = FadeLedger.OFF;
    private static final int MAX = Integer.MAX_VALUE;
    private static final int MIN = Integer.MIN_VALUE;
    private static final int PENDING = 65536 + 3 * 256 + 12;
    private static final int FINISHED = 131072 + 3 * 256 + 12;
    /** The turns of a transfer until its slip is whole on all planes, and those of a mount before it finishes one. */
    private static final int SLIP_TURNS = 22;
    private static final int MOUNT_TURNS = 160;

    private static final LedgerDue due = new LedgerDue();

    private MountEdgesTest() {
    }

    public static void main(String[] args) {
        turnsPowerOn();
        cellByCellPlaneByPlane();
        repairsInOrder();
        repairsOnlyOtherWords();
        withoutABestOne();
        slipCellNotValid();
        slipNumbersDiffer();
        slipBitIsZero();
        slipOfEndsAndLeastAmounts();
        accountsNumberNotBelow();
        accountsLost();
        finishingInOrder();
        noFurtherReads();
        mountWithPowerOn();
        lostBeforeAny();
        lostFromNoneToFour();
        lostNeedsAllFourReads();
        lostOfTheLatestMount();
        lostNoSuchCell();
        wordAsItIs();
        wordNoneSuch();
        doneCountsTurnsDone();
        doneAnotherWhat();
        due.end();
    }

    private static void turnsPowerOn() {
        due.part("promise 10: Power is on");
        Ledger x = new Ledger();
        x.fail();
        due.is("mount()", x.mount(), 1);
        due.is("on()", x.on(), true);
        due.is("total()", x.total(), 0);
    }

    private static void cellByCellPlaneByPlane() {
        due.part("promise 10: plane by plane its word is read and what was read written back there");
        for (int turns = 0; turns <= MOUNT_TURNS; turns++) {
            Ledger x = new Ledger();
            for (int account = 0; account < 16; account++) {
                x.open(account, 100 + account);
            }
            long[][] want = LedgerDue.wordsOf(x);
            if (turns % 2 == 1) {
                want[turns / 2 % 4][turns / 8] = 0;
            }
            x.failAfter(turns);
            due.is("mount()", x.mount(), turns == MOUNT_TURNS ? 1 : OFF);
            due.sameWords("mount() with " + turns + " turns", x, want);
            due.turns(x, 16 + (turns + 1) / 2, 64 + turns / 2);
        }
    }

    private static void repairsInOrder() {
        due.part("promise 10: the best of the four is written to each plane, in order, that had another word");
        for (int planes = 1; planes <= 3; planes++) {
            for (int repairs = 0; repairs <= 4 - planes; repairs++) {
                Ledger x = new Ledger();
                x.open(0, 8);
                x.failAfter(1 + planes);
                due.is("post(0, -5)", x.post(0, -5), OFF);
                x.failAfter(8 + repairs);
                due.is("mount()", x.mount(), OFF);
                for (int plane = 0; plane < 4; plane++) {
                    long want = plane < planes + repairs ? Words.of(3, 2) : Words.of(8, 1);
                    due.is("word(" + plane + ", 0)", x.word(plane, 0), want);
                }
            }
        }
    }

    private static void repairsOnlyOtherWords() {
        due.part("promise 10: .. that had another word, and no other plane");
        for (int planes = 0; planes <= 3; planes++) {
            Ledger x = new Ledger();
            x.open(9, 8);
            due.wearCell(x, 9, planes);
            int writes = x.done(1);
            x.fail();
            due.is("mount()", x.mount(), 1);
            due.is("done(1)", x.done(1), writes + 80 + planes);
            due.allPlanes(x, 9, Words.of(8, 1));
        }
    }

    private static void withoutABestOne() {
        due.part("promise 10: without a best one nothing is written");
        for (int cell : new int[] {0, 15, 16, 19}) {
            Ledger x = new Ledger();
            due.wearCell(x, cell, 4);
            int writes = x.done(1);
            due.is("mount()", x.mount(), 1);
            due.is("done(1)", x.done(1), writes + 80);
            due.allPlanes(x, cell, 0);
        }
    }

    private static void slipCellNotValid() {
        due.part("promise 10: if cells 16 to 19 are all valid");
        for (int cell = 16; cell < 20; cell++) {
            Ledger x = pending(SLIP_TURNS);
            due.wearCell(x, cell, 4);
            int writes = x.done(1);
            due.is("mount()", x.mount(), 1);
            due.is("done(1)", x.done(1), writes + 80);
            accounts(x, Words.of(50, 1), Words.of(7, 2));
            due.allPlanes(x, cell, 0);
            due.is("mount()", x.mount(), 1);
            accounts(x, Words.of(50, 1), Words.of(7, 2));
        }
        for (int cell = 16; cell < 20; cell++) {
            Ledger x = pending(SLIP_TURNS);
            due.wearCell(x, cell, 3);
            due.is("mount(), one word of the cell left", x.mount(), 1);
            accounts(x, Words.of(20, 2), Words.of(37, 3));
        }
    }

    private static void slipNumbersDiffer() {
        due.part("promise 10: and have the same number");
        for (int turns = 6; turns <= SLIP_TURNS; turns++) {
            Ledger x = pending(turns);
            due.is("mount()", x.mount(), 1);
            boolean whole = turns > 18;
            accounts(x, whole ? Words.of(20, 2) : Words.of(50, 1), whole ? Words.of(37, 3) : Words.of(7, 2));
            due.allPlanes(x, 16, turns > 6 ? Words.of(30, 1) : Words.of(0, 0));
            due.allPlanes(x, 17, turns > 10 ? Words.of(2, 1) : Words.of(0, 0));
            due.allPlanes(x, 18, turns > 14 ? Words.of(3, 1) : Words.of(0, 0));
            due.allPlanes(x, 19, whole ? Words.of(FINISHED, 1) : Words.of(0, 0));
        }
        Ledger y = pending(SLIP_TURNS);
        due.wearCell(y, 17, 4);
        due.is("mount(), the slip is left pending", y.mount(), 1);
        y.failAfter(18);
        due.is("transfer(12, 3, 1), failing before cell 19", y.transfer(12, 3, 1), OFF);
        due.is("mount(), 19 has the number before", y.mount(), 1);
        accounts(y, Words.of(50, 1), Words.of(7, 2));
        due.allPlanes(y, 16, Words.of(1, 2));
        due.allPlanes(y, 19, Words.of(PENDING, 1));
    }

    private static void slipBitIsZero() {
        due.part("promise 10: and bit 16 of the balance of 19 is 1");
        Ledger x = new Ledger();
        due.is("mount(), no slip yet", x.mount(), 1);
        due.turns(x, 80, 80);
        x.open(3, 50);
        x.open(12, 7);
        due.is("transfer(3, 12, 30)", x.transfer(3, 12, 30), 1);
        int writes = x.done(1);
        due.is("mount(), the slip is done", x.mount(), 1);
        due.is("done(1)", x.done(1), writes + 80);
        accounts(x, Words.of(20, 2), Words.of(37, 2));
        due.allPlanes(x, 19, Words.of(FINISHED, 1));
    }

    private static void slipOfEndsAndLeastAmounts() {
        due.part("promise 10: with two accounts' numbers in bits 8 .. 15 and 0 .. 7 that there are");
        for (int amount : new int[] {0, 1, MAX}) {
            for (int first : new int[] {0, 15}) {
                Ledger x = new Ledger();
                x.open(first, amount);
                x.open(15 - first, 0);
                x.failAfter(SLIP_TURNS);
                due.is("transfer", x.transfer(first, 15 - first, amount), OFF);
                due.is("mount()", x.mount(), 1);
                due.allPlanes(x, first, Words.of(0, 2));
                due.allPlanes(x, 15 - first, Words.of(amount, 2));
                due.allPlanes(x, 19, Words.of(131072 + first * 256 + 15 - first, 1));
            }
        }
    }

    private static void accountsNumberNotBelow() {
        due.part("promise 10: if its number is below the balance of 17, of 18");
        for (int turns = SLIP_TURNS; turns < 34; turns++) {
            Ledger x = pending(turns);
            int writes = x.done(1);
            due.is("mount()", x.mount(), 1);
            accounts(x, Words.of(20, 2), Words.of(37, 3));
            due.allPlanes(x, 19, Words.of(FINISHED, 1));
            due.is("done(1)", x.done(1), writes + 80 + finishingWrites(turns));
        }
    }

    /** The repairs, and the puts of the accounts that have the old number on all planes and of an unfinished 19. */
    private static int finishingWrites(int turns) {
        int written = (turns - SLIP_TURNS) % 4;
        int repairs = written == 0 ? 0 : 4 - written;
        int accountPuts = turns <= 22 ? 2 : turns <= 26 ? 1 : 0;
        int slipPuts = turns <= 30 ? 1 : 0;
        return repairs + 4 * (accountPuts + slipPuts);
    }

    private static void accountsLost() {
        due.part("promise 10: (if it is lost nothing is put); then cell 19 is put");
        for (int lost = 1; lost <= 3; lost++) {
            boolean first = lost % 2 == 1;
            boolean second = lost / 2 == 1;
            Ledger x = pending(SLIP_TURNS);
            if (first) {
                due.wearCell(x, 3, 4);
            }
            if (second) {
                due.wearCell(x, 12, 4);
            }
            int writes = x.done(1);
            due.is("mount()", x.mount(), 1);
            accounts(x, first ? 0 : Words.of(20, 2), second ? 0 : Words.of(37, 3));
            due.allPlanes(x, 19, Words.of(FINISHED, 1));
            due.is("done(1)", x.done(1), writes + 80 + 4 + (first ? 0 : 4) + (second ? 0 : 4));
        }
    }

    private static void finishingInOrder() {
        due.part("promise 10: of the first account and then the second one .. then cell 19; OFF if power fails meanwhile");
        int[] cells = {3, 12, 19};
        long[] words = {Words.of(20, 2), Words.of(37, 3), Words.of(FINISHED, 1)};
        for (int writes = 0; writes <= 12; writes++) {
            Ledger x = pending(SLIP_TURNS);
            long[][] want = LedgerDue.wordsOf(x);
            for (int i = 0; i < writes; i++) {
                want[i % 4][cells[i / 4]] = words[i / 4];
            }
            x.failAfter(MOUNT_TURNS + writes);
            due.is("mount()", x.mount(), writes < 12 ? OFF : 1);
            due.is("on()", x.on(), writes == 12);
            due.sameWords("mount() with " + writes + " writes of the finish", x, want);
            x.fail();
            due.is("mount()", x.mount(), 1);
            accounts(x, words[0], words[1]);
            due.allPlanes(x, 19, words[2]);
        }
    }

    private static void noFurtherReads() {
        due.part("promise 10: no further reads are done");
        Ledger x = pending(SLIP_TURNS);
        int reads = x.done(0);
        due.is("mount()", x.mount(), 1);
        due.is("done(0)", x.done(0), reads + 80);
    }

    private static void mountWithPowerOn() {
        due.part("promise 10: A new mount can be done also with power on");
        Ledger x = new Ledger();
        x.open(3, 50);
        due.leaves(x, 80, "mount()", x::mount, 1);
        due.leaves(x, 80, "mount()", x::mount, 1);
        due.is("balance(3)", x.balance(3), 50);
        x.failAfter(25);
        due.is("mount(), failing in cell 3", x.mount(), OFF);
        due.is("on()", x.on(), false);
        due.is("word(0, 3)", x.word(0, 3), 0);
    }

    private static void lostBeforeAny() {
        due.part("promise 12: 0 before any");
        Ledger x = new Ledger();
        x.failAfter(1);
        x.number(2);
        for (int cell = 0; cell < 20; cell++) {
            due.is("lost(" + cell + ")", x.lost(cell), 0);
        }
        x.failAfter(0);
        due.is("mount(), without a turn", x.mount(), OFF);
        due.is("lost(2)", x.lost(2), 0);
    }

    private static void lostFromNoneToFour() {
        due.part("promise 12: How many planes had no valid word of a cell");
        for (int planes = 0; planes <= 4; planes++) {
            for (int cell = 0; cell < 20; cell++) {
                Ledger x = new Ledger();
                due.wearCell(x, cell, planes);
                due.is("mount()", x.mount(), 1);
                for (int other = 0; other < 20; other++) {
                    due.is("lost(" + other + ")", x.lost(other), other == cell ? planes : 0);
                }
            }
        }
    }

    private static void lostNeedsAllFourReads() {
        due.part("promise 12: in the latest mount that read it on all four");
        for (int turns = 0; turns < 16; turns++) {
            Ledger x = new Ledger();
            x.failAfter(1);
            x.number(1);
            x.failAfter(turns);
            due.is("mount() with " + turns + " turns", x.mount(), OFF);
            due.is("lost(1)", x.lost(1), turns >= 15 ? 1 : 0);
            due.is("lost(0)", x.lost(0), 0);
        }
    }

    private static void lostOfTheLatestMount() {
        due.part("promise 12: .. the latest mount ..");
        Ledger x = new Ledger();
        due.wearCell(x, 18, 2);
        due.is("mount()", x.mount(), 1);
        due.is("lost(18)", x.lost(18), 2);
        due.is("total(), which is no mount", x.total(), 0);
        due.is("lost(18)", x.lost(18), 2);
        x.failAfter(150);
        due.is("mount(), failing at the cell's fourth read", x.mount(), OFF);
        due.is("lost(18)", x.lost(18), 2);
        x.failAfter(151);
        due.is("mount(), failing behind it", x.mount(), OFF);
        due.is("lost(18)", x.lost(18), 0);
        due.is("mount()", x.mount(), 1);
        due.is("lost(18)", x.lost(18), 1);
        due.is("mount(), the cell being whole", x.mount(), 1);
        due.is("lost(18)", x.lost(18), 0);
    }

    private static void lostNoSuchCell() {
        due.part("promise 12: 0 .. if there is no such cell");
        Ledger x = new Ledger();
        due.loseCell(x, 0);
        due.loseCell(x, 19);
        due.is("lost(19) of a mount behind", x.lost(19), 4);
        for (int cell : new int[] {-1, -20, 20, 21, 80, MAX, MIN}) {
            due.leaves(x, 0, "lost(" + cell + ")", () -> x.lost(cell), 0);
        }
    }

    private static void wordAsItIs() {
        due.part("promise 13: A plane's word of a cell, as it is (nothing is read)");
        FadeLedger x = new FadeLedger();
        x.open(5, -3);
        x.failAfter(2);
        due.is("word(0, 5)", x.word(0, 5), Words.of(-3, 1));
        due.is("word(0, 5) again", x.word(0, 5), Words.of(-3, 1));
        due.is("word(3, 19)", x.word(3, 19), 1);
        due.is("done(0)", x.done(0), 1);
        due.is("done(1)", x.done(1), 4);
        due.is("balance(5), the two turns being left", x.balance(5), -3);
        x.fail();
        due.is("word(0, 5), power off", x.word(0, 5), Words.of(-3, 1));
        due.is("lost(5)", x.lost(5), 0);
        due.is("done(0)", x.done(0), 2);
        due.is("on()", x.on(), false);
    }

    private static void wordNoneSuch() {
        due.part("promise 13: 0 if there is none such");
        Ledger x = new Ledger();
        int[] none = {-1, 20, 21, 80, MAX, MIN};
        for (int other : none) {
            for (int plane = 0; plane < 4; plane++) {
                int there = plane;
                due.answers("word(" + plane + ", " + other + ")", () -> x.word(there, other), 0);
            }
        }
        for (int plane : new int[] {-1, 4, 5, 20, MAX, MIN}) {
            for (int cell = 0; cell < 20; cell++) {
                int there = cell;
                due.answers("word(" + plane + ", " + cell + ")", () -> x.word(plane, there), 0);
            }
            for (int other : none) {
                due.answers("word(" + plane + ", " + other + ")", () -> x.word(plane, other), 0);
            }
        }
    }

    private static void doneCountsTurnsDone() {
        due.part("promise 14: How many reads (what 0), writes (1) were done");
        Ledger x = new Ledger();
        due.turns(x, 0, 0);
        x.failAfter(1);
        due.is("open(0, 1), its write is not done", x.open(0, 1), OFF);
        due.turns(x, 1, 0);
        due.is("open(0, 1), power off", x.open(0, 1), OFF);
        due.turns(x, 1, 0);
        x.mount();
        due.turns(x, 81, 81);
        x.failAfter(0);
        due.is("number(0), its read is not done", x.number(0), OFF);
        due.turns(x, 81, 81);
    }

    private static void doneAnotherWhat() {
        due.part("promise 14: NONE for another what");
        Ledger x = new Ledger();
        x.open(0, 1);
        for (int what : new int[] {-1, -2, 2, 3, 256, MAX, MIN}) {
            due.leaves(x, 0, "done(" + what + ")", () -> x.done(what), NONE);
        }
    }

    private static void accounts(Ledger x, long first, long second) {
        due.allPlanes(x, 3, first);
        due.allPlanes(x, 12, second);
    }

    /** A ledger whose power failed after so many turns of a transfer of 30 from account 3 to account 12. */
    private static Ledger pending(int turns) {
        Ledger x = new Ledger();
        x.open(3, 50);
        x.open(12, 7);
        x.post(12, 0);
        x.failAfter(turns);
        due.is("transfer(3, 12, 30)", x.transfer(3, 12, 30), OFF);
        return x;
    }
}
