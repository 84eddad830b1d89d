import java.util.function.LongSupplier;

/** What is due of a ledger as a whole: its turns, its words, a call that leaves it as it is. */
final class LedgerDue extends Due {
    void turns(Ledger x, int reads, int writes) {
        is("done(0)", x.done(0), reads);
        is("done(1)", x.done(1), writes);
    }

    void allPlanes(Ledger x, int cell, long want) {
        for (int plane = 0; plane < 4; plane++) {
            is("word(" + plane + ", " + cell + ")", x.word(plane, cell), want);
        }
    }

    void sameWords(String call, Ledger x, long[][] want) {
        for (int plane = 0; plane < 4; plane++) {
            for (int cell = 0; cell < 20; cell++) {
                is(call + ": word(" + plane + ", " + cell + ")", x.word(plane, cell), want[plane][cell]);
            }
        }
    }

    /** A call that answers as due, does so many looks and leaves everything else as it is. */
    void leaves(Ledger x, int looks, String call, LongSupplier run, long want) {
        long[][] words = wordsOf(x);
        int reads = x.done(0);
        int writes = x.done(1);
        boolean on = x.on();
        int[] lost = new int[20];
        for (int cell = 0; cell < 20; cell++) {
            lost[cell] = x.lost(cell);
        }
        answers(call, run, want);
        turns(x, reads + looks, writes + looks);
        sameWords(call, x, words);
        is(call + ": on()", x.on(), on);
        for (int cell = 0; cell < 20; cell++) {
            is(call + ": lost(" + cell + ")", x.lost(cell), lost[cell]);
        }
    }

    /** So many mounts, each failing when it has read the cell on one plane more. */
    void wearCell(Ledger x, int cell, int planes) {
        x.fail();
        for (int plane = 0; plane < planes; plane++) {
            x.failAfter(8 * cell + 2 * plane + 1);
            is("mount() to wear a cell", x.mount(), FadeLedger.OFF);
        }
    }

    void loseCell(Ledger x, int cell) {
        wearCell(x, cell, 4);
        is("mount() behind it", x.mount(), 1);
        is("lost(" + cell + ")", x.lost(cell), 4);
    }

    static long[][] wordsOf(Ledger x) {
        long[][] words = new long[4][20];
        for (int plane = 0; plane < 4; plane++) {
            for (int cell = 0; cell < 20; cell++) {
                words[plane][cell] = x.word(plane, cell);
            }
        }
        return words;
    }
}
