import java.util.Arrays;

/** The document written out a second time, with power failing by an exception, to compare the program with. */
final class Model {
    private static final class Dark extends RuntimeException {
        private static final long serialVersionUID = 1L;

        Dark() {
            super(null, null, false, false);
        }
    }

    private interface Body {
        long run();
    }

    final long[][] planes = new long[4][20];
    final int[] lost = new int[20];
    boolean on = true;
    long failsAfter = Long.MAX_VALUE;
    int reads;
    int writes;

    Model() {
        for (long[] plane : planes) {
            Arrays.fill(plane, Words.of(0, 0));
        }
    }

    long open(int account, int balance) {
        return none(account) ? -1 : guarded(-2, () -> {
            long w = read(0, account);
            if (Words.valid(w) && Words.number(w) == 0) {
                put(account, Words.of(balance, 1));
                return 1;
            }
            write(0, account, w);
            return -1;
        });
    }

    long balance(int account) {
        return none(account) ? 8796093022208L : guarded(4398046511104L, () -> {
            long w = look(account);
            return !Words.valid(w) ? 2199023255552L : Words.number(w) == 0 ? 1099511627776L : Words.balance(w);
        });
    }

    long post(int account, int amount) {
        return none(account) ? -1 : guarded(-2, () -> {
            long w = read(0, account);
            long sum = (long) Words.balance(w) + amount;
            if (counts(w) && Words.number(w) > 0 && sum >= Integer.MIN_VALUE && sum <= Integer.MAX_VALUE) {
                put(account, Words.of((int) sum, Words.number(w) + 1));
                return 1;
            }
            write(0, account, w);
            return -1;
        });
    }

    long transfer(int from, int to, int amount) {
        if (none(from) || none(to) || from == to || amount < 0) {
            return -1;
        }
        return guarded(-2, () -> {
            long a = look(from);
            long b = look(to);
            long s = look(16);
            long less = (long) Words.balance(a) - amount;
            long more = (long) Words.balance(b) + amount;
            if (!counts(a) || !counts(b) || !counts(s) || Words.number(a) == 0 || Words.number(b) == 0
                    || less < 0 || more < 0 || less > Integer.MAX_VALUE || more > Integer.MAX_VALUE) {
                return -1;
            }
            int n = Words.number(s) + 1;
            put(16, Words.of(amount, n));
            put(17, Words.of(Words.number(a) + 1, n));
            put(18, Words.of(Words.number(b) + 1, n));
            put(19, Words.of(from * 256 + to + 65536, n));
            put(from, Words.of((int) less, Words.number(a) + 1));
            put(to, Words.of((int) more, Words.number(b) + 1));
            put(19, Words.of(from * 256 + to + 131072, n));
            return 1;
        });
    }

    long total() {
        return guarded(4398046511104L, () -> {
            long sum = 0;
            for (int account = 0; account < 16; account++) {
                long w = look(account);
                sum += Words.valid(w) && Words.number(w) > 0 ? Words.balance(w) : 0;
            }
            return sum;
        });
    }

    long number(int account) {
        return none(account) ? -1 : guarded(-2, () -> {
            long w = look(account);
            return Words.valid(w) ? Words.number(w) : -1;
        });
    }

    long failAfter(int n) {
        if (n < 0) {
            return 0;
        }
        failsAfter = n;
        return 1;
    }

    long fail() {
        if (!on) {
            return 0;
        }
        on = false;
        failsAfter = Long.MAX_VALUE;
        return 1;
    }

    long mount() {
        on = true;
        return guarded(-2, () -> {
            long[] found = new long[20];
            for (int cell = 0; cell < 20; cell++) {
                found[cell] = mountCell(cell);
            }
            finish(found);
            return 1;
        });
    }

    private long mountCell(int cell) {
        long[] had = new long[4];
        for (int plane = 0; plane < 4; plane++) {
            had[plane] = read(plane, cell);
            if (plane == 3) {
                lost[cell] = (int) Arrays.stream(had).filter(w -> !Words.valid(w)).count();
            }
            write(plane, cell, had[plane]);
        }
        // A valid word's order is that of its number and then its balance.
        long best = Arrays.stream(had).filter(Words::valid).boxed()
                .max((v, w) -> Words.number(v) != Words.number(w) ? Integer.compare(Words.number(v), Words.number(w))
                        : Integer.compare(Words.balance(v), Words.balance(w))).orElse(0L);
        for (int plane = 0; plane < 4 && best != 0; plane++) {
            if (had[plane] != best) {
                write(plane, cell, best);
            }
        }
        return best;
    }

    private void finish(long[] found) {
        for (int cell = 16; cell < 20; cell++) {
            if (!Words.valid(found[cell]) || Words.number(found[cell]) != Words.number(found[16])) {
                return;
            }
        }
        int route = Words.balance(found[19]);
        int first = route / 256 % 256;
        int second = route % 256;
        if ((route >> 16) % 2 == 0 || none(first) || none(second)) {
            return;
        }
        int amount = Words.balance(found[16]);
        if (Words.valid(found[first]) && Words.number(found[first]) < Words.balance(found[17])) {
            put(first, Words.of(Words.balance(found[first]) - amount, Words.balance(found[17])));
        }
        if (Words.valid(found[second]) && Words.number(found[second]) < Words.balance(found[18])) {
            put(second, Words.of(Words.balance(found[second]) + amount, Words.balance(found[18])));
        }
        put(19, Words.of(131072 + first * 256 + second, Words.number(found[19])));
    }

    private long guarded(long dark, Body body) {
        try {
            return body.run();
        } catch (Dark d) {
            return dark;
        }
    }

    private void turn() {
        if (!on) {
            throw new Dark();
        }
        if (failsAfter == 0) {
            on = false;
            failsAfter = Long.MAX_VALUE;
            throw new Dark();
        }
        if (failsAfter != Long.MAX_VALUE) {
            failsAfter--;
        }
    }

    private long read(int plane, int cell) {
        turn();
        reads++;
        long w = planes[plane][cell];
        planes[plane][cell] = 0;
        return w;
    }

    private void write(int plane, int cell, long w) {
        turn();
        writes++;
        planes[plane][cell] = w;
    }

    private long look(int cell) {
        long w = read(0, cell);
        write(0, cell, w);
        return w;
    }

    private void put(int cell, long w) {
        for (int plane = 0; plane < 4; plane++) {
            write(plane, cell, w);
        }
    }

    private static boolean counts(long w) {
        return Words.valid(w) && Words.number(w) < Words.MAX_NUMBER;
    }

    private static boolean none(int account) {
        return account < 0 || account > 15;
    }
}
