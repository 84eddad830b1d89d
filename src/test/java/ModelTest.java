import java.util.Random;

/** Many runs of at most 512 calls, each compared with the model: every answer, and the whole state at the end. */
public final class ModelTest {
    private static final int RUNS = 12000;
    private static final int CALLS_TO_SEE_ALL = 3 + 20 + 80;
    private static final int MOST_CALLS = 512 - CALLS_TO_SEE_ALL;
    private static final int[] AMOUNTS = {0, 1, 5, 20, -1, -7, 1000, Integer.MAX_VALUE, Integer.MIN_VALUE, 2000000000};

    private static final Due due = new Due();

    private ModelTest() {
    }

    public static void main(String[] args) {
        for (int seed = 0; seed < RUNS && !due.hasWrong(); seed++) {
            run(seed);
        }
        due.end();
    }

    private static void run(int seed) {
        Random random = new Random(seed);
        int calls = 1 + random.nextInt(seed % 2 == 0 ? MOST_CALLS : 40);
        int accounts = 2 + seed % 15;
        int failures = seed % 5;
        FadeLedger x = new FadeLedger();
        Model m = new Model();
        for (int call = 0; call < calls && !due.hasWrong(); call++) {
            due.part("seed " + seed + ", call " + call);
            int a = random.nextInt(40) == 0 ? random.nextInt(24) - 4 : random.nextInt(accounts);
            int b = random.nextInt(40) == 0 ? random.nextInt(24) - 4 : random.nextInt(accounts);
            int amount = random.nextInt(3) == 0 ? AMOUNTS[random.nextInt(AMOUNTS.length)] : random.nextInt(30);
            if (random.nextInt(8) < failures) {
                int turns = random.nextInt(random.nextBoolean() ? 40 : 200) - 1;
                due.is("failAfter(" + turns + ")", x.failAfter(turns) ? 1 : 0, m.failAfter(turns));
            } else if (!m.on && random.nextInt(3) > 0) {
                due.is("mount()", x.mount(), m.mount());
            } else if (random.nextInt(6) == 0) {
                seeOne(x, m, random.nextInt(4), random.nextInt(4), random.nextInt(20));
            } else {
                oneCall(x, m, random.nextInt(16), a, b, amount);
            }
        }
        seeAll(x, m);
    }

    private static void oneCall(FadeLedger x, Model m, int kind, int a, int b, int amount) {
        String arguments = "(" + a + ", " + b + ", " + amount + ")";
        switch (kind) {
            case 0, 1 -> due.is("open" + arguments, x.open(a, amount), m.open(a, amount));
            case 2 -> due.is("balance" + arguments, x.balance(a), m.balance(a));
            case 3, 4, 5 -> due.is("post" + arguments, x.post(a, amount), m.post(a, amount));
            case 6, 7, 8, 9, 10, 11 -> due.is("transfer" + arguments, x.transfer(a, b, amount), m.transfer(a, b, amount));
            case 12 -> due.is("total()", x.total(), m.total());
            case 13 -> due.is("number" + arguments, x.number(a), m.number(a));
            case 14 -> due.is("mount()", x.mount(), m.mount());
            default -> due.is("fail()", x.fail() ? 1 : 0, m.fail());
        }
    }

    private static void seeOne(FadeLedger x, Model m, int kind, int plane, int cell) {
        switch (kind) {
            case 0 -> due.is("on()", x.on(), m.on);
            case 1 -> due.is("done(" + plane % 2 + ")", x.done(plane % 2), plane % 2 == 0 ? m.reads : m.writes);
            case 2 -> due.is("lost(" + cell + ")", x.lost(cell), m.lost[cell]);
            default -> due.is("word(" + plane + ", " + cell + ")", x.word(plane, cell), m.planes[plane][cell]);
        }
    }

    private static void seeAll(FadeLedger x, Model m) {
        seeOne(x, m, 0, 0, 0);
        seeOne(x, m, 1, 0, 0);
        seeOne(x, m, 1, 1, 0);
        for (int cell = 0; cell < 20; cell++) {
            seeOne(x, m, 2, 0, cell);
            for (int plane = 0; plane < 4; plane++) {
                seeOne(x, m, 3, plane, cell);
            }
        }
    }
}
