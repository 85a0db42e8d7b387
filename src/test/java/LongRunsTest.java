/** All promises, in long runs of mixed calls, each answer against PlainCampaign's. The runs are always the same. */
public final class LongRunsTest {
    private static final int[] EDGES = {Integer.MIN_VALUE, -2, -1, 0, 1, 2, 3, 4, 5, 6, 7, 8, 9, 10, 11, 12, 13, 15, 16,
        20, 21, 30, 31, 50, 51, 59, 60, 61, 100, 400, 500, 501, 1000, 1001, 2000, 2001, 10000, 10001, 100000, 100001,
        Integer.MAX_VALUE};
    private static final int CALLS_OF_AN_OBJECT = 512;

    private final IronCampaign x = new IronCampaign();
    private final PlainCampaign y = new PlainCampaign();
    private long state;
    private int calls = 0;

    private LongRunsTest(long seed) {
        state = seed;
    }

    public static void main(String[] args) {
        for (int run = 0; run < 150 && Due.wrongSoFar() < 20; run++) new LongRunsTest(1000 + run).workTheFurnace();
        for (int run = 0; run < 60 && Due.wrongSoFar() < 20; run++) new LongRunsTest(2000 + run).sellPigs();
        for (int run = 0; run < 60 && Due.wrongSoFar() < 20; run++) new LongRunsTest(3000 + run).planMonths();
        for (int run = 0; run < 150 && Due.wrongSoFar() < 20; run++) new LongRunsTest(4000 + run).askAtTheEdges();
        for (int run = 0; run < 10 && Due.wrongSoFar() < 20; run++) new LongRunsTest(5000 + run).goToTheLimits();
        Due.end();
    }

    /** A number from low to high, from a fixed sequence. */
    private int pick(int low, int high) {
        state = state * 6364136223846793005L + 1442695040888963407L;
        return low + (int) ((state >>> 33) % (high - low + 1));
    }

    private boolean goesOn() {
        return calls < CALLS_OF_AN_OBJECT - 8;
    }

    private void compare(String call, long got, long want) {
        calls++;
        Due.is(call + " as call " + calls, got, want);
    }

    private void ask(int which, int a, int b, int c, int d) {
        String with = " with " + a + ", " + b + ", " + c + ", " + d;
        boolean above = (b & 1) == 0;
        switch (which) {
            case 0 -> compare("buy" + with, x.buy(a, b), y.buy(a, b));
            case 1 -> compare("rich" + with, x.rich(a, b), y.rich(a, b));
            case 2 -> compare("charge" + with, x.charge(a, b, c, d), y.charge(a, b, c, d));
            case 3 -> compare("chargeAt" + with, x.chargeAt(a, b), y.chargeAt(a, b));
            case 4 -> compare("when" + with, x.when(a), y.when(a));
            case 5 -> compare("blast" + with, x.blast(a), y.blast(a));
            case 6 -> compare("hearth" + with, x.hearth(a, b), y.hearth(a, b));
            case 7 -> compare("tick" + with, x.tick(a), y.tick(a));
            case 8 -> compare("tap" + with, x.tap(), y.tap());
            case 9 -> compare("about" + with, x.about(a), y.about(a));
            case 10 -> compare("store" + with, x.store(a), y.store(a));
            case 11 -> compare("pig" + with, x.pig(a, b), y.pig(a, b));
            case 12 -> compare("sign" + with, x.sign(a), y.sign(a));
            case 13 -> compare("lose" + with, x.lose(a, b), y.lose(a, b));
            case 14 -> compare("rule" + with, x.rule(a, above, c, d), y.rule(a, above, c, d));
            case 15 -> compare("unrule" + with, x.unrule(), y.unrule());
            case 16 -> compare("forge" + with, x.forge(a, b, c), y.forge(a, b, c));
            case 17 -> compare("sale" + with, x.sale(), y.sale());
            case 18 -> compare("sell" + with, x.sell(), y.sell());
            case 19 -> compare("month" + with, x.month(a, b, c), y.month(a, b, c));
            case 20 -> compare("pace" + with, x.pace(a, b, c, d), y.pace(a, b, c, d));
            case 21 -> compare("plan" + with, x.plan(a, b, c, d), y.plan(a, b, c, d));
            case 22 -> compare("paceAt" + with, x.paceAt(a), y.paceAt(a));
            case 23 -> compare("count" + with, x.count(a), y.count(a));
            default -> compare("digest", x.digest(), y.digest());
        }
    }

    private void stock() {
        for (int s = 0; s < 6; s++) ask(0, s, pick(5000, 10000), 0, 0);
    }

    private void heat() {
        stock();
        ask(6, pick(5, 500), 100000, 0, 0);
        ask(5, 20, 0, 0, 0);
        for (int i = 0; i < 3; i++) ask(2, 60, 0, 0, 0);
        ask(7, 9, 0, 0, 0);
    }

    private void workTheFurnace() {
        stock();
        if (pick(0, 1) == 0) ask(6, pick(5, 120), pick(500, 9000), 0, 0);
        ask(5, pick(8, 20), 0, 0, 0);
        while (goesOn()) {
            int act = pick(0, 19);
            if (act < 8) ask(2, pick(1, 30), pick(0, 3), pick(0, 40), pick(0, 12));
            else if (act < 12) ask(7, pick(1, 4), 0, 0, 0);
            else if (act == 12) ask(5, pick(5, 20), 0, 0, 0);
            else if (act == 13) ask(1, pick(0, 3), pick(10, 60), 0, 0);
            else if (act == 14) ask(8, 0, 0, 0, 0);
            else if (act == 15) ask(14, pick(0, 2), pick(0, 1), pick(0, 80), pick(0, 2));
            else if (act == 16) ask(13, pick(0, 2), pick(0, 5), 0, 0);
            else if (act == 17) ask(4, pick(0, y.count(0)), 0, 0, 0);
            else if (act == 18) ask(pick(0, 9) == 0 ? 15 : 9, pick(0, 11), 0, 0, 0);
            else ask(24, 0, 0, 0, 0);
        }
        ask(24, 0, 0, 0, 0);
    }

    private void sellPigs() {
        heat();
        for (int round = 0; round < 3 && goesOn(); round++) {
            int pigs = pick(1, 10);
            for (int i = 0; i < pigs; i++) {
                ask(2, pick(15, 20), pick(0, 3), pick(2, 30), pick(0, 8));
                ask(7, 1, 0, 0, 0);
                ask(8, 0, 0, 0, 0);
            }
            ask(16, pick(0, 2) == 0 ? pick(0, 15) : 15, pick(0, 40), pick(1, 6), 0);
            ask(17, 0, 0, 0, 0);
            ask(16, pick(0, 2) == 0 ? pick(0, 15) : 12, pick(0, 30), pick(1, 6), 0);
            ask(17, 0, 0, 0, 0);
            ask(18, 0, 0, 0, 0);
            for (int what = 3; what < 6; what++) ask(23, what, 0, 0, 0);
            ask(24, 0, 0, 0, 0);
        }
    }

    private void planMonths() {
        boolean few = pick(0, 1) == 0;
        for (int round = 0; round < 12; round++) {
            for (int i = 0; i < 6; i++) ask(19, pick(0, 11), pick(0, 4), pick(0, few ? 3 : 400), 0);
            for (int i = 0; i < 3; i++) {
                int most = few ? 3 : 300;
                ask(20, pick(0, 4), pick(0, most), pick(0, most), pick(0, most));
            }
            ask(21, pick(0, 11), pick(1, 6), pick(0, few ? 12 : 1000), pick(0, few ? 12 : 1000));
            for (int i = -1; i < 7; i++) ask(22, i, 0, 0, 0);
        }
    }

    private int edge() {
        return EDGES[pick(0, EDGES.length - 1)];
    }

    private void askAtTheEdges() {
        heat();
        while (goesOn()) {
            int which = pick(0, 24);
            if (which == 7 && pick(0, 3) > 0) ask(2, pick(1, 20), pick(0, 3), pick(0, 60), pick(0, 30));
            int a = pick(0, 2) == 0 ? edge() : pick(-1, 12);
            int b = pick(0, 2) == 0 ? edge() : pick(-1, 12);
            int c = pick(0, 2) == 0 ? edge() : pick(-1, 60);
            int d = pick(0, 2) == 0 ? edge() : pick(-1, 31);
            ask(which, a, b, c, d);
        }
        ask(24, 0, 0, 0, 0);
    }

    /** Toward 400 CHARGES and 60 PIGS in one object. */
    private void goToTheLimits() {
        heat();
        ask(14, 2, 0, 0, 2);
        while (goesOn()) {
            ask(2, pick(1, 3), pick(0, 3), pick(0, 3), pick(0, 3));
            if (y.about(5) > 9) ask(7, 2, 0, 0, 0);
            if (calls % 97 == 0) ask(24, 0, 0, 0, 0);
        }
        ask(24, 0, 0, 0, 0);
    }
}
