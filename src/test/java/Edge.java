import java.util.function.Supplier;
import java.util.function.ToIntFunction;

/** Asks at the ends of what a number may be, and looks whether a refused call changed anything. */
final class Edge {
    /** A call of several numbers, so that one of them can be moved past its end. */
    interface Call {
        int on(IronCampaign x, int... numbers);
    }

    private Edge() {
    }

    /** Number which of the good ones may be low .. high: both ends are taken, what lies outside is BAD. */
    static void range(String name, Call call, int[] good, int which, int low, int high) {
        for (int end : new int[] {low, high}) {
            int answer = call.on(Scenes.busy(), with(good, which, end));
            Due.holds(told(name, which, end) + " is taken, not " + answer, answer >= 0);
        }
        for (int beyond : new int[] {low - 1, high + 1, Integer.MIN_VALUE, Integer.MAX_VALUE}) {
            int[] numbers = with(good, which, beyond);
            refused(told(name, which, beyond), Scenes::busy, x -> call.on(x, numbers), IronCampaign.BAD);
        }
    }

    /** The call answers as told, and the object then goes on as its twin that was never asked. */
    static void refused(String name, Supplier<IronCampaign> scene, ToIntFunction<IronCampaign> call, int want) {
        IronCampaign asked = scene.get();
        Due.is(name, call.applyAsInt(asked), want);
        sameFromNowOn(name, asked, scene.get());
    }

    /** Compares what the digest tells, and then, by some sixty calls more, what it does not tell. */
    static void sameFromNowOn(String after, IronCampaign x, IronCampaign twin) {
        Due.is("digest() after " + after, x.digest(), twin.digest());
        comparePlans(after, x, twin);
        Due.is("sale() after " + after, x.sale(), twin.sale());
        int last = twin.count(0) - 1;
        Due.is("when(" + last + ") after " + after, x.when(last), twin.when(last));
        for (int kind = 0; kind < 4; kind++) {
            Due.is("RICHNESS of " + kind + " after " + after, x.rich(kind, 50 + kind), twin.rich(kind, 50 + kind));
        }
        compareTicks(after, x, twin);
        Due.is("tap() after " + after, x.tap(), twin.tap());
        Due.is("sell() after " + after, x.sell(), twin.sell());
        Due.is("RULES after " + after, x.unrule(), twin.unrule());
        Due.is("tick(50) after " + after, x.tick(50), twin.tick(50));
        Due.is("digest() long after " + after, x.digest(), twin.digest());
    }

    private static void comparePlans(String after, IronCampaign x, IronCampaign twin) {
        for (int i = 0; i < 7; i++) Due.is("paceAt(" + i + ") after " + after, x.paceAt(i), twin.paceAt(i));
        for (int m = 0; m < 12; m++) {
            String month = " of month " + m + " after " + after;
            Due.is("WATER" + month, x.plan(m, 1, 10000, 10000), twin.plan(m, 1, 10000, 10000));
            Due.is("WOOD" + month, x.plan(m, 1, 10000, 0), twin.plan(m, 1, 10000, 0));
        }
        Due.is("plan of nothing after " + after, x.plan(0, 1, 0, 0), twin.plan(0, 1, 0, 0));
        for (int p = 1; p < 5; p++) comparePace(after, x, twin, p, 40 * p, 10 * p);
    }

    /** In the MONTHS of Scenes.busy so much WEAR and COAL is just enough for the PACE. */
    private static void comparePace(String after, IronCampaign x, IronCampaign twin, int p, int wear, int coal) {
        String pace = " of PACE " + p + " after " + after;
        Due.is("IRON" + pace, x.plan(p, 1, wear, coal), twin.plan(p, 1, wear, coal));
        Due.is("WEAR" + pace, x.plan(p, 1, wear - 1, 10000), twin.plan(p, 1, wear - 1, 10000));
        Due.is("COAL" + pace, x.plan(p, 1, 10000, coal - 1), twin.plan(p, 1, 10000, coal - 1));
    }

    private static void compareTicks(String after, IronCampaign x, IronCampaign twin) {
        for (int i = 0; i < 4; i++) {
            if (i < 2) Due.is("charge() after " + after, x.charge(20, i, 30, 3), twin.charge(20, i, 30, 3));
            Due.is("tick(1) after " + after, x.tick(1), twin.tick(1));
            Due.is("digest() of TICK " + i + " after " + after, x.digest(), twin.digest());
        }
    }

    private static int[] with(int[] good, int which, int value) {
        int[] numbers = good.clone();
        numbers[which] = value;
        return numbers;
    }

    private static String told(String name, int which, int value) {
        return name + " with number " + which + " as " + value;
    }
}
