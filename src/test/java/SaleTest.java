/** Promises 18 (forge), 19 (sale) and 20 (sell). */
public final class SaleTest {
    public static void main(String[] args) {
        forgeAnswersItsNumber();
        forgeRefuses();
        saleChangesNothing();
        saleTakesTheGreatestPay();
        saleKeepsToSorts();
        saleKeepsToWants();
        saleOfLikeWaysTakesTheFirst();
        saleLooksAtEightPigs();
        sellMakesWantsLess();
        sellGoesOnWithWhatIsLeft();
        sellAgainstEveryWay();
        Due.end();
    }

    /** PIGS of RICHNESS 50, so that ORE is twice the weight; a PIG that goes before takes the first CHARGES. */
    private static IronCampaign withPigs(int... weights) {
        IronCampaign x = Scenes.hot();
        x.rich(0, 50);
        for (int i = 0; i < weights.length; i++) Scenes.castPig(x, 2 * weights[i], 30);
        return x;
    }

    private static void places(IronCampaign x, int... want) {
        for (int i = 0; i < want.length; i++) Due.is("pig(" + i + ", 5)", x.pig(i, 5), want[i]);
    }

    private static void forgeAnswersItsNumber() {
        IronCampaign x = new IronCampaign();
        Due.is("forge(0, 0, 1)", x.forge(0, 0, 1), 0);
        Due.is("forge(15, 2000, 50)", x.forge(15, 2000, 50), 1);
        Due.is("FORGES", x.count(3), 2);
        Due.is("forge(7, 5, 5)", x.forge(7, 5, 5), 2);
        Due.is("a fourth", x.forge(7, 5, 5), IronCampaign.FULL);
        Due.is("BAD ahead of FULL", x.forge(16, 5, 5), IronCampaign.BAD);
        Due.is("FORGES at most", x.count(3), 3);
    }

    private static void forgeRefuses() {
        IronCampaign x = new IronCampaign();
        Due.is("sorts -1", x.forge(-1, 5, 5), IronCampaign.BAD);
        Due.is("sorts 16", x.forge(16, 5, 5), IronCampaign.BAD);
        Due.is("want -1", x.forge(1, -1, 5), IronCampaign.BAD);
        Due.is("want 2001", x.forge(1, 2001, 5), IronCampaign.BAD);
        Due.is("price 0", x.forge(1, 5, 0), IronCampaign.BAD);
        Due.is("price 51", x.forge(1, 5, 51), IronCampaign.BAD);
        Due.is("FORGES", x.count(3), 0);
    }

    private static void saleChangesNothing() {
        IronCampaign x = withPigs(5, 6);
        Due.is("no FORGE", x.sale(), 0);
        Due.is("no FORGE, sold", x.sell(), 0);
        x.forge(15, 100, 3);
        long before = x.digest();
        Due.is("sale()", x.sale(), 33);
        Due.is("sale() again", x.sale(), 33);
        Due.is("digest", x.digest(), before);
        Due.is("sell()", x.sell(), 2);
        Due.is("PIGS SOLD", x.count(4), 2);
        Due.is("paid", x.count(5), 33);
    }

    private static void saleTakesTheGreatestPay() {
        IronCampaign x = withPigs(6, 5, 5);
        x.forge(15, 10, 10);
        Due.is("two fives, not the six", x.sale(), 100);
        Due.is("sell()", x.sell(), 2);
        places(x, IronCampaign.NONE, 0, 0);

        IronCampaign y = withPigs(6, 5, 5);
        y.forge(15, 10, 2);
        y.forge(15, 6, 3);
        Due.is("six to the dearer", y.sale(), 38);
        y.sell();
        places(y, 1, 0, 0);
    }

    private static void saleKeepsToSorts() {
        IronCampaign x = withPigs(5, 6, 7);
        Due.is("SORT of the first PIG", x.pig(0, 1), 1);
        Due.is("SORT of the second PIG", x.pig(1, 1), 3);
        x.forge(8, 100, 1);
        Due.is("SORT 3 alone", x.sale(), 13);
        x.forge(2, 100, 50);
        Due.is("SORT 1 to the other", x.sale(), 13 + 250);
        x.forge(5, 100, 50);
        Due.is("SORTS 0 and 2 find nothing", x.sale(), 263);
        x.sell();
        places(x, 1, 0, 0);

        IronCampaign none = withPigs(5);
        none.forge(0, 2000, 50);
        none.forge(13, 2000, 50);
        Due.is("no FORGE takes SORT 1", none.sale(), 0);
        Due.is("none is SOLD", none.sell(), 0);
        places(none, IronCampaign.NONE);
    }

    private static void saleKeepsToWants() {
        IronCampaign x = withPigs(5, 6);
        x.forge(15, 10, 7);
        Due.is("one of weight too few", x.sale(), 42);
        IronCampaign y = withPigs(5, 6);
        y.forge(15, 11, 7);
        Due.is("just enough", y.sale(), 77);
        IronCampaign z = withPigs(5, 6);
        z.forge(15, 4, 50);
        z.forge(15, 0, 50);
        Due.is("less than the least PIG", z.sale(), 0);
    }

    private static void saleOfLikeWaysTakesTheFirst() {
        IronCampaign x = withPigs(5, 5, 5);
        x.forge(15, 5, 4);
        x.forge(15, 5, 4);
        Due.is("sale()", x.sale(), 40);
        Due.is("sell()", x.sell(), 2);
        places(x, 0, 1, IronCampaign.NONE);

        IronCampaign y = withPigs(4, 6, 10);
        y.forge(15, 10, 4);
        y.sell();
        places(y, 0, 0, IronCampaign.NONE);

        IronCampaign z = withPigs(10, 4, 6);
        z.forge(15, 10, 4);
        z.sell();
        places(z, 0, IronCampaign.NONE, IronCampaign.NONE);

        IronCampaign w = withPigs(5, 10, 5);
        w.forge(15, 10, 4);
        w.forge(15, 10, 4);
        Due.is("all of them", w.sale(), 80);
        w.sell();
        places(w, 0, 1, 0);
    }

    private static void saleLooksAtEightPigs() {
        IronCampaign x = withPigs(1, 1, 1, 1, 1, 1, 1, 1, 30, 30);
        x.forge(15, 2000, 1);
        Due.is("eight PIGS", x.sale(), 8);
        Due.is("sell()", x.sell(), 8);
        places(x, 0, 0, 0, 0, 0, 0, 0, 0, IronCampaign.NONE, IronCampaign.NONE);
        Due.is("the next two", x.sale(), 60);
        Due.is("sell() them", x.sell(), 2);
        Due.is("nothing left", x.sell(), 0);
        Due.is("PIGS SOLD", x.count(4), 10);
        Due.is("paid", x.count(5), 68);

        IronCampaign stuck = withPigs(5, 5, 5, 5, 5, 5, 5, 5, 1);
        stuck.forge(15, 4, 50);
        Due.is("the ninth is not of THE SALE", stuck.sale(), 0);
    }

    private static void sellMakesWantsLess() {
        IronCampaign x = withPigs(5, 6, 5);
        x.forge(15, 11, 2);
        Due.is("sell()", x.sell(), 2);
        places(x, 0, 0, IronCampaign.NONE);
        Due.is("nothing is wanted any more", x.sale(), 0);
        x.forge(15, 4, 9);
        Due.is("too little is wanted", x.sell(), 0);
        x.forge(15, 5, 1);
        Due.is("the last PIG", x.sell(), 1);
        places(x, 0, 0, 2);
        Due.is("paid", x.count(5), 22 + 5);
    }

    private static void sellGoesOnWithWhatIsLeft() {
        IronCampaign x = withPigs(9, 2, 9);
        x.forge(15, 5, 3);
        Due.is("sell()", x.sell(), 1);
        places(x, IronCampaign.NONE, 0, IronCampaign.NONE);
        Scenes.castPig(x, 6, 30);
        Due.is("a later PIG", x.sale(), 9);
        Due.is("sell() it", x.sell(), 1);
        places(x, IronCampaign.NONE, 0, IronCampaign.NONE, 0);
        Due.is("paid", x.count(5), 15);
    }

    /** THE SALE of eight PIGS to three FORGES against all 4 to the 8th ways, in their order. */
    private static void sellAgainstEveryWay() {
        int[] weights = {7, 3, 12, 5, 9, 4, 11, 6};
        int[] wants = {13, 17, 20};
        int[] prices = {7, 9, 5};
        int[] sorts = {10, 8, 2 + 8};
        int[] best = new int[8];
        int most = -1;
        for (int code = 0; code < 65536; code++) {
            int[] left = wants.clone();
            int pay = 0;
            for (int i = 0; i < 8 && pay >= 0; i++) {
                int f = code >> (14 - 2 * i) & 3;
                if (f == 3) continue;
                int sort = i == 0 ? 1 : 3;
                left[f] -= weights[i];
                pay = left[f] < 0 || (sorts[f] >> sort & 1) == 0 ? -1 : pay + weights[i] * prices[f];
            }
            if (pay <= most) continue;
            most = pay;
            for (int i = 0; i < 8; i++) best[i] = (code >> (14 - 2 * i) & 3) == 3 ? -1 : code >> (14 - 2 * i) & 3;
        }
        IronCampaign x = withPigs(weights);
        for (int f = 0; f < 3; f++) x.forge(sorts[f], wants[f], prices[f]);
        Due.is("sale()", x.sale(), most);
        x.sell();
        places(x, best);
    }
}
