/** FORGES and THE SALE at their ends, promises 18 to 20. Each test has its sentence above it. */
public final class SaleEdgesTest {
    private static final int BAD = IronCampaign.BAD, NONE = IronCampaign.NONE, FULL = IronCampaign.FULL;
    private static final Edge.Call FORGE = (x, a) -> x.forge(a[0], a[1], a[2]);
    private static final int[] GOOD = {7, 40, 5};

    public static void main(String[] args) {
        sortsAreNoughtToFifteen();
        wantIsNoughtToTwoThousand();
        priceIsOneToFifty();
        forgesAreNumberedFromNoughtToTwo();
        forgeIsBadAheadOfFull();
        forgeTakesItsSortsAlone();
        forgeWithoutSortsTakesNone();
        forgeGetsNoMoreThanItWants();
        forgeMayWantNothing();
        forgeMayWantTwoThousand();
        forgeMayPayTheLeastAndTheMost();
        saleOfNothingPaysNothing();
        saleIsOfTheFirstEight();
        saleLeavesSoldOnesOut();
        saleTakesTheGreatestPay();
        saleOfLikeOnesTakesTheFirstForge();
        saleOfLikeOnesPutsNoneLast();
        saleChangesNothing();
        sellTellsHowMany();
        sellLeavesForgesWithLess();
        Due.end();
    }

    /** "take SORTS (bits 0 .. 15)", "BAD" */
    private static void sortsAreNoughtToFifteen() {
        Edge.range("forge", FORGE, GOOD, 0, 0, 15);
    }

    /** "want a weight (0 .. 2000)", "BAD" */
    private static void wantIsNoughtToTwoThousand() {
        Edge.range("forge", FORGE, GOOD, 1, 0, 2000);
    }

    /** "pay a price (1 .. 50)", "BAD" */
    private static void priceIsOneToFifty() {
        Edge.range("forge", FORGE, GOOD, 2, 1, 50);
    }

    /** PIGS of so much weight; the first has SORT 1, all others 3. */
    private static IronCampaign withPigs(int... weights) {
        IronCampaign x = Scenes.hot();
        x.rich(0, 50);
        for (int weight : weights) Scenes.castPig(x, 2 * weight, 30);
        return x;
    }

    private static IronCampaign withThreeForges() {
        IronCampaign x = withPigs(5, 6, 7);
        for (int i = 0; i < 3; i++) Due.is("FORGE " + i, x.forge(15, 9, 1 + i), i);
        return x;
    }

    private static void places(IronCampaign x, int... want) {
        for (int i = 0; i < want.length; i++) Due.is("pig(" + i + ", 5)", x.pig(i, 5), want[i]);
    }

    /** "FORGES 0 .. 2, as they come", "its number", "FULL: 3." */
    private static void forgesAreNumberedFromNoughtToTwo() {
        Due.is("FORGES", withThreeForges().count(3), 3);
        Edge.refused("a fourth", SaleEdgesTest::withThreeForges, x -> x.forge(15, 2000, 50), FULL);
        IronCampaign x = new IronCampaign();
        Due.is("a refused one", x.forge(16, 1, 1), BAD);
        Due.is("takes no number", x.forge(15, 1, 1), 0);
    }

    /** "Refused .. the first of: BAD -2 ..; FULL -4" */
    private static void forgeIsBadAheadOfFull() {
        Edge.refused("SORTS 16, a fourth", SaleEdgesTest::withThreeForges, x -> x.forge(16, 1, 1), BAD);
        Edge.refused("want 2001, a fourth", SaleEdgesTest::withThreeForges, x -> x.forge(1, 2001, 1), BAD);
        Edge.refused("price 0, a fourth", SaleEdgesTest::withThreeForges, x -> x.forge(1, 1, 0), BAD);
    }

    /** PIGS 0 .. 3 of weight 3 have SORTS 1, 3, 2 and 0. */
    private static IronCampaign withAllSorts() {
        IronCampaign x = Scenes.hot();
        Scenes.castPig(x, 10, 3);
        Scenes.castPig(x, 10, 3);
        Scenes.castPig(x, 10, 2);
        x.tick(17);
        Scenes.castPig(x, 10, 2);
        int[] sorts = {1, 3, 2, 0};
        for (int i = 0; i < 4; i++) Due.is("SORT of PIG " + i, x.pig(i, 1), sorts[i]);
        return x;
    }

    /** "take SORTS (bits 0 .. 15)", "each to a FORGE that takes its SORT, or to none" */
    private static void forgeTakesItsSortsAlone() {
        int[] pigOf = {3, 0, 2, 1};
        for (int bits = 0; bits < 16; bits++) {
            IronCampaign x = withAllSorts();
            x.forge(bits, 2000, 2);
            Due.is("sale() with SORTS " + bits, x.sale(), 6 * Integer.bitCount(bits));
            x.sell();
            for (int sort = 0; sort < 4; sort++) {
                int want = (bits >> sort & 1) == 1 ? 0 : NONE;
                Due.is("SORT " + sort + " with SORTS " + bits, x.pig(pigOf[sort], 5), want);
            }
        }
    }

    /** "(bits 0 .. 15)": 0 */
    private static void forgeWithoutSortsTakesNone() {
        IronCampaign x = withAllSorts();
        x.forge(0, 2000, 50);
        Due.is("sale()", x.sale(), 0);
        Due.is("sell()", x.sell(), 0);
    }

    /** "no FORGE gets more than it wants" */
    private static void forgeGetsNoMoreThanItWants() {
        for (int want = 4; want <= 13; want++) {
            IronCampaign x = withPigs(5, 7);
            x.forge(15, want, 1);
            int most = want >= 12 ? 12 : want >= 7 ? 7 : want >= 5 ? 5 : 0;
            Due.is("want " + want, x.sale(), most);
        }
    }

    /** "want a weight (0 .. 2000)": 0 */
    private static void forgeMayWantNothing() {
        IronCampaign x = withPigs(1, 1);
        Due.is("forge(15, 0, 50)", x.forge(15, 0, 50), 0);
        Due.is("sale()", x.sale(), 0);
        Due.is("forge(15, 1, 1)", x.forge(15, 1, 1), 1);
        Due.is("the least weight", x.sale(), 1);
        Due.is("sell()", x.sell(), 1);
        places(x, 1, NONE);
    }

    /** Five PIGS of 500, the most that THE HEARTH HOLDS. */
    private static IronCampaign withGreatPigs() {
        IronCampaign x = Scenes.hot();
        x.rich(0, 60);
        for (int pig = 0; pig < 5; pig++) {
            for (int i = 0; i < 14; i++) {
                if (x.about(5) == 12) x.tick(36);
                x.charge(60, 0, 60, 15);
            }
            x.tick(3 * x.about(5));
            x.tap();
            Due.is("weight", x.pig(pig, 0), 500);
        }
        return x;
    }

    /** "want a weight (0 .. 2000)": 2000 */
    private static void forgeMayWantTwoThousand() {
        IronCampaign x = withGreatPigs();
        x.forge(15, 2000, 50);
        Due.is("four of five", x.sale(), 100000);
        Due.is("sell()", x.sell(), 4);
        places(x, 0, 0, 0, 0, NONE);
        Due.is("paid", x.count(5), 100000);
        Due.is("nothing more is wanted", x.sale(), 0);
        IronCampaign y = withGreatPigs();
        y.forge(15, 1999, 50);
        Due.is("three of five", y.sale(), 75000);
    }

    /** "pay a price (1 .. 50) for one of weight" */
    private static void forgeMayPayTheLeastAndTheMost() {
        IronCampaign x = withPigs(7, 7);
        x.forge(15, 7, 1);
        Due.is("1 for one", x.sale(), 7);
        x.forge(15, 7, 50);
        Due.is("50 for one", x.sale(), 7 + 350);
    }

    /** "What THE SALE would pay.": no PIGS, no FORGES, or neither */
    private static void saleOfNothingPaysNothing() {
        Edge.refused("sale() of nothing", IronCampaign::new, IronCampaign::sale, 0);
        Edge.refused("sell() of nothing", IronCampaign::new, IronCampaign::sell, 0);
        Edge.refused("sell() to no FORGE", () -> withPigs(5, 6), IronCampaign::sell, 0);
        IronCampaign x = new IronCampaign();
        x.forge(15, 2000, 50);
        Due.is("sale() of no PIG", x.sale(), 0);
        Due.is("sell() of no PIG", x.sell(), 0);
    }

    /** "PIGS that are not SOLD (the first 8 of them)" */
    private static void saleIsOfTheFirstEight() {
        IronCampaign eight = withPigs(1, 1, 1, 1, 1, 1, 1, 2);
        eight.forge(15, 2000, 1);
        Due.is("the eighth is of it", eight.sale(), 9);
        IronCampaign nine = withPigs(1, 1, 1, 1, 1, 1, 1, 2, 4);
        nine.forge(15, 2000, 1);
        Due.is("the ninth is not", nine.sale(), 9);
        Due.is("sell()", nine.sell(), 8);
        places(nine, 0, 0, 0, 0, 0, 0, 0, 0, NONE);
        IronCampaign greater = withPigs(5, 5, 5, 5, 5, 5, 5, 5, 2);
        greater.forge(15, 2, 50);
        Due.is("not even if no other fits", greater.sale(), 0);
    }

    /** "PIGS that are not SOLD": those that are make room among the eight */
    private static void saleLeavesSoldOnesOut() {
        IronCampaign x = withPigs(1, 9, 9, 9, 9, 9, 9, 9, 2, 3);
        x.forge(15, 3, 1);
        Due.is("the first is SOLD", x.sell(), 1);
        Due.is("the ninth is of it now", x.sell(), 1);
        places(x, 0, NONE, NONE, NONE, NONE, NONE, NONE, NONE, 0, NONE);
        Due.is("nothing is wanted", x.sell(), 0);
        x.forge(15, 3, 1);
        Due.is("the tenth", x.sell(), 1);
        places(x, 0, NONE, NONE, NONE, NONE, NONE, NONE, NONE, 0, 1);
        Due.is("PIGS SOLD", x.count(4), 3);
    }

    /** "the greatest pay" */
    private static void saleTakesTheGreatestPay() {
        IronCampaign x = withPigs(6, 5, 5);
        x.forge(15, 10, 10);
        Due.is("not the first that fits", x.sale(), 100);
        x.sell();
        places(x, NONE, 0, 0);
        IronCampaign y = withPigs(5, 6);
        y.forge(15, 6, 3);
        y.forge(15, 6, 4);
        Due.is("the heavier to the dearer", y.sale(), 15 + 24);
        y.sell();
        places(y, 0, 1);
    }

    /** "of like ones the first by where the PIGS go, in order (FORGES by numbers" */
    private static void saleOfLikeOnesTakesTheFirstForge() {
        IronCampaign x = withPigs(5, 5, 5);
        for (int i = 0; i < 3; i++) x.forge(15, 5, 2);
        x.sell();
        places(x, 0, 1, 2);
        IronCampaign y = withPigs(5, 6);
        for (int i = 0; i < 3; i++) y.forge(15, 2000, 2);
        y.sell();
        places(y, 0, 0);
        IronCampaign z = withPigs(5, 6);
        z.forge(15, 6, 2);
        z.forge(15, 11, 2);
        z.sell();
        places(z, 0, 1);
    }

    /** "none behind them" */
    private static void saleOfLikeOnesPutsNoneLast() {
        IronCampaign x = withPigs(5, 5, 5);
        x.forge(15, 5, 2);
        x.sell();
        places(x, 0, NONE, NONE);
        IronCampaign y = withPigs(5, 5, 5);
        y.forge(0, 2000, 2);
        y.forge(0, 2000, 2);
        y.forge(15, 10, 2);
        y.sell();
        places(y, 2, 2, NONE);
        IronCampaign z = withPigs(3, 10, 7);
        z.forge(15, 10, 2);
        z.sell();
        places(z, 0, NONE, 0);
    }

    /** "What THE SALE would pay." */
    private static void saleChangesNothing() {
        IronCampaign x = Scenes.busy();
        Due.holds("something is to be SOLD", x.sale() > 0);
        Edge.sameFromNowOn("sale()", x, Scenes.busy());
    }

    /** "how many PIGS are SOLD by it" */
    private static void sellTellsHowMany() {
        IronCampaign x = withPigs(1, 1, 1, 1, 1, 1, 1, 1, 1);
        x.forge(15, 2000, 3);
        Due.is("eight", x.sell(), 8);
        Due.is("then one", x.sell(), 1);
        Due.is("then none", x.sell(), 0);
        Due.is("PIGS SOLD in all", x.count(4), 9);
        Due.is("paid in all", x.count(5), 27);
    }

    /** "(FORGES want so much less)" */
    private static void sellLeavesForgesWithLess() {
        IronCampaign x = withPigs(5);
        x.forge(15, 9, 1);
        x.sell();
        Scenes.castPig(x, 2 * 5, 30);
        Due.is("5 where 4 is wanted", x.sale(), 0);
        Scenes.castPig(x, 2 * 4, 30);
        Due.is("4 where 4 is wanted", x.sell(), 1);
        Scenes.castPig(x, 2 * 1, 30);
        Due.is("1 where 0 is wanted", x.sell(), 0);
        places(x, 0, NONE, 0, NONE);
    }
}
