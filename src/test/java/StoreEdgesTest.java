/** The ends of STORES and RICHNESS, and promises 1, 2, 3 and 12 at theirs. Each test has its sentence above it. */
public final class StoreEdgesTest {
    private static final int BAD = IronCampaign.BAD, NO = IronCampaign.NO, NONE = IronCampaign.NONE;

    public static void main(String[] args) {
        storesAreSix();
        oreOfAKindHasItsOwnStore();
        storesAreEmptyAtFirst();
        storesHoldTenThousand();
        buyTakesNoughtToTenThousand();
        buyIsNoAboveTenThousand();
        buyGoesOnWhenThereIsRoomAgain();
        buyIsBadAheadOfNo();
        buyDoesNotWrapAround();
        richnessIsThirtyAtFirst();
        richnessIsTenToSixty();
        richIsBadForNoSuchKind();
        storeIsBadForNoSuchStore();
        newFurnaceIsEmptyAndCold();
        newFurnaceCanBeAskedAll();
        Due.end();
    }

    /** "0 COAL, 1 FLUX, 2 .. 5 ORE of KIND 0 .. 3" */
    private static void storesAreSix() {
        Edge.range("buy", (x, a) -> x.buy(a[0], a[1]), new int[] {0, 1}, 0, 0, 5);
        IronCampaign x = new IronCampaign();
        for (int s = 0; s < 6; s++) Due.is("buy(" + s + ", ..)", x.buy(s, 10 * s + 1), 10 * s + 1);
        for (int s = 0; s < 6; s++) Due.is("store(" + s + ")", x.store(s), 10 * s + 1);
    }

    /** "0 COAL, 1 FLUX, 2 .. 5 ORE of KIND 0 .. 3" */
    private static void oreOfAKindHasItsOwnStore() {
        for (int kind = 0; kind < 4; kind++) {
            IronCampaign x = new IronCampaign();
            for (int s = 0; s < 6; s++) x.buy(s, 100);
            x.charge(7, kind, 5, 3);
            for (int s = 0; s < 6; s++) {
                int taken = s == 0 ? 7 : s == 1 ? 3 : s == 2 + kind ? 5 : 0;
                Due.is("store(" + s + ") behind a CHARGE of KIND " + kind, x.store(s), 100 - taken);
            }
        }
    }

    /** "so many baskets (0 .. 10000 each, 0 at first)": the 0 */
    private static void storesAreEmptyAtFirst() {
        for (int s = 0; s < 6; s++) Due.is("store(" + s + ") at first", new IronCampaign().store(s), 0);
        IronCampaign x = new IronCampaign();
        x.buy(0, 1);
        x.charge(1, 0, 0, 0);
        Due.is("store(0) empty again", x.store(0), 0);
        Due.is("a basket of an empty STORE", x.charge(1, 0, 0, 0), NO);
    }

    /** "so many baskets (0 .. 10000 each, 0 at first)": the 10000 */
    private static void storesHoldTenThousand() {
        for (int s = 0; s < 6; s++) {
            IronCampaign x = new IronCampaign();
            Due.is("buy(" + s + ", 9999)", x.buy(s, 9999), 9999);
            Due.is("the last basket of " + s, x.buy(s, 1), 10000);
            Due.is("one too many of " + s, x.buy(s, 1), NO);
            Due.is("store(" + s + ") stays", x.store(s), 10000);
        }
    }

    /** "n baskets more (0 .. 10000) of a STORE: how many there are. BAD" */
    private static void buyTakesNoughtToTenThousand() {
        Edge.refused("buy(0, -1)", Scenes::busy, y -> y.buy(0, -1), BAD);
        Edge.refused("buy(0, 10001)", Scenes::busy, y -> y.buy(0, 10001), BAD);
        IronCampaign x = new IronCampaign();
        Due.is("buy(3, -1)", x.buy(3, -1), BAD);
        Due.is("buy(3, 10001)", x.buy(3, 10001), BAD);
        Due.is("buy(3, 0) of an empty STORE", x.buy(3, 0), 0);
        Due.is("buy(3, 10000)", x.buy(3, 10000), 10000);
        Due.is("buy(3, 0) of a full STORE", x.buy(3, 0), 10000);
    }

    /** "NO: above 10000." */
    private static void buyIsNoAboveTenThousand() {
        IronCampaign x = new IronCampaign();
        x.buy(4, 1);
        Due.is("10001 in all", x.buy(4, 10000), NO);
        Due.is("store(4) stays", x.store(4), 1);
        Due.is("10000 in all", x.buy(4, 9999), 10000);
        Edge.refused("buy above 10000", Scenes::busy, y -> y.buy(5, 10000), NO);
        Edge.refused("one basket above", Scenes::stocked, y -> y.buy(2, 1), NO);
    }

    /** "so many baskets (0 .. 10000 each": what lies in a CHARGE is no longer in the STORE */
    private static void buyGoesOnWhenThereIsRoomAgain() {
        IronCampaign x = Scenes.stocked();
        x.charge(5, 0, 0, 0);
        Due.is("more than there is room for", x.buy(0, 6), NO);
        Due.is("what there is room for", x.buy(0, 5), 10000);
    }

    /** "Refused, changing nothing, the first of: BAD -2 a number is not as told; NO -3 as told" */
    private static void buyIsBadAheadOfNo() {
        Edge.refused("buy(0, 10001) of a full STORE", Scenes::stocked, x -> x.buy(0, 10001), BAD);
        Edge.refused("buy(6, 10000) of no STORE", Scenes::stocked, x -> x.buy(6, 10000), BAD);
    }

    /** "NO: above 10000", however great the number is */
    private static void buyDoesNotWrapAround() {
        Edge.refused("greatest int", Scenes::stocked, x -> x.buy(0, Integer.MAX_VALUE), BAD);
        Edge.refused("least int", Scenes::stocked, x -> x.buy(0, Integer.MIN_VALUE), BAD);
        Edge.refused("no STORE", Scenes::stocked, x -> x.buy(Integer.MAX_VALUE, 0), BAD);
        Edge.refused("no STORE below", Scenes::stocked, x -> x.buy(Integer.MIN_VALUE, 0), BAD);
    }

    /** "An ORE has a RICHNESS (10 .. 60; 30 at first)": the 30 */
    private static void richnessIsThirtyAtFirst() {
        for (int kind = 0; kind < 4; kind++) {
            Due.is("first RICHNESS of " + kind, new IronCampaign().rich(kind, 10), 30);
            IronCampaign x = Scenes.hot();
            int number = Scenes.bringDown(x, kind, 10, 0);
            Due.is("IRON of 10 ORE of KIND " + kind, x.chargeAt(number, 6), 3);
        }
    }

    /** "An ORE has a RICHNESS (10 .. 60; 30 at first)": both ends; "what it was. BAD." */
    private static void richnessIsTenToSixty() {
        Edge.range("rich", (x, a) -> x.rich(a[0], a[1]), new int[] {1, 33}, 1, 10, 60);
        for (int kind = 0; kind < 4; kind++) {
            IronCampaign x = new IronCampaign();
            Due.is("rich(" + kind + ", 9)", x.rich(kind, 9), BAD);
            Due.is("rich(" + kind + ", 10)", x.rich(kind, 10), 30);
            Due.is("rich(" + kind + ", 61)", x.rich(kind, 61), BAD);
            Due.is("rich(" + kind + ", 60)", x.rich(kind, 60), 10);
            Due.is("rich(" + kind + ", 59)", x.rich(kind, 59), 60);
            for (int other = 0; other < 4; other++) {
                Due.is("RICHNESS of " + other, x.rich(other, 30), other == kind ? 59 : 30);
            }
        }
    }

    /** "RICHNESS of a KIND: what it was. BAD." */
    private static void richIsBadForNoSuchKind() {
        Edge.range("rich", (x, a) -> x.rich(a[0], a[1]), new int[] {1, 33}, 0, 0, 3);
    }

    /** "A STORE. BAD." */
    private static void storeIsBadForNoSuchStore() {
        Edge.range("store", (x, a) -> x.store(a[0]), new int[] {0}, 0, 0, 5);
        IronCampaign x = Scenes.stocked();
        for (int s = 0; s < 6; s++) Due.is("full store(" + s + ")", x.store(s), 10000);
    }

    /** "As told: empty STORES, an empty furnace, cold." */
    private static void newFurnaceIsEmptyAndCold() {
        IronCampaign x = new IronCampaign();
        Due.is("a TICK of the empty furnace", x.tick(1), 1);
        Due.is("HEAT stays", x.about(0), 0);
        Due.is("nothing burned", x.about(6), 0);
        Due.is("no SLAG", x.about(2), 0);
        Due.is("no WEAR", x.about(3), 0);
        Due.is("SIGN of HEAT", x.sign(0), 0);
    }

    /** "As told": what a new object answers where there is nothing yet */
    private static void newFurnaceCanBeAskedAll() {
        IronCampaign x = new IronCampaign();
        Due.is("chargeAt(0, 0)", x.chargeAt(0, 0), NONE);
        Due.is("when(0)", x.when(0), BAD);
        Due.is("tap()", x.tap(), NONE);
        Due.is("pig(0, 0)", x.pig(0, 0), NONE);
        Due.is("sign(0)", x.sign(0), NONE);
        Due.is("unrule()", x.unrule(), 0);
        Due.is("sale()", x.sale(), 0);
        Due.is("sell()", x.sell(), 0);
        Due.is("paceAt(0)", x.paceAt(0), NONE);
        Due.is("charge(1, 0, 0, 0)", x.charge(1, 0, 0, 0), NO);
    }
}
