/** Promises 1 (a new object), 2 (buy), 3 (rich) and 12 (store). */
public final class StoresTest {
    public static void main(String[] args) {
        newObjectIsEmptyAndCold();
        newObjectHasFirstValues();
        newObjectsShareNothing();
        buyAddsUpToTheLimit();
        buyRefuses();
        richAnswersWhatItWas();
        richRefuses();
        storeTellsEachStore();
        Due.end();
    }

    private static void newObjectIsEmptyAndCold() {
        IronCampaign x = new IronCampaign();
        for (int s = 0; s < 6; s++) Due.is("new store(" + s + ")", x.store(s), 0);
        for (int what = 0; what < 12; what++) Due.is("new about(" + what + ")", x.about(what), 0);
        for (int what = 0; what < 6; what++) Due.is("new count(" + what + ")", x.count(what), 0);
        for (int s = 0; s < 3; s++) Due.is("new sign(" + s + ")", x.sign(s), IronCampaign.NONE);
        Due.is("new chargeAt(0, 0)", x.chargeAt(0, 0), IronCampaign.NONE);
        Due.is("new pig(0, 0)", x.pig(0, 0), IronCampaign.NONE);
        Due.is("new paceAt(0)", x.paceAt(0), IronCampaign.NONE);
        Due.is("new tap()", x.tap(), IronCampaign.NONE);
        Due.is("new sale()", x.sale(), 0);
        Due.is("new sell()", x.sell(), 0);
        Due.is("new unrule()", x.unrule(), 0);
    }

    private static void newObjectHasFirstValues() {
        IronCampaign x = new IronCampaign();
        Due.is("first BLAST", x.blast(3), 0);
        for (int kind = 0; kind < 4; kind++) Due.is("first RICHNESS of " + kind, x.rich(kind, 50), 30);
        for (int m = 0; m < 12; m++) {
            Due.is("first WATER of " + m, x.plan(m, 1, 10000, 320), 400);
            Due.is("first WOOD of " + m, x.plan(m, 1, 10000, 319), 300);
            Due.is("first WEAR of paces, month " + m, x.plan(m, 1, 149, 10000), 200);
        }
    }

    private static void newObjectsShareNothing() {
        IronCampaign one = Scenes.hot();
        Due.is("a used object's HEAT", one.about(0), 1000);
        IronCampaign other = new IronCampaign();
        Due.is("another's COAL", other.store(0), 0);
        Due.is("another's HEAT", other.about(0), 0);
        Due.is("another's CHARGES", other.count(0), 0);
    }

    private static void buyAddsUpToTheLimit() {
        IronCampaign x = new IronCampaign();
        Due.is("buy(0, 0)", x.buy(0, 0), 0);
        Due.is("buy(0, 7)", x.buy(0, 7), 7);
        Due.is("buy(0, 5)", x.buy(0, 5), 12);
        Due.is("buy(5, 10000)", x.buy(5, 10000), 10000);
        Due.is("buy(5, 0) when full", x.buy(5, 0), 10000);
        Due.is("buy(0, 9988)", x.buy(0, 9988), 10000);
        Due.is("store(1) untouched", x.store(1), 0);
    }

    private static void buyRefuses() {
        IronCampaign x = new IronCampaign();
        Due.is("buy(-1, 1)", x.buy(-1, 1), IronCampaign.BAD);
        Due.is("buy(6, 1)", x.buy(6, 1), IronCampaign.BAD);
        Due.is("buy(0, -1)", x.buy(0, -1), IronCampaign.BAD);
        Due.is("buy(0, 10001)", x.buy(0, 10001), IronCampaign.BAD);
        Due.is("buy(0, least int)", x.buy(0, Integer.MIN_VALUE), IronCampaign.BAD);
        Due.is("buy(greatest int, 1)", x.buy(Integer.MAX_VALUE, 1), IronCampaign.BAD);
        Due.is("buy(0, 1)", x.buy(0, 1), 1);
        Due.is("buy(0, 10000) above", x.buy(0, 10000), IronCampaign.NO);
        Due.is("buy(0, greatest int)", x.buy(0, Integer.MAX_VALUE), IronCampaign.BAD);
        Due.is("store(0) after refusals", x.store(0), 1);
    }

    private static void richAnswersWhatItWas() {
        IronCampaign x = new IronCampaign();
        Due.is("rich(0, 10)", x.rich(0, 10), 30);
        Due.is("rich(0, 60)", x.rich(0, 60), 10);
        Due.is("rich(3, 45)", x.rich(3, 45), 30);
        Due.is("rich(0, 20)", x.rich(0, 20), 60);
        Due.is("rich(3, 30)", x.rich(3, 30), 45);
    }

    private static void richRefuses() {
        IronCampaign x = new IronCampaign();
        Due.is("rich(-1, 30)", x.rich(-1, 30), IronCampaign.BAD);
        Due.is("rich(4, 30)", x.rich(4, 30), IronCampaign.BAD);
        Due.is("rich(0, 9)", x.rich(0, 9), IronCampaign.BAD);
        Due.is("rich(0, 61)", x.rich(0, 61), IronCampaign.BAD);
        Due.is("rich(0, 31) after refusals", x.rich(0, 31), 30);
    }

    private static void storeTellsEachStore() {
        IronCampaign x = new IronCampaign();
        for (int s = 0; s < 6; s++) x.buy(s, 100 + s);
        x.charge(10, 2, 20, 5);
        Due.is("store(0)", x.store(0), 90);
        Due.is("store(1)", x.store(1), 96);
        Due.is("store(2)", x.store(2), 102);
        Due.is("store(3)", x.store(3), 103);
        Due.is("store(4)", x.store(4), 84);
        Due.is("store(5)", x.store(5), 105);
        Due.is("store(-1)", x.store(-1), IronCampaign.BAD);
        Due.is("store(6)", x.store(6), IronCampaign.BAD);
        Due.is("store(least int)", x.store(Integer.MIN_VALUE), IronCampaign.BAD);
    }
}
