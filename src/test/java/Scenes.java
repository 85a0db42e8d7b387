/** Furnaces in states that several tests begin with. */
final class Scenes {
    private Scenes() {
    }

    /** Stores with plenty of everything; nothing charged, cold, BLAST 0. */
    static IronCampaign stocked() {
        IronCampaign x = new IronCampaign();
        for (int s = 0; s < 6; s++) x.buy(s, 10000);
        return x;
    }

    /** CHARGE 0 of 20 * ticks COAL without ORE has come down; HEAT is 120 * ticks (1 .. 3). BLAST is 20. */
    static IronCampaign heated(int ticks) {
        IronCampaign x = stocked();
        x.blast(20);
        x.charge(20 * ticks, 0, 0, 0);
        x.tick(ticks);
        return x;
    }

    /** An empty COLUMN, HEAT 1000, BLAST 20, CHARGES 0 .. 2 MELTED without ORE, LIFE 100000. */
    static IronCampaign hot() {
        IronCampaign x = stocked();
        x.hearth(500, 100000);
        x.blast(20);
        for (int i = 0; i < 3; i++) x.charge(60, 0, 0, 0);
        x.tick(9);
        return x;
    }

    /** Makes a PIG: one CHARGE that MELTS in one TICK, then a tap. Its weight is ORE * RICHNESS / 100. */
    static int castPig(IronCampaign x, int ore, int flux) {
        x.charge(20, 0, ore, flux);
        x.tick(1);
        return x.tap();
    }
}
