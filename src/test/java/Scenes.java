/** Furnaces in states that several tests begin with. */
final class Scenes {
    private Scenes() {
    }

    /** Stores with plenty of everything; nothing charged, cold, BLAST 0. */
    static IronCampaign stocked() {
        IronCampaign x = new IronCampaign();
        for (int s = 0; s < 6; s++) x.buy(s, 10000);
        return x;
    }

    /** CHARGE 0 of 20 * ticks COAL without ORE has come down; HEAT is 120 * ticks (1 .. 3). BLAST is 20. */
    static IronCampaign heated(int ticks) {
        IronCampaign x = stocked();
        x.blast(20);
        x.charge(20 * ticks, 0, 0, 0);
        x.tick(ticks);
        return x;
    }

    /** An empty COLUMN, HEAT 1000, BLAST 20, CHARGES 0 .. 2 MELTED without ORE, LIFE 100000. */
    static IronCampaign hot() {
        IronCampaign x = stocked();
        x.hearth(500, 100000);
        x.blast(20);
        for (int i = 0; i < 3; i++) x.charge(60, 0, 0, 0);
        x.tick(9);
        return x;
    }

    /**
     * An empty COLUMN and just this HEAT (0 .. 1000), THE HEARTH tapped, LIFE 100000. BLAST alone moves HEAT by eights,
     * so one CHARGE with some ORE takes the rest.
     */
    static IronCampaign atHeat(int heat) {
        for (int ticks = 1; ticks <= 8; ticks++) {
            for (int burn = 1; burn <= 20; burn++) {
                int over = 120 * ticks - 40 + 8 * burn - heat;
                if (over < 0 || over % 5 != 0 || over / 5 > Math.min(60, 12 * ticks)) continue;
                IronCampaign x = melted(ticks, burn, over / 5);
                Due.is("HEAT to begin with", x.about(0), heat);
                return x;
            }
        }
        IronCampaign warmer = atHeat(heat + 40);
        warmer.tick(1);
        Due.is("HEAT to begin with", warmer.about(0), heat);
        return warmer;
    }

    private static IronCampaign melted(int ticks, int burn, int ore) {
        IronCampaign x = stocked();
        x.hearth(500, 100000);
        for (int i = 0; i < ticks; i++) x.charge(20, 0, 0, 0);
        x.blast(20);
        x.tick(ticks);
        x.charge(burn, 0, ore, 0);
        x.blast(burn);
        x.tick(1);
        x.tap();
        return x;
    }

    /** Makes a PIG: one CHARGE that MELTS in one TICK, then a tap. Its weight is ORE * RICHNESS / 100. */
    static int castPig(IronCampaign x, int ore, int flux) {
        x.charge(20, 0, ore, flux);
        x.tick(1);
        return x.tap();
    }

    /** One TICK that brings down one CHARGE of 1 COAL; its number. BLAST is 1 behind it. */
    static int bringDown(IronCampaign x, int kind, int ore, int flux) {
        x.blast(1);
        int number = x.charge(1, kind, ore, flux);
        x.tick(1);
        return number;
    }

    /** All that a call can set is other than at first, and LIFE ends within some fifty TICKS. */
    static IronCampaign busy() {
        IronCampaign x = new IronCampaign();
        for (int s = 0; s < 6; s++) x.buy(s, 9000 + 100 * s);
        x.hearth(10, 200);
        x.blast(20);
        for (int i = 0; i < 3; i++) x.charge(60, 0, 0, 0);
        x.tick(9);
        for (int kind = 0; kind < 4; kind++) x.rich(kind, 40 + 5 * kind);
        x.forge(15, 20, 6);
        x.forge(8, 31, 9);
        for (int i = 0; i < 3; i++) castPig(x, 20 + i, 9);
        x.sell();
        for (int i = 0; i < 2; i++) castPig(x, 15 + i, i);
        x.charge(25, 1, 30, 5);
        x.charge(30, 2, 20, 9);
        x.rule(0, true, 60, 1);
        x.rule(2, true, 9, 2);
        x.lose(0, 2);
        x.lose(1, 3);
        for (int m = 0; m < 12; m++) x.month(m, m % 5, 50 * m);
        for (int p = 0; p < 5; p++) x.pace(p, 90 * p + 10, 40 * p, 60 * p);
        x.plan(2, 4, 700, 500);
        x.tick(1);
        return x;
    }

    /** 12 CHARGES in THE COLUMN; STORES have plenty left. */
    static IronCampaign fullColumn() {
        IronCampaign x = stocked();
        for (int i = 0; i < 12; i++) x.charge(2, 0, 1, 1);
        return x;
    }

    /** 12 CHARGES of 1 COAL, 60 ORE and 30 FLUX in THE COLUMN, cold. */
    static IronCampaign fullColumnOfOre() {
        IronCampaign x = stocked();
        for (int i = 0; i < 12; i++) x.charge(1, 0, 60, 30);
        return x;
    }

    /** 400 CHARGES ever, all of which came down; coal is what COAL they leave in the STORE. 441 calls. */
    static IronCampaign allCharges(int coal) {
        IronCampaign x = new IronCampaign();
        x.buy(0, 400 + coal);
        x.blast(20);
        for (int i = 0; i < 400; i++) {
            x.charge(1, 0, 0, 0);
            if (i % 12 == 11) x.tick(1);
        }
        x.tick(1);
        return x;
    }

    /** So many TICKS (51 .. 5000), cold, nothing charged. */
    static IronCampaign agedBy(int ticks) {
        IronCampaign x = stocked();
        for (int left = ticks; left > 0; left -= 50) x.tick(Math.min(50, left));
        return x;
    }

    /** The furnace is OUT behind 3 TICKS, with a CHARGE in THE COLUMN. */
    static IronCampaign out() {
        IronCampaign x = stocked();
        x.hearth(500, 6);
        x.blast(20);
        x.charge(60, 0, 0, 0);
        x.charge(60, 0, 30, 9);
        x.tick(3);
        return x;
    }

    /** 60 PIGS, and so much IRON (0 .. 18) in THE HEARTH. */
    static IronCampaign allPigs(int iron) {
        IronCampaign x = hot();
        x.rich(0, 50);
        for (int i = 0; i < 60; i++) castPig(x, 10, 3);
        x.charge(20, 0, 2 * iron, 3);
        x.tick(1);
        return x;
    }
}
