/** Promises 4 (charge), 5 (chargeAt) and 6 (when). */
public final class ChargesTest {
    public static void main(String[] args) {
        chargeTakesFromStores();
        chargeRefusesBadNumbers();
        chargeRefusesWhatStoresLack();
        chargeRefusesAThirteenth();
        chargeRefusesTheFourHundredFirst();
        chargeAtTellsEveryFact();
        chargeAtTellsMeltAndChill();
        chargeAtRefuses();
        whenCountsCoalBelow();
        whenRefuses();
        whenLeavesRulesOut();
        Due.end();
    }

    private static void chargeTakesFromStores() {
        IronCampaign x = new IronCampaign();
        x.buy(0, 60);
        x.buy(1, 30);
        x.buy(5, 60);
        Due.is("charge(60, 3, 60, 30)", x.charge(60, 3, 60, 30), 0);
        Due.is("COAL left", x.store(0), 0);
        Due.is("FLUX left", x.store(1), 0);
        Due.is("ORE left", x.store(5), 0);
        Due.is("CHARGES", x.count(0), 1);
        Due.is("in THE COLUMN", x.about(5), 1);
        x.buy(0, 1);
        Due.is("charge(1, 0, 0, 0)", x.charge(1, 0, 0, 0), 1);
    }

    private static void chargeRefusesBadNumbers() {
        IronCampaign x = Scenes.stocked();
        long before = x.digest();
        Due.is("charge(0, ..)", x.charge(0, 0, 1, 1), IronCampaign.BAD);
        Due.is("charge(61, ..)", x.charge(61, 0, 1, 1), IronCampaign.BAD);
        Due.is("charge(1, -1, ..)", x.charge(1, -1, 1, 1), IronCampaign.BAD);
        Due.is("charge(1, 4, ..)", x.charge(1, 4, 1, 1), IronCampaign.BAD);
        Due.is("charge(1, 0, -1, 1)", x.charge(1, 0, -1, 1), IronCampaign.BAD);
        Due.is("charge(1, 0, 61, 1)", x.charge(1, 0, 61, 1), IronCampaign.BAD);
        Due.is("charge(1, 0, 1, -1)", x.charge(1, 0, 1, -1), IronCampaign.BAD);
        Due.is("charge(1, 0, 1, 31)", x.charge(1, 0, 1, 31), IronCampaign.BAD);
        Due.is("digest after refusals", x.digest(), before);
        Due.is("BAD ahead of NO", new IronCampaign().charge(61, 0, 1, 1), IronCampaign.BAD);
    }

    private static void chargeRefusesWhatStoresLack() {
        IronCampaign x = new IronCampaign();
        x.buy(0, 5);
        x.buy(1, 6);
        x.buy(2, 7);
        Due.is("one COAL too much", x.charge(6, 0, 7, 6), IronCampaign.NO);
        Due.is("one FLUX too much", x.charge(5, 0, 7, 7), IronCampaign.NO);
        Due.is("one ORE too much", x.charge(5, 0, 8, 6), IronCampaign.NO);
        Due.is("ORE of another KIND", x.charge(5, 1, 1, 0), IronCampaign.NO);
        Due.is("COAL untouched", x.store(0), 5);
        Due.is("FLUX untouched", x.store(1), 6);
        Due.is("ORE untouched", x.store(2), 7);
        Due.is("all there is", x.charge(5, 0, 7, 6), 0);
    }

    private static void chargeRefusesAThirteenth() {
        IronCampaign x = Scenes.stocked();
        for (int i = 0; i < 12; i++) Due.is("CHARGE " + i, x.charge(2, 0, 0, 0), i);
        Due.is("a thirteenth", x.charge(2, 0, 0, 0), IronCampaign.FULL);
        Due.is("COAL after it", x.store(0), 10000 - 24);
        Due.is("BAD ahead of FULL", x.charge(0, 0, 0, 0), IronCampaign.BAD);
        x.blast(1);
        x.tick(1);
        Due.is("none came down", x.charge(2, 0, 0, 0), IronCampaign.FULL);
        x.tick(1);
        Due.is("one came down", x.charge(2, 0, 0, 0), 12);
        Due.is("in THE COLUMN", x.about(5), 12);

        IronCampaign poor = new IronCampaign();
        poor.buy(0, 12);
        for (int i = 0; i < 12; i++) poor.charge(1, 0, 0, 0);
        Due.is("NO ahead of FULL", poor.charge(1, 0, 0, 0), IronCampaign.NO);
    }

    private static void chargeRefusesTheFourHundredFirst() {
        IronCampaign x = Scenes.stocked();
        x.blast(20);
        for (int i = 0; i < 400; i++) {
            Due.is("CHARGE " + i, x.charge(1, 0, 0, 0), i);
            if (i % 12 == 11) x.tick(1);
        }
        x.tick(1);
        Due.is("an empty COLUMN", x.about(5), 0);
        Due.is("the 401st", x.charge(1, 0, 0, 0), IronCampaign.FULL);
        Due.is("CHARGES ever", x.count(0), 400);
        Due.is("chargeAt(399, 0)", x.chargeAt(399, 0), 1);
        Due.is("chargeAt(400, 0)", x.chargeAt(400, 0), IronCampaign.NONE);
        Due.is("COAL after it", x.store(0), 9600);
    }

    private static void facts(IronCampaign x, int i, int... want) {
        for (int what = 0; what < want.length; what++) {
            Due.is("chargeAt(" + i + ", " + what + ")", x.chargeAt(i, what), want[what]);
        }
    }

    private static void chargeAtTellsEveryFact() {
        IronCampaign x = Scenes.stocked();
        x.charge(50, 3, 41, 12);
        x.charge(33, 1, 22, 7);
        facts(x, 0, 0, 50, 41, 12, 3, IronCampaign.NONE, 0);
        x.blast(20);
        x.tick(1);
        facts(x, 0, 0, 30, 41, 12, 3, IronCampaign.NONE, 0);
        facts(x, 1, 0, 33, 22, 7, 1, IronCampaign.NONE, 0);
        x.tick(2);
        facts(x, 0, 2, 0, 41, 12, 3, IronCampaign.NONE, 0);
        facts(x, 1, 0, 23, 22, 7, 1, IronCampaign.NONE, 0);
    }

    private static void chargeAtTellsMeltAndChill() {
        IronCampaign x = Scenes.heated(2);
        x.rich(2, 47);
        x.charge(19, 2, 17, 1);
        x.charge(1, 2, 24, 30);
        x.tick(1);
        facts(x, 0, 1, 0, 0, 0, 0, 1, 0);
        facts(x, 1, 1, 0, 17, 1, 2, 0, 7);
        facts(x, 2, 2, 0, 24, 30, 2, IronCampaign.NONE, 0);
    }

    private static void chargeAtRefuses() {
        IronCampaign x = Scenes.stocked();
        x.charge(5, 0, 1, 1);
        Due.is("chargeAt(-1, 0)", x.chargeAt(-1, 0), IronCampaign.BAD);
        Due.is("chargeAt(least int, 0)", x.chargeAt(Integer.MIN_VALUE, 0), IronCampaign.BAD);
        Due.is("chargeAt(0, -1)", x.chargeAt(0, -1), IronCampaign.BAD);
        Due.is("chargeAt(0, 7)", x.chargeAt(0, 7), IronCampaign.BAD);
        Due.is("chargeAt(1, 0)", x.chargeAt(1, 0), IronCampaign.NONE);
        Due.is("chargeAt(greatest int, 6)", x.chargeAt(Integer.MAX_VALUE, 6), IronCampaign.NONE);
        Due.is("BAD ahead of NONE", x.chargeAt(1, 7), IronCampaign.BAD);
    }

    private static void whenCountsCoalBelow() {
        IronCampaign x = Scenes.stocked();
        x.charge(14, 0, 0, 0);
        x.charge(7, 0, 0, 0);
        x.charge(1, 0, 0, 0);
        x.blast(7);
        Due.is("when(0)", x.when(0), 2);
        Due.is("when(1)", x.when(1), 3);
        Due.is("when(2)", x.when(2), 4);
        x.blast(1);
        Due.is("when(2) at BLAST 1", x.when(2), 22);
        x.blast(20);
        Due.is("when(0) at BLAST 20", x.when(0), 1);
        Due.is("when(1) at BLAST 20", x.when(1), 2);
        x.blast(10);
        x.tick(1);
        Due.is("when(0) with some burned", x.when(0), 1);
        Due.is("when(1) with some burned", x.when(1), 2);
        x.tick(1);
        Due.is("when(0) come down", x.when(0), IronCampaign.NONE);
        Due.is("when(1) with one below gone", x.when(1), 1);
        int told = x.when(2);
        x.tick(told);
        Due.holds("it came down as told", x.chargeAt(2, 0) != 0);
    }

    private static void whenRefuses() {
        IronCampaign x = Scenes.stocked();
        Due.is("when(0) of none", x.when(0), IronCampaign.BAD);
        x.charge(5, 0, 0, 0);
        Due.is("when(0) at BLAST 0", x.when(0), IronCampaign.NONE);
        Due.is("when(1) at BLAST 0", x.when(1), IronCampaign.BAD);
        Due.is("when(-1)", x.when(-1), IronCampaign.BAD);
        Due.is("when(least int)", x.when(Integer.MIN_VALUE), IronCampaign.BAD);
        Due.is("when(greatest int)", x.when(Integer.MAX_VALUE), IronCampaign.BAD);
        x.blast(5);
        x.tick(1);
        Due.is("when(0) come down", x.when(0), IronCampaign.NONE);
    }

    private static void whenLeavesRulesOut() {
        IronCampaign x = Scenes.stocked();
        for (int i = 0; i < 2; i++) x.charge(60, 0, 0, 0);
        x.blast(10);
        x.rule(0, false, 1000, 0);
        x.tick(1);
        Due.is("when(1) with a RULE", x.when(1), 11);
    }
}
