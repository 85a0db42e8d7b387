/** Promises 10 (tap) and 13 (pig). */
public final class PigsTest {
    public static void main(String[] args) {
        tapMakesAPig();
        tapWithoutIronChangesNothing();
        pigHasTheLeastSort();
        pigLeadsBackToItsCharges();
        chillsAreNoPartOfAPig();
        spilledChargesStayPartOfAPig();
        sixtyPigsAtMost();
        tapWhenOut();
        pigRefuses();
        Due.end();
    }

    private static void facts(IronCampaign x, int i, int... want) {
        for (int what = 0; what < want.length; what++) {
            Due.is("pig(" + i + ", " + what + ")", x.pig(i, what), want[what]);
        }
    }

    private static void tapMakesAPig() {
        IronCampaign x = Scenes.hot();
        x.charge(20, 0, 40, 10);
        x.tick(3);
        Due.is("tap()", x.tap(), 0);
        Due.is("IRON behind it", x.about(1), 0);
        Due.is("PIGS", x.count(1), 1);
        facts(x, 0, 12, 1, 0, 3, 12, IronCampaign.NONE);
        Due.is("SIGN of IRON as seen", x.sign(2), 12);
    }

    private static void tapWithoutIronChangesNothing() {
        IronCampaign x = Scenes.hot();
        Due.is("tap() of no IRON", x.tap(), IronCampaign.NONE);
        Due.is("PIGS", x.count(1), 0);
        x.charge(20, 0, 10, 10);
        x.tick(1);
        x.tap();
        Due.is("the first CHARGE MELTED ahead of the empty tap", x.pig(0, 2), 0);
        Due.is("tap() again", x.tap(), IronCampaign.NONE);
    }

    private static void pigHasTheLeastSort() {
        IronCampaign x = Scenes.hot();
        Scenes.castPig(x, 10, 3);
        Due.is("least of CHARGES without ORE too", x.pig(0, 1), 1);
        x.charge(5, 0, 10, 3);
        x.charge(5, 0, 10, 2);
        x.charge(5, 0, 10, 3);
        x.tick(1);
        Due.is("middle CHARGE", x.chargeAt(5, 5), 2);
        Due.is("last CHARGE", x.chargeAt(6, 5), 3);
        x.tap();
        facts(x, 1, 9, 2, 4, 6, 11);
        x.charge(5, 0, 10, 3);
        x.tick(1);
        x.tap();
        facts(x, 2, 3, 3, 7, 7, 12);
    }

    private static void pigLeadsBackToItsCharges() {
        IronCampaign x = Scenes.hot();
        Scenes.castPig(x, 10, 3);
        x.charge(1, 0, 0, 0);
        x.tick(1);
        Due.is("tap() of no IRON", x.tap(), IronCampaign.NONE);
        x.charge(20, 0, 10, 3);
        x.tick(1);
        Due.is("tap()", x.tap(), 1);
        facts(x, 1, 3, 3, 4, 5, 12);
    }

    private static void chillsAreNoPartOfAPig() {
        IronCampaign x = Scenes.heated(3);
        Scenes.castPig(x, 10, 3);
        x.charge(5, 0, 60, 0);
        x.charge(5, 0, 10, 3);
        x.charge(5, 0, 60, 0);
        x.tick(1);
        Due.is("CHILLS", x.about(7), 2);
        x.tap();
        facts(x, 1, 3, 2, 3, 3, 5);
    }

    private static void spilledChargesStayPartOfAPig() {
        IronCampaign x = Scenes.hot();
        Scenes.castPig(x, 10, 3);
        x.hearth(3, 100000);
        x.charge(5, 0, 10, 3);
        x.charge(5, 0, 20, 3);
        x.charge(5, 0, 3, 3);
        x.tick(1);
        Due.is("SPILLED", x.about(8), 6);
        x.tap();
        facts(x, 1, 3, 2, 4, 6, 11);
    }

    private static void sixtyPigsAtMost() {
        IronCampaign x = Scenes.hot();
        for (int i = 0; i < 60; i++) Due.is("PIG " + i, Scenes.castPig(x, 10, 3), i);
        Due.is("tap() of no IRON with 60 PIGS", x.tap(), IronCampaign.NONE);
        Due.is("the 61st", Scenes.castPig(x, 20, 3), IronCampaign.FULL);
        Due.is("IRON stays", x.about(1), 6);
        Due.is("PIGS", x.count(1), 60);
        x.rule(2, true, 0, 2);
        x.tick(2);
        Due.is("IRON stays for a RULE too", x.about(1), 6);
        Due.is("pig(59, 3)", x.pig(59, 3), 62);
        Due.is("pig(60, 0)", x.pig(60, 0), IronCampaign.NONE);
    }

    private static void tapWhenOut() {
        IronCampaign x = Scenes.hot();
        x.hearth(100, 1);
        x.charge(20, 0, 10, 3);
        x.tick(1);
        Due.is("OUT", x.about(9), 1);
        Due.is("tap()", x.tap(), 0);
        Due.is("hour", x.pig(0, 4), 10);
    }

    private static void pigRefuses() {
        IronCampaign x = Scenes.hot();
        Scenes.castPig(x, 10, 3);
        Due.is("pig(-1, 0)", x.pig(-1, 0), IronCampaign.BAD);
        Due.is("pig(0, -1)", x.pig(0, -1), IronCampaign.BAD);
        Due.is("pig(0, 6)", x.pig(0, 6), IronCampaign.BAD);
        Due.is("pig(1, 0)", x.pig(1, 0), IronCampaign.NONE);
        Due.is("pig(greatest int, 0)", x.pig(Integer.MAX_VALUE, 0), IronCampaign.NONE);
        Due.is("BAD ahead of NONE", x.pig(1, 6), IronCampaign.BAD);
    }
}
