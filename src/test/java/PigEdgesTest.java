/** PIGS at their ends, promises 10 and 13. Each test has its sentence above it. */
public final class PigEdgesTest {
    private static final int BAD = IronCampaign.BAD, NONE = IronCampaign.NONE, FULL = IronCampaign.FULL;

    public static void main(String[] args) {
        tapNeedsSomeIron();
        pigsAreNumberedFromNought();
        sortIsTheLeast();
        chargesSinceTheLatestTapWithIron();
        chargesAreTheFirstAndTheLast();
        spilledInPart();
        hourIsTicksThatWere();
        sixtyAtMost();
        ironStaysWhenFull();
        noneAheadOfFull();
        Facts.main(args);
        Due.end();
    }

    private static void facts(IronCampaign x, int i, int... want) {
        for (int what = 0; what < want.length; what++) {
            Due.is("pig(" + i + ", " + what + ")", x.pig(i, what), want[what]);
        }
    }

    /** "the IRON in THE HEARTH, if there is some, is a PIG", "NONE: no IRON" */
    private static void tapNeedsSomeIron() {
        Edge.refused("tap() of a new furnace", IronCampaign::new, IronCampaign::tap, NONE);
        Edge.refused("tap() of no IRON", Scenes::hot, IronCampaign::tap, NONE);
        IronCampaign x = Scenes.hot();
        x.rich(0, 10);
        Scenes.bringDown(x, 0, 9, 0);
        Due.is("90 by 100 is no IRON", x.tap(), NONE);
        Scenes.bringDown(x, 0, 10, 0);
        Due.is("100 by 100 is some", x.tap(), 0);
        Due.is("the least weight", x.pig(0, 0), 1);
        Due.is("THE HEARTH is empty", x.about(1), 0);
        Due.is("tap() again", x.tap(), NONE);
        Due.is("PIGS", x.count(1), 1);
    }

    /** "a PIG, numbered from 0 on"; a tap that makes none takes no number */
    private static void pigsAreNumberedFromNought() {
        IronCampaign x = Scenes.hot();
        Due.is("the first", Scenes.castPig(x, 10, 0), 0);
        Due.is("of no IRON", x.tap(), NONE);
        Due.is("the second", Scenes.castPig(x, 20, 0), 1);
        Due.is("weight of the first", x.pig(0, 0), 3);
        Due.is("weight of the second", x.pig(1, 0), 6);
    }

    /** "its SORT (the least of those CHARGES that MELTED" */
    private static void sortIsTheLeast() {
        for (int poor = 0; poor < 3; poor++) {
            IronCampaign x = Scenes.hot();
            Scenes.castPig(x, 10, 3);
            for (int i = 0; i < 3; i++) x.charge(1, 0, 10, i == poor ? 2 : 3);
            x.tick(1);
            x.tap();
            Due.is("the least at place " + poor, x.pig(1, 1), 2);
        }
        IronCampaign y = Scenes.hot();
        Scenes.castPig(y, 10, 3);
        Scenes.castPig(y, 10, 3);
        Due.is("of one CHARGE", y.pig(1, 1), 3);
        IronCampaign z = Scenes.atHeat(399);
        Scenes.bringDown(z, 0, 20, 4);
        z.tap();
        Due.is("SORT 0", z.pig(z.count(1) - 1, 1), 0);
    }

    /** "since the latest TAP with IRON": one without is none */
    private static void chargesSinceTheLatestTapWithIron() {
        IronCampaign x = Scenes.hot();
        Scenes.castPig(x, 10, 3);
        x.charge(1, 0, 1, 0);
        x.tick(1);
        Due.is("a tap without IRON", x.tap(), NONE);
        x.rule(0, true, 0, 2);
        x.tick(2);
        x.unrule();
        Due.is("RULES that tap without IRON", x.count(1), 1);
        x.charge(20, 0, 10, 3);
        x.tick(1);
        x.tap();
        facts(x, 1, 3, 2, 4, 5);
        Scenes.castPig(x, 10, 3);
        facts(x, 2, 3, 3, 6, 6);
    }

    /** "the first and last of these CHARGES": those that MELTED, a CHILL is none of them */
    private static void chargesAreTheFirstAndTheLast() {
        IronCampaign x = Scenes.heated(3);
        Scenes.castPig(x, 10, 3);
        x.charge(5, 0, 60, 0);
        x.charge(5, 0, 10, 3);
        x.charge(5, 0, 0, 0);
        x.charge(5, 0, 60, 0);
        x.tick(1);
        x.tap();
        facts(x, 1, 3, 1, 3, 4);
        Due.is("CHILLS", x.about(7), 2);
    }

    /** "(.. perhaps SPILLED in part)" */
    private static void spilledInPart() {
        IronCampaign x = Scenes.hot();
        Scenes.castPig(x, 10, 3);
        x.hearth(1, 100000);
        x.charge(10, 0, 10, 3);
        x.charge(10, 0, 10, 2);
        x.tick(1);
        x.tap();
        facts(x, 1, 1, 2, 4, 5);
        Due.is("SPILLED", x.about(8), 5);
    }

    /** "its hour (TICKS that were)" */
    private static void hourIsTicksThatWere() {
        IronCampaign x = Scenes.heated(1);
        x.charge(20, 0, 12, 0);
        x.tick(1);
        x.tap();
        Due.is("the earliest IRON", x.pig(0, 4), 2);
        IronCampaign y = Scenes.agedBy(4998);
        y.blast(20);
        y.charge(20, 0, 0, 0);
        y.charge(20, 0, 12, 0);
        y.tick(2);
        y.tap();
        Due.is("behind the last TICK", y.pig(0, 4), 5000);
        IronCampaign z = Scenes.hot();
        z.rule(2, true, 0, 2);
        z.charge(20, 0, 10, 0);
        z.tick(5);
        Due.is("by a RULE, as a TICK begins", z.pig(0, 4), 10);
    }

    /** "60 at most" */
    private static void sixtyAtMost() {
        IronCampaign x = Scenes.hot();
        for (int i = 0; i < 59; i++) Scenes.castPig(x, 10, 3);
        Due.is("the 60th", Scenes.castPig(x, 10, 3), 59);
        Due.is("the 61st", Scenes.castPig(x, 10, 3), FULL);
        Due.is("PIGS", x.count(1), 60);
        IronCampaign y = Scenes.hot();
        y.rule(2, true, 0, 2);
        for (int i = 0; i < 62; i++) {
            y.charge(20, 0, 10, 3);
            y.tick(1);
        }
        Due.is("PIGS by a RULE", y.count(1), 60);
        Due.is("IRON of the last two", y.about(1), 6);
    }

    /** "60 at most, else the IRON stays", "FULL." */
    private static void ironStaysWhenFull() {
        Edge.refused("tap() with 60 PIGS", () -> Scenes.allPigs(1), IronCampaign::tap, FULL);
        IronCampaign x = Scenes.allPigs(7);
        Due.is("tap()", x.tap(), FULL);
        Due.is("IRON stays", x.about(1), 7);
        x.rule(2, true, 0, 2);
        x.tick(3);
        Due.is("IRON stays for a RULE", x.about(1), 7);
        x.forge(15, 2000, 1);
        x.sell();
        Due.is("a PIG that is SOLD makes no room", x.tap(), FULL);
    }

    /** "NONE: no IRON; FULL." */
    private static void noneAheadOfFull() {
        Edge.refused("tap() of no IRON with 60 PIGS", () -> Scenes.allPigs(0), IronCampaign::tap, NONE);
    }

    /** Promise 13: pig. */
    private static final class Facts {
        static void main(String[] args) {
            forgeIsNoneTillSold();
            noneWhenNotSoMany();
            badForWhat();
            badBelowNought();
            badAheadOfNone();
        }

        /** "5 the FORGE it was SOLD to (NONE)" */
        private static void forgeIsNoneTillSold() {
            IronCampaign x = Scenes.hot();
            Scenes.castPig(x, 10, 3);
            Scenes.castPig(x, 20, 3);
            Due.is("at first", x.pig(0, 5), NONE);
            x.forge(15, 3, 1);
            x.forge(0, 3, 1);
            x.forge(15, 6, 1);
            x.sale();
            Due.is("behind sale()", x.pig(0, 5), NONE);
            x.sell();
            Due.is("to the first FORGE", x.pig(0, 5), 0);
            Due.is("to the last FORGE", x.pig(1, 5), 2);
        }

        /** "NONE: not so many." */
        private static void noneWhenNotSoMany() {
            Due.is("the first of none", new IronCampaign().pig(0, 0), NONE);
            IronCampaign x = Scenes.hot();
            Scenes.castPig(x, 10, 3);
            Due.is("the only one", x.pig(0, 0), 3);
            for (int what = 0; what < 6; what++) Due.is("the second of one", x.pig(1, what), NONE);
            Due.is("greatest int", x.pig(Integer.MAX_VALUE, 5), NONE);
            IronCampaign all = Scenes.allPigs(1);
            Due.is("the 60th", all.pig(59, 0), 5);
            Due.is("a 61st", all.pig(60, 0), NONE);
        }

        /** "BAD: what, or below 0.": what */
        private static void badForWhat() {
            Edge.range("pig", (x, a) -> x.pig(a[0], a[1]), new int[] {0, 0}, 1, 0, 5);
        }

        /** "BAD: what, or below 0.": below 0 */
        private static void badBelowNought() {
            Edge.refused("pig(-1, 0)", Scenes::busy, x -> x.pig(-1, 0), BAD);
            Edge.refused("pig(least int, 5)", Scenes::busy, x -> x.pig(Integer.MIN_VALUE, 5), BAD);
            Due.is("pig(-1, 0) of none", new IronCampaign().pig(-1, 0), BAD);
        }

        /** "Refused .. the first of: BAD" */
        private static void badAheadOfNone() {
            Due.is("what 6 of none", new IronCampaign().pig(0, 6), BAD);
            Due.is("what -1 of none", new IronCampaign().pig(0, -1), BAD);
        }
    }
}
