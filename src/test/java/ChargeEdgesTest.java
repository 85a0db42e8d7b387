/** The ends of CHARGES and THE COLUMN, and promises 4, 5 and 6 at theirs. Each test has its sentence above it. */
public final class ChargeEdgesTest {
    private static final int BAD = IronCampaign.BAD, NO = IronCampaign.NO, NONE = IronCampaign.NONE;
    private static final int FULL = IronCampaign.FULL;
    private static final Edge.Call CHARGE = (x, a) -> x.charge(a[0], a[1], a[2], a[3]);
    private static final int[] GOOD = {7, 1, 5, 3};

    public static void main(String[] args) {
        coalIsOneToSixty();
        kindIsNoughtToThree();
        oreIsNoughtToSixty();
        fluxIsNoughtToThirty();
        chargeTellsTheLeastAndTheMost();
        chargesAreNumberedFromNought();
        chargeIsNoWhenStoresHaveNotAsMuch();
        chargeOfNoughtNeedsNothing();
        twelveAtMostLieInTheColumn();
        columnTakesAgainWhenOneCameDown();
        fourHundredEver();
        chargeIsBadAheadOfNo();
        chargeIsBadAheadOfFull();
        chargeIsNoAheadOfFull();
        Facts.main(args);
        When.main(args);
        Due.end();
    }

    /** "CHARGES, as they come, .. have COAL (1 .. 60)" */
    private static void coalIsOneToSixty() {
        Edge.range("charge", CHARGE, GOOD, 0, 1, 60);
    }

    /** "ORE of a KIND", "ORE of KIND 0 .. 3" */
    private static void kindIsNoughtToThree() {
        Edge.range("charge", CHARGE, GOOD, 1, 0, 3);
    }

    /** "ORE of a KIND (0 .. 60)" */
    private static void oreIsNoughtToSixty() {
        Edge.range("charge", CHARGE, GOOD, 2, 0, 60);
    }

    /** "FLUX (0 .. 30)" */
    private static void fluxIsNoughtToThirty() {
        Edge.range("charge", CHARGE, GOOD, 3, 0, 30);
    }

    /** "COAL (1 .. 60), ORE of a KIND (0 .. 60), FLUX (0 .. 30)": as taken, so told */
    private static void chargeTellsTheLeastAndTheMost() {
        IronCampaign x = Scenes.stocked();
        x.charge(1, 0, 0, 0);
        x.charge(60, 3, 60, 30);
        facts(x, 0, 0, 1, 0, 0, 0, NONE, 0);
        facts(x, 1, 0, 60, 60, 30, 3, NONE, 0);
    }

    /** "CHARGES, as they come, numbered from 0 on"; a refused one takes no number */
    private static void chargesAreNumberedFromNought() {
        IronCampaign x = Scenes.stocked();
        Due.is("the first", x.charge(1, 0, 0, 0), 0);
        Due.is("a refused one", x.charge(61, 0, 0, 0), BAD);
        Due.is("the second", x.charge(1, 0, 0, 0), 1);
        x.blast(20);
        x.tick(1);
        Due.is("the third, when the others came down", x.charge(1, 0, 0, 0), 2);
    }

    private static IronCampaign withStores(int coal, int flux, int ore) {
        IronCampaign x = new IronCampaign();
        x.buy(0, coal);
        x.buy(1, flux);
        x.buy(4, ore);
        return x;
    }

    /** "NO: STORES have not as much" */
    private static void chargeIsNoWhenStoresHaveNotAsMuch() {
        Due.is("just as much", withStores(9, 8, 7).charge(9, 2, 7, 8), 0);
        Edge.refused("a basket of COAL short", () -> withStores(8, 8, 7), x -> x.charge(9, 2, 7, 8), NO);
        Edge.refused("a basket of FLUX short", () -> withStores(9, 7, 7), x -> x.charge(9, 2, 7, 8), NO);
        Edge.refused("a basket of ORE short", () -> withStores(9, 8, 6), x -> x.charge(9, 2, 7, 8), NO);
        Edge.refused("ORE of the KIND below", () -> withStores(9, 8, 7), x -> x.charge(9, 1, 7, 8), NO);
        Edge.refused("ORE of the KIND above", () -> withStores(9, 8, 7), x -> x.charge(9, 3, 7, 8), NO);
    }

    /** "ORE of a KIND (0 .. 60), FLUX (0 .. 30), all from STORES": nothing is asked of an empty one */
    private static void chargeOfNoughtNeedsNothing() {
        IronCampaign x = withStores(1, 0, 0);
        Due.is("COAL alone", x.charge(1, 2, 0, 0), 0);
        for (int s = 0; s < 6; s++) Due.is("store(" + s + ")", x.store(s), 0);
    }

    /** "12 at most lie in THE COLUMN", "FULL: 12 in THE COLUMN" */
    private static void twelveAtMostLieInTheColumn() {
        IronCampaign x = Scenes.stocked();
        for (int i = 0; i < 12; i++) {
            Due.is("in THE COLUMN", x.about(5), i);
            Due.is("CHARGE " + i, x.charge(2, 0, 1, 1), i);
        }
        Due.is("in THE COLUMN", x.about(5), 12);
        Edge.refused("the thirteenth", Scenes::fullColumn, y -> y.charge(1, 0, 0, 0), FULL);
    }

    /** "12 at most lie in THE COLUMN": those that came down lie there no longer */
    private static void columnTakesAgainWhenOneCameDown() {
        IronCampaign x = Scenes.fullColumn();
        x.blast(1);
        x.tick(1);
        Due.is("with 1 COAL left in the lowest", x.charge(1, 0, 0, 0), FULL);
        x.tick(1);
        Due.is("with the lowest come down", x.charge(1, 0, 0, 0), 12);
        Due.is("a thirteenth again", x.charge(1, 0, 0, 0), FULL);
    }

    /** "FULL: .. or 400 ever" */
    private static void fourHundredEver() {
        IronCampaign x = Scenes.stocked();
        x.blast(20);
        for (int i = 0; i < 399; i++) {
            x.charge(1, 0, 0, 0);
            if (i % 12 == 11) x.tick(1);
        }
        Due.is("the 400th", x.charge(1, 0, 0, 0), 399);
        Due.is("the 401st, with room in THE COLUMN", x.charge(1, 0, 0, 0), FULL);
        x.tick(1);
        Due.is("the last came down", x.chargeAt(399, 0), 1);
        Due.is("COAL burned, and no more", x.about(6), 400);
        Edge.refused("the 401st, of an empty COLUMN", () -> Scenes.allCharges(9), y -> y.charge(1, 0, 0, 0), FULL);
    }

    /** "Refused .. the first of: BAD -2 ..; NO -3 .." */
    private static void chargeIsBadAheadOfNo() {
        IronCampaign x = new IronCampaign();
        Due.is("COAL 61 of none", x.charge(61, 0, 0, 0), BAD);
        Due.is("COAL 0 and ORE of none", x.charge(0, 0, 1, 0), BAD);
        Due.is("no KIND, COAL of none", x.charge(1, 4, 0, 0), BAD);
        Due.is("ORE 61 of none", x.charge(1, 0, 61, 0), BAD);
        Due.is("FLUX 31 of none", x.charge(1, 0, 0, 31), BAD);
    }

    /** "Refused .. the first of: BAD -2 ..; FULL -4" */
    private static void chargeIsBadAheadOfFull() {
        Edge.refused("BAD, 12 in THE COLUMN", Scenes::fullColumn, x -> x.charge(0, 0, 0, 0), BAD);
        Edge.refused("BAD, 400 ever", () -> Scenes.allCharges(9), x -> x.charge(1, 0, 0, 31), BAD);
    }

    /** "Refused .. the first of: ..; NO -3 as told; FULL -4" */
    private static void chargeIsNoAheadOfFull() {
        Edge.refused("NO, 12 in THE COLUMN", () -> {
            IronCampaign x = withStores(12, 0, 0);
            for (int i = 0; i < 12; i++) x.charge(1, 0, 0, 0);
            return x;
        }, x -> x.charge(1, 0, 0, 0), NO);
        Edge.refused("NO, 400 ever", () -> Scenes.allCharges(9), x -> x.charge(10, 0, 0, 0), NO);
    }

    private static void facts(IronCampaign x, int i, int... want) {
        for (int what = 0; what < want.length; what++) {
            Due.is("chargeAt(" + i + ", " + what + ")", x.chargeAt(i, what), want[what]);
        }
    }

    /** Promise 5: chargeAt. */
    private static final class Facts {
        static void main(String[] args) {
            standsInTheColumnTillItsLastCoal();
            sortIsNoneTillItMelts();
            ironIsNoughtTillItMelts();
            factsStayBehindTheMelt();
            noneWhenNotSoMany();
            badForWhat();
            badBelowNought();
            badAheadOfNone();
        }

        /** "0 how it stands (0 in THE COLUMN, 1 MELTED, 2 a CHILL), 1 COAL left" */
        private static void standsInTheColumnTillItsLastCoal() {
            IronCampaign x = Scenes.stocked();
            x.charge(2, 0, 0, 0);
            x.charge(1, 0, 1, 0);
            x.blast(1);
            x.tick(1);
            facts(x, 0, 0, 1);
            x.tick(1);
            facts(x, 0, 1, 0);
            facts(x, 1, 0, 1);
            x.tick(1);
            facts(x, 1, 2, 0);
        }

        /** "5 SORT (NONE: it did not MELT)" */
        private static void sortIsNoneTillItMelts() {
            IronCampaign x = Scenes.stocked();
            x.charge(1, 0, 1, 0);
            x.charge(1, 0, 0, 0);
            Due.is("SORT in THE COLUMN", x.chargeAt(0, 5), NONE);
            x.blast(2);
            x.tick(1);
            Due.is("SORT of a CHILL", x.chargeAt(0, 5), NONE);
            Due.is("SORT of one that MELTED cold", x.chargeAt(1, 5), 1);
            int number = Scenes.bringDown(Scenes.atHeat(399), 0, 1, 0);
            IronCampaign y = Scenes.atHeat(399);
            Due.is("the same CHARGE", Scenes.bringDown(y, 0, 1, 0), number);
            Due.is("SORT 0 is not NONE", y.chargeAt(number, 5), 0);
        }

        /** "6 IRON it made" */
        private static void ironIsNoughtTillItMelts() {
            IronCampaign x = Scenes.hot();
            int melts = x.charge(1, 0, 60, 0);
            Due.is("IRON in THE COLUMN", x.chargeAt(melts, 6), 0);
            x.blast(1);
            x.tick(1);
            Due.is("IRON of 60 ORE", x.chargeAt(melts, 6), 18);
            IronCampaign y = Scenes.stocked();
            Due.is("IRON of a CHILL", y.chargeAt(Scenes.bringDown(y, 0, 60, 0), 6), 0);
        }

        /** "1 COAL left, 2 ORE, 3 FLUX, 4 KIND": of one that came down too */
        private static void factsStayBehindTheMelt() {
            IronCampaign x = Scenes.hot();
            int number = Scenes.bringDown(x, 3, 60, 30);
            facts(x, number, 1, 0, 60, 30, 3, 3, 18);
            IronCampaign y = Scenes.stocked();
            facts(y, Scenes.bringDown(y, 3, 60, 30), 2, 0, 60, 30, 3, NONE, 0);
        }

        /** "NONE: not so many." */
        private static void noneWhenNotSoMany() {
            IronCampaign x = new IronCampaign();
            Due.is("the first of none", x.chargeAt(0, 0), NONE);
            x.buy(0, 1);
            x.charge(1, 0, 0, 0);
            Due.is("the only one", x.chargeAt(0, 0), 0);
            for (int what = 0; what < 7; what++) Due.is("the second of one", x.chargeAt(1, what), NONE);
            Due.is("greatest int", x.chargeAt(Integer.MAX_VALUE, 0), NONE);
            IronCampaign all = Scenes.allCharges(0);
            Due.is("the 400th", all.chargeAt(399, 0), 1);
            Due.is("a 401st", all.chargeAt(400, 0), NONE);
        }

        /** "BAD: what, or below 0.": what */
        private static void badForWhat() {
            Edge.range("chargeAt", (x, a) -> x.chargeAt(a[0], a[1]), new int[] {3, 0}, 1, 0, 6);
        }

        /** "BAD: what, or below 0.": below 0 */
        private static void badBelowNought() {
            Edge.refused("chargeAt(-1, 0)", Scenes::busy, x -> x.chargeAt(-1, 0), BAD);
            Edge.refused("chargeAt(least int, 6)", Scenes::busy, x -> x.chargeAt(Integer.MIN_VALUE, 6), BAD);
            Due.is("chargeAt(-1, 0) of none", new IronCampaign().chargeAt(-1, 0), BAD);
        }

        /** "Refused .. the first of: BAD" */
        private static void badAheadOfNone() {
            Due.is("what 7 of none", new IronCampaign().chargeAt(0, 7), BAD);
            Due.is("what -1 of none", new IronCampaign().chargeAt(0, -1), BAD);
        }
    }

    /** Promise 6: when. */
    private static final class When {
        static void main(String[] args) {
            countsToTheTickThatBurnsItsLastCoal();
            countsFromNowOn();
            countsTheLongestColumn();
            leavesRulesOut();
            noneWhenItCameDown();
            noneWhenBlastIsNought();
            badWhenNotSoMany();
            badAheadOfNone();
            changesNothing();
        }

        private static int whenAt(int blast, int coal) {
            IronCampaign x = Scenes.stocked();
            x.charge(coal, 0, 0, 0);
            x.blast(blast);
            int told = x.when(0);
            for (int i = 1; i < told; i++) x.tick(1);
            Due.is("still in THE COLUMN", x.chargeAt(0, 0), 0);
            x.tick(1);
            Due.is("come down", x.chargeAt(0, 0), 1);
            return told;
        }

        /** "how many TICKS from now on till a CHARGE comes down" */
        private static void countsToTheTickThatBurnsItsLastCoal() {
            Due.is("1 COAL, BLAST 1", whenAt(1, 1), 1);
            Due.is("1 COAL, BLAST 20", whenAt(20, 1), 1);
            Due.is("19 COAL, BLAST 20", whenAt(20, 19), 1);
            Due.is("20 COAL, BLAST 20", whenAt(20, 20), 1);
            Due.is("21 COAL, BLAST 20", whenAt(20, 21), 2);
            Due.is("60 COAL, BLAST 20", whenAt(20, 60), 3);
            Due.is("41 COAL, BLAST 20", whenAt(20, 41), 3);
            Due.is("40 COAL, BLAST 20", whenAt(20, 40), 2);
            Due.is("60 COAL, BLAST 1", whenAt(1, 60), 60);
        }

        /** "from now on": what burned already is not counted, what lies above isn't either */
        private static void countsFromNowOn() {
            IronCampaign x = Scenes.stocked();
            for (int i = 0; i < 3; i++) x.charge(30, 0, 0, 0);
            x.blast(10);
            x.tick(4);
            Due.is("when(1) with 20 left", x.when(1), 2);
            Due.is("when(2)", x.when(2), 5);
            x.blast(7);
            Due.is("with BLAST as it is", x.when(1), 3);
        }

        /** "12 at most lie in THE COLUMN", "COAL (1 .. 60)" */
        private static void countsTheLongestColumn() {
            IronCampaign x = Scenes.stocked();
            for (int i = 0; i < 12; i++) x.charge(60, 0, 0, 0);
            x.blast(1);
            Due.is("the highest at BLAST 1", x.when(11), 720);
            Due.is("the lowest at BLAST 1", x.when(0), 60);
            x.blast(20);
            Due.is("the highest at BLAST 20", x.when(11), 36);
        }

        /** "With BLAST as it is, and no RULES" */
        private static void leavesRulesOut() {
            IronCampaign x = Scenes.heated(2);
            x.charge(60, 0, 0, 0);
            x.blast(1);
            x.rule(0, true, 0, 0);
            Due.is("a RULE for more", x.when(1), 60);
            x.rule(0, true, 0, 1);
            x.rule(0, true, 0, 1);
            Due.is("RULES for less", x.when(1), 60);
        }

        /** "NONE: it did" */
        private static void noneWhenItCameDown() {
            IronCampaign x = Scenes.heated(1);
            int chill = Scenes.bringDown(x, 0, 60, 0);
            Due.is("one that MELTED", x.when(0), NONE);
            Due.is("a CHILL", x.when(chill), NONE);
            x.blast(0);
            Due.is("came down, and BLAST is 0", x.when(0), NONE);
        }

        /** "or BLAST is 0" */
        private static void noneWhenBlastIsNought() {
            IronCampaign x = Scenes.stocked();
            x.charge(1, 0, 0, 0);
            Due.is("BLAST 0", x.when(0), NONE);
            x.blast(1);
            Due.is("BLAST 1", x.when(0), 1);
            x.blast(0);
            Due.is("BLAST 0 again", x.when(0), NONE);
        }

        /** "BAD: not so many." */
        private static void badWhenNotSoMany() {
            Due.is("the first of none", new IronCampaign().when(0), BAD);
            int last = Scenes.busy().count(0) - 1;
            Due.holds("the last there is", Scenes.busy().when(last) > 0);
            for (int i : new int[] {last + 1, Integer.MAX_VALUE, -1, Integer.MIN_VALUE}) {
                Edge.refused("when(" + i + ")", Scenes::busy, x -> x.when(i), BAD);
            }
        }

        /** "Refused .. the first of: BAD" */
        private static void badAheadOfNone() {
            IronCampaign x = Scenes.stocked();
            x.charge(1, 0, 0, 0);
            Due.is("not so many, and BLAST is 0", x.when(1), BAD);
            Due.is("below 0, and BLAST is 0", x.when(-1), BAD);
        }

        /** "how many TICKS from now on": none of them is done */
        private static void changesNothing() {
            IronCampaign x = Scenes.busy();
            Due.holds("some TICKS", x.when(x.count(0) - 1) > 0);
            Edge.sameFromNowOn("when()", x, Scenes.busy());
        }
    }
}
