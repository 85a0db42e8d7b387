/** Promises 7 (blast), 8 (hearth), 9 (tick) and 11 (about). */
public final class FurnaceTest {
    public static void main(String[] args) {
        blastAnswersWhatItWas();
        blastBurnsTheLowestFirst();
        heatRisesAndFalls();
        heatStaysWithinItsEnds();
        meltNeedsTenTimesItsOre();
        eachMeltCoolsTheNext();
        sortCountsFluxAndHeat();
        sortOneBelowItsHeats();
        richnessCountsAsItIsThen();
        chillIsAllSlag();
        hearthSpills();
        hearthRefuses();
        wearIsHeatByHundredCut();
        wearPutsItOut();
        firstLifeIsAThousand();
        lifeMadeLessCountsAsATickEnds();
        tickRefuses();
        tickEndsAtFiveThousand();
        aboutRefuses();
        whatWentInAddsUp();
        Due.end();
    }

    private static void blastAnswersWhatItWas() {
        IronCampaign x = new IronCampaign();
        Due.is("blast(20)", x.blast(20), 0);
        Due.is("blast(0)", x.blast(0), 20);
        Due.is("blast(7)", x.blast(7), 0);
        Due.is("blast(21)", x.blast(21), IronCampaign.BAD);
        Due.is("blast(-1)", x.blast(-1), IronCampaign.BAD);
        Due.is("about(11)", x.about(11), 7);
    }

    private static void blastBurnsTheLowestFirst() {
        IronCampaign x = Scenes.stocked();
        x.charge(5, 0, 0, 0);
        x.charge(6, 0, 0, 0);
        x.charge(7, 0, 0, 0);
        x.blast(12);
        Due.is("tick(1)", x.tick(1), 1);
        Due.is("the lowest", x.chargeAt(0, 0), 1);
        Due.is("the next", x.chargeAt(1, 0), 1);
        Due.is("COAL of the third", x.chargeAt(2, 1), 6);
        Due.is("burned", x.about(6), 12);
        Due.is("in THE COLUMN", x.about(5), 1);
        x.tick(1);
        Due.is("burned, what there was", x.about(6), 18);
        Due.is("HEAT of what burned", x.about(0), 56 + 8);
        x.tick(1);
        Due.is("burned of an empty COLUMN", x.about(6), 18);
        Due.is("TICKS", x.about(4), 3);
    }

    private static void heatRisesAndFalls() {
        IronCampaign x = Scenes.stocked();
        for (int i = 0; i < 3; i++) x.charge(60, 0, 0, 0);
        x.blast(5);
        x.tick(2);
        Due.is("HEAT at BLAST 5", x.about(0), 0);
        x.blast(6);
        x.tick(2);
        Due.is("HEAT at BLAST 6", x.about(0), 16);
        x.blast(4);
        x.tick(1);
        Due.is("HEAT at BLAST 4", x.about(0), 8);
        x.blast(20);
        x.tick(1);
        Due.is("HEAT at BLAST 20", x.about(0), 128);
        x.blast(0);
        x.tick(1);
        Due.is("HEAT at BLAST 0", x.about(0), 88);
    }

    private static void heatStaysWithinItsEnds() {
        IronCampaign x = Scenes.hot();
        Due.is("HEAT at most", x.about(0), 1000);
        Due.is("WEAR of nine TICKS", x.about(3), 1 + 2 + 3 + 4 + 6 + 7 + 8 + 9 + 10);
        x.tick(25);
        Due.is("HEAT gone", x.about(0), 0);
        x.tick(1);
        Due.is("HEAT at least", x.about(0), 0);
        IronCampaign y = Scenes.heated(1);
        y.tick(2);
        Due.is("HEAT 120 less 2 times 40", y.about(0), 40);
        y.tick(1);
        Due.is("HEAT 120 less 3 times 40", y.about(0), 0);
    }

    private static void meltNeedsTenTimesItsOre() {
        IronCampaign x = Scenes.heated(2);
        x.charge(20, 0, 24, 6);
        x.tick(1);
        Due.is("HEAT 240, ORE 24", x.chargeAt(1, 0), 1);
        Due.is("its IRON", x.chargeAt(1, 6), 7);
        Due.is("SLAG", x.about(2), 17 + 6);
        Due.is("HEAT behind it", x.about(0), 240 - 120 + 120);
        Due.is("IRON in THE HEARTH", x.about(1), 7);
        Due.is("IRON made", x.about(10), 7);
        Due.is("CHILLS", x.about(7), 0);

        IronCampaign y = Scenes.heated(2);
        y.charge(20, 0, 25, 6);
        y.tick(1);
        Due.is("HEAT 240, ORE 25", y.chargeAt(1, 0), 2);
        Due.is("HEAT behind a CHILL", y.about(0), 360);
    }

    private static void eachMeltCoolsTheNext() {
        IronCampaign x = Scenes.heated(2);
        x.charge(5, 0, 20, 5);
        x.charge(5, 0, 15, 5);
        x.charge(5, 0, 14, 5);
        x.charge(5, 0, 7, 5);
        x.tick(1);
        Due.is("ORE 20 at 240", x.chargeAt(1, 0), 1);
        Due.is("ORE 15 at 140", x.chargeAt(2, 0), 2);
        Due.is("ORE 14 at 140", x.chargeAt(3, 0), 1);
        Due.is("ORE 7 at 70", x.chargeAt(4, 0), 1);
        Due.is("HEAT", x.about(0), 35 + 120);
        Due.is("CHILLS", x.about(7), 1);
        Due.is("IRON", x.about(1), 6 + 4 + 2);
        Due.is("SLAG", x.about(2), 14 + 15 + 10 + 5 + 20);
    }

    /** HEAT 360, then one TICK more that burns b: HEAT 320 + 8 b. */
    private static IronCampaign heatedTo(int b) {
        IronCampaign x = Scenes.heated(3);
        Due.is("HEAT", heatBehindBurning(x, b), 320 + 8 * b);
        return x;
    }

    private static void sortCountsFluxAndHeat() {
        Due.is("flux short, HEAT 392", sortAfter(heatedTo(9), 8, 1), 0);
        Due.is("flux enough, HEAT 392", sortAfter(heatedTo(9), 8, 2), 1);
        Due.is("flux short, HEAT 400", sortAfter(heatedTo(10), 8, 1), 1);
        Due.is("flux enough, HEAT 400", sortAfter(heatedTo(10), 8, 2), 2);
        Due.is("ORE 9 wants FLUX 3", sortAfter(heatedTo(10), 9, 2), 1);
        Due.is("HEAT 1000, flux short", sortAfter(Scenes.hot(), 40, 9), 2);
        Due.is("HEAT 1000, flux enough", sortAfter(Scenes.hot(), 40, 10), 3);
        Due.is("HEAT 700", sortAfter(heatedToSevenHundred(18 + 2), 4, 1), 3);
        Due.is("HEAT 692", sortAfter(heatedToSevenHundred(18 + 1), 4, 1), 2);
    }

    private static void sortOneBelowItsHeats() {
        IronCampaign x = Scenes.stocked();
        x.blast(20);
        x.charge(40, 0, 0, 0);
        x.charge(20, 0, 5, 0);
        x.tick(3);
        Due.is("HEAT 399", heatBehindBurning(x, 13), 399);
        Due.is("SORT at 399", sortAfter(x, 4, 1), 1);

        IronCampaign y = Scenes.stocked();
        y.blast(20);
        y.charge(60, 0, 0, 0);
        y.charge(40, 0, 1, 0);
        y.tick(5);
        Due.is("HEAT 699", heatBehindBurning(y, 18), 699);
        Due.is("SORT at 699", sortAfter(y, 4, 1), 2);
    }

    private static int heatBehindBurning(IronCampaign x, int coal) {
        x.blast(coal);
        x.charge(coal, 0, 0, 0);
        x.tick(1);
        return x.about(0);
    }

    private static IronCampaign heatedToSevenHundred(int lastBurn) {
        IronCampaign x = Scenes.stocked();
        x.blast(20);
        x.charge(60, 0, 0, 0);
        x.charge(40, 0, 4, 0);
        x.tick(5);
        Due.is("HEAT 480 less 20 and 120 more", x.about(0), 580);
        Due.is("HEAT", heatBehindBurning(x, lastBurn), 540 + 8 * lastBurn);
        return x;
    }

    private static int sortAfter(IronCampaign x, int ore, int flux) {
        x.blast(1);
        int i = x.charge(1, 0, ore, flux);
        x.tick(1);
        return x.chargeAt(i, 5);
    }

    private static void richnessCountsAsItIsThen() {
        IronCampaign x = Scenes.hot();
        x.charge(20, 1, 50, 0);
        x.rich(1, 60);
        x.rich(0, 10);
        x.tick(1);
        Due.is("IRON at the new RICHNESS", x.chargeAt(3, 6), 30);
        x.rich(1, 10);
        Due.is("IRON stays as made", x.chargeAt(3, 6), 30);
        Due.is("IRON in THE HEARTH", x.about(1), 30);
    }

    private static void chillIsAllSlag() {
        IronCampaign x = Scenes.stocked();
        x.charge(20, 0, 13, 4);
        x.blast(20);
        x.tick(1);
        Due.is("a CHILL", x.chargeAt(0, 0), 2);
        Due.is("SLAG", x.about(2), 17);
        Due.is("CHILLS", x.about(7), 1);
        Due.is("IRON made", x.about(10), 0);
        Due.is("HEAT", x.about(0), 120);
    }

    private static void hearthSpills() {
        IronCampaign x = Scenes.hot();
        Due.is("hearth(10, 100000)", x.hearth(10, 100000), 1);
        x.charge(20, 0, 40, 3);
        x.tick(1);
        Due.is("IRON held", x.about(1), 10);
        Due.is("SPILLED", x.about(8), 2);
        Due.is("IRON made", x.about(10), 12);
        Due.is("SLAG with what SPILLED", x.about(2), 28 + 3 + 2);
        Due.is("SLAG seen", x.sign(1), 33);
        Due.is("IRON that the CHARGE made", x.chargeAt(3, 6), 12);
        x.hearth(4, 100000);
        Due.is("nothing spills between TICKS", x.about(1), 10);
        x.tick(1);
        Due.is("IRON held behind a TICK", x.about(1), 4);
        Due.is("SPILLED in all", x.about(8), 8);
        Due.is("SLAG in all", x.about(2), 39);
        Due.is("SLAG seen, only SPILLED", x.sign(1), 6);

        IronCampaign first = Scenes.stocked();
        first.rich(0, 60);
        first.blast(20);
        for (int i = 0; i < 3; i++) first.charge(60, 0, 0, 0);
        first.tick(9);
        for (int i = 0; i < 3; i++) {
            first.charge(20, 0, 60, 0);
            first.tick(1);
        }
        Due.is("HOLDS 100 at first", first.about(1), 100);
        Due.is("the rest SPILLED", first.about(8), 3 * 36 - 100);
    }

    private static void hearthRefuses() {
        IronCampaign x = Scenes.stocked();
        Due.is("hearth(0, 1)", x.hearth(0, 1), IronCampaign.BAD);
        Due.is("hearth(501, 1)", x.hearth(501, 1), IronCampaign.BAD);
        Due.is("hearth(1, 0)", x.hearth(1, 0), IronCampaign.BAD);
        Due.is("hearth(1, 100001)", x.hearth(1, 100001), IronCampaign.BAD);
        Due.is("hearth(-5, -5)", x.hearth(-5, -5), IronCampaign.BAD);
        x.blast(20);
        for (int i = 0; i < 3; i++) x.charge(60, 0, 0, 0);
        Due.is("LIFE stays 1000", x.tick(9), 9);
        x.charge(20, 0, 60, 0);
        x.tick(1);
        Due.is("THE HEARTH HOLDS as much as ahead", x.about(1), 18);
        Due.is("hearth(1, 1)", x.hearth(1, 1), 1);
        Due.is("hearth(500, 100000)", x.hearth(500, 100000), 1);
    }

    private static void wearIsHeatByHundredCut() {
        IronCampaign x = Scenes.stocked();
        for (int i = 0; i < 3; i++) x.charge(60, 0, 0, 0);
        x.blast(20);
        x.tick(6);
        Due.is("WEAR at 720", x.about(3), 1 + 2 + 3 + 4 + 6 + 7);
        x.blast(14);
        x.tick(1);
        Due.is("HEAT 792", x.about(0), 792);
        Due.is("WEAR 7 more", x.about(3), 30);
        x.blast(6);
        x.tick(1);
        Due.is("HEAT 800", x.about(0), 800);
        Due.is("WEAR 8 more", x.about(3), 38);
    }

    private static void fill(IronCampaign x) {
        while (x.about(5) < 12) x.charge(60, 0, 0, 0);
    }

    /** WEAR 40 at HEAT 960, then 101 TICKS of 9 and 5 of 10. */
    private static void firstLifeIsAThousand() {
        IronCampaign x = Scenes.stocked();
        fill(x);
        x.blast(20);
        x.tick(8);
        x.blast(5);
        x.tick(50);
        x.tick(50);
        x.tick(1);
        fill(x);
        x.blast(20);
        Due.is("tick(5)", x.tick(5), 5);
        Due.is("WEAR one below", x.about(3), 999);
        Due.is("not OUT", x.about(9), 0);
        Due.is("one TICK goes", x.tick(50), 1);
        Due.is("OUT", x.about(9), 1);
    }

    private static void wearPutsItOut() {
        IronCampaign x = Scenes.stocked();
        x.hearth(500, 6);
        x.blast(20);
        x.charge(60, 0, 0, 0);
        x.charge(60, 0, 0, 0);
        Due.is("tick(2)", x.tick(2), 2);
        Due.is("WEAR", x.about(3), 3);
        Due.is("not OUT", x.about(9), 0);
        Due.is("tick(50) to WEAR 6", x.tick(50), 1);
        Due.is("WEAR is LIFE", x.about(3), 6);
        Due.is("OUT", x.about(9), 1);
        Due.is("tick(1) when OUT", x.tick(1), IronCampaign.NO);
        Due.is("tick(0) when OUT", x.tick(0), IronCampaign.BAD);
        x.hearth(500, 100000);
        Due.is("OUT for good", x.tick(1), IronCampaign.NO);
        Due.is("TICKS", x.about(4), 3);
        Due.is("CHARGE when OUT", x.charge(1, 0, 0, 0), 2);
        Due.is("BLAST when OUT", x.blast(3), 20);
        Due.is("HEAT when OUT", x.about(0), 360);

        IronCampaign y = Scenes.heated(3);
        y.hearth(500, 7);
        Due.is("WEAR below LIFE", y.about(9), 0);
        Due.is("HEAT 320 wears 3", y.tick(50), 1);
        Due.is("WEAR above LIFE", y.about(3), 9);
    }

    private static void lifeMadeLessCountsAsATickEnds() {
        IronCampaign x = Scenes.heated(3);
        x.hearth(100, 1);
        Due.is("not OUT before a TICK", x.about(9), 0);
        Due.is("one TICK goes", x.tick(50), 1);
        Due.is("OUT behind it", x.about(9), 1);
        IronCampaign hot = Scenes.hot();
        hot.tick(25);
        int wear = hot.about(3);
        hot.tick(1);
        Due.is("cold does not WEAR", hot.about(3), wear);
        hot.hearth(100, wear + 1);
        Due.is("one below LIFE", hot.tick(50), 50);
        hot.hearth(100, wear);
        Due.is("at LIFE without growing", hot.tick(50), 1);
        Due.is("first LIFE is 1000", lastsAtFullHeat(), 9 + 95);
    }

    /** TICKS until OUT with the first LIFE: WEAR is 50 behind nine, then 10 each. */
    private static int lastsAtFullHeat() {
        IronCampaign x = Scenes.stocked();
        x.blast(20);
        for (int i = 0; i < 120 && x.about(9) == 0; i++) {
            x.charge(20, 0, 0, 0);
            x.tick(1);
        }
        return x.about(4);
    }

    private static void tickRefuses() {
        IronCampaign x = new IronCampaign();
        Due.is("tick(0)", x.tick(0), IronCampaign.BAD);
        Due.is("tick(-1)", x.tick(-1), IronCampaign.BAD);
        Due.is("tick(51)", x.tick(51), IronCampaign.BAD);
        Due.is("tick(greatest int)", x.tick(Integer.MAX_VALUE), IronCampaign.BAD);
        Due.is("TICKS", x.about(4), 0);
        Due.is("tick(1)", x.tick(1), 1);
        Due.is("tick(50)", x.tick(50), 50);
    }

    private static void tickEndsAtFiveThousand() {
        IronCampaign x = Scenes.stocked();
        for (int i = 0; i < 99; i++) x.tick(50);
        x.tick(49);
        Due.is("TICKS", x.about(4), 4999);
        Due.is("tick(2)", x.tick(2), IronCampaign.FULL);
        Due.is("TICKS after it", x.about(4), 4999);
        Due.is("tick(51)", x.tick(51), IronCampaign.BAD);
        Due.is("tick(1)", x.tick(1), 1);
        Due.is("tick(1) above", x.tick(1), IronCampaign.FULL);
        Due.is("TICKS in all", x.about(4), 5000);

        IronCampaign y = Scenes.stocked();
        for (int i = 0; i < 99; i++) y.tick(50);
        y.charge(60, 0, 0, 0);
        y.blast(20);
        y.hearth(1, 1);
        y.tick(1);
        Due.is("OUT", y.about(9), 1);
        Due.is("NO ahead of FULL", y.tick(50), IronCampaign.NO);
    }

    private static void aboutRefuses() {
        IronCampaign x = new IronCampaign();
        Due.is("about(-1)", x.about(-1), IronCampaign.BAD);
        Due.is("about(12)", x.about(12), IronCampaign.BAD);
        Due.is("about(least int)", x.about(Integer.MIN_VALUE), IronCampaign.BAD);
    }

    /** All ORE and FLUX that came down is IRON in THE HEARTH, in PIGS, or SLAG. */
    private static void whatWentInAddsUp() {
        IronCampaign x = Scenes.hot();
        x.hearth(40, 100000);
        int in = 0;
        for (int i = 0; i < 60; i++) {
            int ore = (i * 7) % 61;
            int flux = (i * 11) % 31;
            x.rich(i % 4, 10 + i % 51);
            x.charge(15, i % 4, ore, flux);
            in += ore + flux;
            x.tick(1);
            if (i % 5 == 0) x.tap();
        }
        x.tick(5);
        int pigs = 0;
        for (int i = 0; i < x.count(1); i++) pigs += x.pig(i, 0);
        Due.is("IRON and SLAG", x.about(1) + x.about(2) + pigs, in);
        Due.is("IRON made", x.about(1) + x.about(8) + pigs, x.about(10));
        Due.is("COAL", x.store(0) + x.about(6), 10000);
        Due.holds("some CHILLS", x.about(7) > 0);
        Due.holds("some SPILLED", x.about(8) > 0);
    }
}
