/** A TICK at its ends, and promises 7, 8, 9 and 11 at theirs. Each test has its sentence above it. */
public final class FurnaceEdgesTest {
    private static final int BAD = IronCampaign.BAD, NO = IronCampaign.NO, FULL = IronCampaign.FULL;

    public static void main(String[] args) {
        blastIsNoughtToTwenty();
        blastIsNoughtAtFirst();
        blastBurnsWhatThereIs();
        blastBurnsNothingAtNought();
        blastBurnsTheLowestFirst();
        chargeComesDownWithItsLastCoal();
        twelveMayComeDownAtOnce();
        Melts.main(args);
        Sorts.main(args);
        heatIsNotBelowNought();
        heatIsNotAboveAThousand();
        heatIsHeldInBehindTheCharges();
        Holds.main(args);
        Wears.main(args);
        Ticks.main(args);
        aboutIsNoughtToEleven();
        Due.end();
    }

    /** "BLAST b (0 .. 20", "BLAST: what it was. BAD." */
    private static void blastIsNoughtToTwenty() {
        Edge.range("blast", (x, a) -> x.blast(a[0]), new int[] {5}, 0, 0, 20);
        IronCampaign x = new IronCampaign();
        Due.is("blast(20)", x.blast(20), 0);
        Due.is("blast(21)", x.blast(21), BAD);
        Due.is("blast(0)", x.blast(0), 20);
        Due.is("blast(-1)", x.blast(-1), BAD);
        Due.is("about(11)", x.about(11), 0);
    }

    /** "BLAST b (0 .. 20; 0 at first)" */
    private static void blastIsNoughtAtFirst() {
        IronCampaign x = Scenes.stocked();
        x.charge(1, 0, 0, 0);
        x.tick(50);
        Due.is("nothing burned", x.about(6), 0);
        Due.is("still in THE COLUMN", x.chargeAt(0, 0), 0);
        Due.is("blast(1)", x.blast(1), 0);
    }

    private static int burnedAtTwenty(int coal) {
        IronCampaign x = Scenes.stocked();
        x.charge(coal, 0, 0, 0);
        x.blast(20);
        x.tick(1);
        return x.about(6);
    }

    /** "burns COAL of THE COLUMN: b baskets, or what there is" */
    private static void blastBurnsWhatThereIs() {
        Due.is("one less than BLAST", burnedAtTwenty(19), 19);
        Due.is("just BLAST", burnedAtTwenty(20), 20);
        Due.is("one more than BLAST", burnedAtTwenty(21), 20);
        Due.is("the least", burnedAtTwenty(1), 1);
        IronCampaign x = Scenes.heated(1);
        x.tick(1);
        Due.is("an empty COLUMN burns nothing", x.about(6), 20);
        Due.is("HEAT 40 less", x.about(0), 80);
    }

    /** "BLAST b (0 .. 20": at 0 a TICK goes, and burns nothing */
    private static void blastBurnsNothingAtNought() {
        IronCampaign x = Scenes.heated(1);
        x.charge(1, 0, 0, 0);
        x.blast(0);
        Due.is("tick(1)", x.tick(1), 1);
        Due.is("burned as ahead", x.about(6), 20);
        Due.is("its COAL", x.chargeAt(1, 1), 1);
        Due.is("HEAT 40 less", x.about(0), 80);
    }

    /** "of the lowest CHARGES first", "those that came first lowest" */
    private static void blastBurnsTheLowestFirst() {
        IronCampaign x = Scenes.stocked();
        for (int i = 0; i < 3; i++) x.charge(4, 0, 0, 0);
        x.blast(5);
        x.tick(1);
        Due.is("the lowest", x.chargeAt(0, 1), 0);
        Due.is("the middle", x.chargeAt(1, 1), 3);
        Due.is("the highest", x.chargeAt(2, 1), 4);
    }

    /** "A CHARGE the COAL of which is all burned comes down" */
    private static void chargeComesDownWithItsLastCoal() {
        IronCampaign x = Scenes.stocked();
        x.charge(20, 0, 0, 0);
        x.blast(19);
        x.tick(1);
        Due.is("1 COAL left", x.chargeAt(0, 0), 0);
        Due.is("in THE COLUMN", x.about(5), 1);
        x.blast(1);
        x.tick(1);
        Due.is("no COAL left", x.chargeAt(0, 0), 1);
        Due.is("in THE COLUMN", x.about(5), 0);
    }

    /** "(several may, the lowest first)" */
    private static void twelveMayComeDownAtOnce() {
        IronCampaign x = Scenes.atHeat(120);
        x.blast(12);
        int first = x.count(0);
        for (int i = 0; i < 12; i++) x.charge(1, 0, 6, 0);
        x.tick(1);
        Due.is("in THE COLUMN", x.about(5), 0);
        // HEAT 120, 90 and 60 are enough for 6 ORE; 30 is not.
        for (int i = 0; i < 12; i++) Due.is("CHARGE " + i + " of twelve", x.chargeAt(first + i, 0), i < 3 ? 1 : 2);
        Due.is("CHILLS", x.about(7), 9);
        Due.is("HEAT", x.about(0), 30 + 96 - 40);
    }

    /** What MELTS, what is a CHILL. */
    private static final class Melts {
        static void main(String[] args) {
            atTenTimesItsOre();
            withoutOreInTheCold();
            withTheMostOre();
            ironIsCut();
            richnessIsAsItIsNow();
            coolsByFiveTimesItsOre();
            chillDoesNotCool();
            chillIsAllSlag();
        }

        private static int standAt(int heat, int ore) {
            IronCampaign x = Scenes.atHeat(heat);
            return x.chargeAt(Scenes.bringDown(x, 0, ore, 0), 0);
        }

        /** "if HEAT is 10 times its ORE's baskets or more, it MELTS .. else it is a CHILL" */
        private static void atTenTimesItsOre() {
            Due.is("HEAT 250, ORE 25", standAt(250, 25), 1);
            Due.is("HEAT 249, ORE 25", standAt(249, 25), 2);
            Due.is("HEAT 251, ORE 25", standAt(251, 25), 1);
            Due.is("HEAT 250, ORE 26", standAt(250, 26), 2);
            Due.is("HEAT 30, ORE 3", standAt(30, 3), 1);
            Due.is("HEAT 29, ORE 3", standAt(29, 3), 2);
        }

        /** "10 times its ORE's baskets or more": 0 is enough for none */
        private static void withoutOreInTheCold() {
            IronCampaign x = Scenes.stocked();
            int none = Scenes.bringDown(x, 0, 0, 30);
            Due.is("HEAT 0, ORE 0", x.chargeAt(none, 0), 1);
            Due.is("its FLUX is SLAG", x.about(2), 30);
            Due.is("no CHILL", x.about(7), 0);
            Due.is("HEAT 0, ORE 1", x.chargeAt(Scenes.bringDown(x, 0, 1, 0), 0), 2);
            Due.is("a CHILL", x.about(7), 1);
        }

        /** "ORE of a KIND (0 .. 60)", "10 times": 600 */
        private static void withTheMostOre() {
            Due.is("HEAT 600, ORE 60", standAt(600, 60), 1);
            Due.is("HEAT 599, ORE 60", standAt(599, 60), 2);
        }

        private static int ironOf(int ore, int richness) {
            IronCampaign x = Scenes.hot();
            x.rich(2, richness);
            int number = Scenes.bringDown(x, 2, ore, 7);
            int iron = x.chargeAt(number, 6);
            Due.is("IRON in THE HEARTH", x.about(1), iron);
            Due.is("the rest of ORE and the FLUX", x.about(2), ore - iron + 7);
            return iron;
        }

        /** "IRON of ORE times RICHNESS (as it is now) by 100, cut .. the rest of ORE and the FLUX to SLAG" */
        private static void ironIsCut() {
            Due.is("9 by 11: 99", ironOf(9, 11), 0);
            Due.is("10 by 10: 100", ironOf(10, 10), 1);
            Due.is("19 by 10: 190", ironOf(19, 10), 1);
            Due.is("20 by 10: 200", ironOf(20, 10), 2);
            Due.is("1 by 60: 60", ironOf(1, 60), 0);
            Due.is("60 by 60: 3600", ironOf(60, 60), 36);
            Due.is("59 by 60: 3540", ironOf(59, 60), 35);
            Due.is("0 by 60: 0", ironOf(0, 60), 0);
        }

        /** "RICHNESS (as it is now)" */
        private static void richnessIsAsItIsNow() {
            IronCampaign x = Scenes.hot();
            x.blast(1);
            int number = x.charge(2, 1, 50, 0);
            x.tick(1);
            x.rich(1, 60);
            x.tick(1);
            Due.is("as the CHARGE comes down", x.chargeAt(number, 6), 30);
            x.rich(1, 10);
            x.tick(1);
            Due.is("not as it is later", x.chargeAt(number, 6), 30);
            Due.is("IRON in all", x.about(10), 30);
        }

        /** "HEAT is 5 times its ORE less" */
        private static void coolsByFiveTimesItsOre() {
            IronCampaign x = Scenes.atHeat(600);
            Scenes.bringDown(x, 0, 60, 0);
            Due.is("60 ORE", x.about(0), 600 - 300 + 8 - 40);
            IronCampaign y = Scenes.atHeat(600);
            Scenes.bringDown(y, 0, 1, 0);
            Due.is("1 ORE", y.about(0), 600 - 5 + 8 - 40);
            IronCampaign z = Scenes.atHeat(600);
            Scenes.bringDown(z, 0, 0, 30);
            Due.is("no ORE", z.about(0), 600 + 8 - 40);
        }

        /** "else it is a CHILL: ORE and FLUX come to SLAG": HEAT is as ahead */
        private static void chillDoesNotCool() {
            IronCampaign x = Scenes.atHeat(599);
            Scenes.bringDown(x, 0, 60, 0);
            Due.is("HEAT behind a CHILL", x.about(0), 599 + 8 - 40);
        }

        /** "else it is a CHILL: ORE and FLUX come to SLAG" */
        private static void chillIsAllSlag() {
            IronCampaign x = Scenes.stocked();
            x.rich(0, 60);
            Scenes.bringDown(x, 0, 60, 30);
            Due.is("SLAG", x.about(2), 90);
            Due.is("IRON", x.about(1), 0);
            Due.is("IRON made", x.about(10), 0);
            Due.is("CHILLS", x.about(7), 1);
        }
    }

    /** SORT: how many of three are so. */
    private static final class Sorts {
        static void main(String[] args) {
            fourTimesFluxIsOreOrMore();
            heatOfFourHundred();
            heatOfSevenHundred();
            heatAheadOfEachCharge();
        }

        private static int sortAt(int heat, int ore, int flux) {
            IronCampaign x = Scenes.atHeat(heat);
            return x.chargeAt(Scenes.bringDown(x, 0, ore, flux), 5);
        }

        /** "4 times FLUX is ORE or more" */
        private static void fourTimesFluxIsOreOrMore() {
            Due.is("ORE 20, FLUX 5", sortAt(300, 20, 5), 1);
            Due.is("ORE 20, FLUX 4", sortAt(300, 20, 4), 0);
            Due.is("ORE 21, FLUX 5", sortAt(300, 21, 5), 0);
            Due.is("ORE 19, FLUX 5", sortAt(300, 19, 5), 1);
            Due.is("ORE 0, FLUX 0", sortAt(300, 0, 0), 1);
            Due.is("ORE 1, FLUX 0", sortAt(300, 1, 0), 0);
            Due.is("ORE 60, FLUX 15", sortAt(600, 60, 15), 2);
            Due.is("ORE 60, FLUX 14", sortAt(600, 60, 14), 1);
            Due.is("ORE 0, FLUX 30", sortAt(300, 0, 30), 1);
        }

        /** "HEAT ahead of it was 400 or more" */
        private static void heatOfFourHundred() {
            Due.is("HEAT 399", sortAt(399, 4, 0), 0);
            Due.is("HEAT 400", sortAt(400, 4, 0), 1);
            Due.is("HEAT 399, FLUX too", sortAt(399, 4, 1), 1);
            Due.is("HEAT 400, FLUX too", sortAt(400, 4, 1), 2);
        }

        /** "700 or more" */
        private static void heatOfSevenHundred() {
            Due.is("HEAT 699", sortAt(699, 4, 0), 1);
            Due.is("HEAT 700", sortAt(700, 4, 0), 2);
            Due.is("HEAT 699, FLUX too", sortAt(699, 4, 1), 2);
            Due.is("HEAT 700, FLUX too", sortAt(700, 4, 1), 3);
            Due.is("HEAT 1000, FLUX too", sortAt(1000, 4, 1), 3);
        }

        /** "HEAT ahead of it": what the CHARGES below it in the TICK left */
        private static void heatAheadOfEachCharge() {
            IronCampaign x = Scenes.atHeat(700);
            int first = x.count(0);
            x.charge(1, 0, 1, 1);
            x.charge(1, 0, 1, 1);
            x.blast(2);
            x.tick(1);
            Due.is("at 700", x.chargeAt(first, 5), 3);
            Due.is("at 695", x.chargeAt(first + 1, 5), 2);
        }
    }

    private static int heatBehind(int heat, int burn) {
        IronCampaign x = Scenes.atHeat(heat);
        if (burn > 0) x.charge(burn, 0, 0, 0);
        x.blast(20);
        x.tick(1);
        return x.about(0);
    }

    /** "HEAT becomes HEAT and 8 times what burned, less 40, but not below 0" */
    private static void heatIsNotBelowNought() {
        Due.is("39 less 40", heatBehind(39, 0), 0);
        Due.is("40 less 40", heatBehind(40, 0), 0);
        Due.is("41 less 40", heatBehind(41, 0), 1);
        Due.is("31 and 8, less 40", heatBehind(31, 1), 0);
        Due.is("33 and 8, less 40", heatBehind(33, 1), 1);
    }

    /** "not above 1000 (0 at first)" */
    private static void heatIsNotAboveAThousand() {
        Due.is("879 and 160, less 40", heatBehind(879, 20), 999);
        Due.is("880 and 160, less 40", heatBehind(880, 20), 1000);
        Due.is("881 and 160, less 40", heatBehind(881, 20), 1000);
        Due.is("1000 and 160, less 40", heatBehind(1000, 20), 1000);
        Due.is("1000 and 40, less 40", heatBehind(1000, 5), 1000);
        Due.is("1000 and 32, less 40", heatBehind(1000, 4), 992);
        Due.is("at first", new IronCampaign().about(0), 0);
    }

    /** "Then HEAT becomes HEAT and 8 times what burned, less 40": the CHARGES come down ahead of that */
    private static void heatIsHeldInBehindTheCharges() {
        IronCampaign x = Scenes.stocked();
        x.charge(20, 0, 1, 0);
        x.blast(20);
        x.tick(1);
        Due.is("its own COAL does not MELT it", x.chargeAt(0, 0), 2);
        IronCampaign y = Scenes.hot();
        y.charge(20, 0, 60, 0);
        y.tick(1);
        Due.is("1000 less 300, then 120 more", y.about(0), 820);
    }

    /** What THE HEARTH HOLDS. */
    private static final class Holds {
        static void main(String[] args) {
            isOneToFiveHundred();
            isAHundredAtFirst();
            spillsWhatIsAbove();
            holdsOne();
            holdsFiveHundred();
            spillsInTheTickOnly();
        }

        /** "what it HOLDS (1 .. 500", "What THE HEARTH HOLDS, LIFE: 1. BAD." */
        private static void isOneToFiveHundred() {
            Edge.range("hearth", (x, a) -> x.hearth(a[0], a[1]), new int[] {50, 900}, 0, 1, 500);
            Due.is("hearth(1, 1)", new IronCampaign().hearth(1, 1), 1);
            Due.is("hearth(500, 100000)", new IronCampaign().hearth(500, 100000), 1);
            Due.is("both wrong", new IronCampaign().hearth(0, 0), BAD);
        }

        /** So much IRON is poured into a new hearth, by CHARGES of RICHNESS 50, 30 at most in each TICK. */
        private static IronCampaign poured(int holds, int iron) {
            IronCampaign x = Scenes.stocked();
            if (holds > 0) x.hearth(holds, 100000);
            x.blast(20);
            for (int i = 0; i < 3; i++) x.charge(60, 0, 0, 0);
            x.tick(9);
            x.rich(0, 50);
            for (int left = iron; left > 0; left -= 30) {
                x.charge(20, 0, 2 * Math.min(30, left), 0);
                x.charge(20, 0, 0, 0);
                x.charge(20, 0, 0, 0);
                x.tick(3);
            }
            Due.is("IRON made", x.about(10), iron);
            return x;
        }

        private static void held(IronCampaign x, int iron, int spilled) {
            Due.is("IRON in THE HEARTH", x.about(1), iron);
            Due.is("SPILLED", x.about(8), spilled);
            Due.is("SLAG, with what SPILLED", x.about(2), x.about(10) + spilled);
        }

        /** "(1 .. 500; 100 at first)" */
        private static void isAHundredAtFirst() {
            held(poured(0, 100), 100, 0);
            held(poured(0, 101), 100, 1);
        }

        /** "IRON in THE HEARTH above what it HOLDS .. is SPILLED: it is SLAG." */
        private static void spillsWhatIsAbove() {
            held(poured(20, 19), 19, 0);
            held(poured(20, 20), 20, 0);
            held(poured(20, 21), 20, 1);
        }

        /** "(1 .. 500": the least */
        private static void holdsOne() {
            held(poured(1, 1), 1, 0);
            held(poured(1, 2), 1, 1);
            held(poured(1, 0), 0, 0);
        }

        /** "(1 .. 500": the most */
        private static void holdsFiveHundred() {
            held(poured(500, 500), 500, 0);
            held(poured(500, 501), 500, 1);
        }

        /** "Then, one after another": it SPILLS in a TICK, behind the CHARGES */
        private static void spillsInTheTickOnly() {
            IronCampaign x = poured(30, 30);
            x.hearth(29, 100000);
            held(x, 30, 0);
            x.tick(1);
            held(x, 29, 1);
            x.tick(1);
            held(x, 29, 1);
        }
    }

    /** WEAR and LIFE. */
    private static final class Wears {
        static void main(String[] args) {
            growsByHeatByHundredCut();
            lifeIsOneToAHundredThousand();
            lifeIsAThousandAtFirst();
            outWhenWearIsLife();
            outWhenWearIsAboveLife();
            outAsATickEnds();
            outForGood();
            outRefusesTicksAlone();
        }

        private static int grownAt(int heat) {
            IronCampaign x = Scenes.atHeat(heat);
            int before = x.about(3);
            x.charge(5, 0, 0, 0);
            x.blast(5);
            x.tick(1);
            Due.is("HEAT stays", x.about(0), heat);
            return x.about(3) - before;
        }

        /** "WEAR grows by HEAT by 100, cut" */
        private static void growsByHeatByHundredCut() {
            Due.is("HEAT 99", grownAt(99), 0);
            Due.is("HEAT 100", grownAt(100), 1);
            Due.is("HEAT 199", grownAt(199), 1);
            Due.is("HEAT 200", grownAt(200), 2);
            Due.is("HEAT 999", grownAt(999), 9);
            Due.is("HEAT 1000", grownAt(1000), 10);
        }

        /** "LIFE (1 .. 100000", "BAD." */
        private static void lifeIsOneToAHundredThousand() {
            Edge.range("hearth", (x, a) -> x.hearth(a[0], a[1]), new int[] {50, 900}, 1, 1, 100000);
        }

        /** LIFE as at first, WEAR 40 behind eight TICKS; then so many of 9 (51 .. 110) and so many of 10. */
        private static IronCampaign worn(int nines, int tens) {
            IronCampaign x = Scenes.stocked();
            for (int i = 0; i < 12; i++) x.charge(60, 0, 0, 0);
            x.blast(20);
            x.tick(8);
            x.blast(5);
            x.tick(50);
            x.tick(nines - 50 - 1);
            x.tick(1);
            while (x.about(5) < 12) x.charge(60, 0, 0, 0);
            x.blast(20);
            Due.is("TICKS that go", x.tick(tens), tens);
            Due.is("WEAR", x.about(3), 40 + 9 * nines + 10 * tens);
            return x;
        }

        /** "LIFE (1 .. 100000; 1000 at first)" */
        private static void lifeIsAThousandAtFirst() {
            IronCampaign below = worn(101, 5);
            Due.is("WEAR 999", below.about(9), 0);
            IronCampaign at = worn(100, 6);
            Due.is("WEAR 1000", at.about(9), 1);
            Due.is("no TICK more", at.tick(1), NO);
        }

        /** HEAT 100 kept up, WEAR 1 behind the first TICK and 1 more behind each. */
        private static IronCampaign withLife(int life) {
            IronCampaign x = Scenes.stocked();
            x.charge(60, 0, 0, 0);
            x.charge(60, 0, 0, 0);
            x.hearth(100, life);
            x.blast(20);
            x.tick(1);
            x.blast(5);
            return x;
        }

        /** "if WEAR is LIFE .. or more as a TICK ends the furnace is OUT": is LIFE */
        private static void outWhenWearIsLife() {
            IronCampaign x = withLife(3);
            Due.is("tick(1)", x.tick(1), 1);
            Due.is("WEAR 2 of 3", x.about(9), 0);
            Due.is("one TICK goes", x.tick(2), 1);
            Due.is("WEAR 3 of 3", x.about(9), 1);
            Due.is("WEAR", x.about(3), 3);
            IronCampaign least = withLife(1);
            Due.is("LIFE 1, WEAR 1", least.about(9), 1);
            Due.is("no TICK more", least.tick(1), NO);
            IronCampaign cold = new IronCampaign();
            cold.hearth(1, 1);
            Due.is("LIFE 1, WEAR 0", cold.tick(50), 50);
        }

        /** "if WEAR is LIFE .. or more": more */
        private static void outWhenWearIsAboveLife() {
            IronCampaign x = Scenes.hot();
            int wear = x.about(3);
            x.charge(20, 0, 0, 0);
            x.hearth(100, wear + 1);
            Due.is("one TICK goes", x.tick(50), 1);
            Due.is("WEAR goes past LIFE", x.about(3), wear + 10);
            Due.is("OUT", x.about(9), 1);
        }

        /** "as a TICK ends": not as LIFE is told */
        private static void outAsATickEnds() {
            IronCampaign x = Scenes.hot();
            x.hearth(100, 1);
            Due.is("not OUT yet", x.about(9), 0);
            x.hearth(100, 100000);
            Due.is("LIFE told again in time", x.tick(1), 1);
            Due.is("not OUT", x.about(9), 0);
            x.tick(50);
            x.hearth(100, x.about(3));
            Due.is("a TICK without WEAR ends it too", x.tick(50), 1);
        }

        /** "the furnace is OUT, for good: no TICK goes any more" */
        private static void outForGood() {
            IronCampaign x = Scenes.out();
            Due.is("OUT", x.about(9), 1);
            Due.is("hearth(500, 100000)", x.hearth(500, 100000), 1);
            Due.is("OUT still", x.about(9), 1);
            Due.is("tick(1)", x.tick(1), NO);
            Due.is("TICKS", x.about(4), 3);
            Edge.refused("tick(50) when OUT", Scenes::out, y -> y.tick(50), NO);
        }

        /** "no TICK goes any more": all else goes */
        private static void outRefusesTicksAlone() {
            IronCampaign x = Scenes.out();
            Due.is("buy", x.buy(0, 60), 9940);
            Due.is("charge", x.charge(1, 0, 0, 0), 2);
            Due.is("when", x.when(1), 3);
            Due.is("blast", x.blast(7), 20);
            Due.is("tap", x.tap(), IronCampaign.NONE);
            Due.is("SIGNS as seen", x.sign(0), 36);
            Due.is("lose", x.lose(0, 3), 1);
            Due.is("rule", x.rule(0, true, 0, 0), 0);
            Due.is("forge", x.forge(1, 1, 1), 0);
            Due.is("plan", x.plan(0, 1, 200, 320), 400);
        }
    }

    /** Promise 9: tick. */
    private static final class Ticks {
        static void main(String[] args) {
            isOneToFifty();
            tellsHowManyWereDone();
            endsAtFiveThousand();
            isBadAheadOfNo();
            isBadAheadOfFull();
            isNoAheadOfFull();
        }

        /** "n TICKS (1 .. 50) .. BAD" */
        private static void isOneToFifty() {
            Edge.range("tick", (x, a) -> x.tick(a[0]), new int[] {1}, 0, 1, 50);
            IronCampaign x = new IronCampaign();
            Due.is("tick(1)", x.tick(1), 1);
            Due.is("tick(50)", x.tick(50), 50);
            Due.is("TICKS", x.about(4), 51);
        }

        /** "how many were done (fewer: OUT)" */
        private static void tellsHowManyWereDone() {
            IronCampaign x = Wears.withLife(11);
            Due.is("OUT behind the last of ten", x.tick(10), 10);
            Due.is("OUT", x.about(9), 1);
            IronCampaign y = Wears.withLife(11);
            Due.is("OUT ahead of the last of eleven", y.tick(11), 10);
            IronCampaign z = Wears.withLife(11);
            Due.is("nine", z.tick(9), 9);
            Due.is("not OUT", z.about(9), 0);
            Due.is("TICKS", z.about(4), 10);
        }

        /** "FULL: above 5000 TICKS." */
        private static void endsAtFiveThousand() {
            IronCampaign x = Scenes.agedBy(4950);
            Due.is("just 5000", x.tick(50), 50);
            Due.is("TICKS", x.about(4), 5000);
            Due.is("one more", x.tick(1), FULL);
            Edge.refused("50 at 4951", () -> Scenes.agedBy(4951), y -> y.tick(50), FULL);
            Edge.refused("2 at 4999", () -> Scenes.agedBy(4999), y -> y.tick(2), FULL);
            Due.is("49 at 4951", Scenes.agedBy(4951).tick(49), 49);
            Due.is("1 at 4999", Scenes.agedBy(4999).tick(1), 1);
            Edge.refused("1 at 5000", () -> Scenes.agedBy(5000), y -> y.tick(1), FULL);
        }

        /** "Refused .. the first of: BAD -2 ..; NO -3" */
        private static void isBadAheadOfNo() {
            Edge.refused("tick(0) when OUT", Scenes::out, x -> x.tick(0), BAD);
            Edge.refused("tick(51) when OUT", Scenes::out, x -> x.tick(51), BAD);
        }

        /** "Refused .. the first of: BAD -2 ..; FULL -4" */
        private static void isBadAheadOfFull() {
            Edge.refused("tick(51) at 5000", () -> Scenes.agedBy(5000), x -> x.tick(51), BAD);
            Edge.refused("tick(0) at 5000", () -> Scenes.agedBy(5000), x -> x.tick(0), BAD);
            Due.is("greatest int at 5000", Scenes.agedBy(5000).tick(Integer.MAX_VALUE), BAD);
        }

        private static IronCampaign outAtFiveThousand() {
            IronCampaign x = Scenes.agedBy(4999);
            x.charge(60, 0, 0, 0);
            x.blast(20);
            x.hearth(1, 1);
            Due.is("the last TICK", x.tick(1), 1);
            Due.is("OUT", x.about(9), 1);
            Due.is("TICKS", x.about(4), 5000);
            return x;
        }

        /** "Refused .. the first of: ..; NO -3 as told; FULL -4" */
        private static void isNoAheadOfFull() {
            Edge.refused("OUT at 5000", Ticks::outAtFiveThousand, x -> x.tick(1), NO);
        }
    }

    /** "0 HEAT, 1 IRON in THE HEARTH, .. 11 BLAST. BAD." */
    private static void aboutIsNoughtToEleven() {
        Edge.range("about", (x, a) -> x.about(a[0]), new int[] {0}, 0, 0, 11);
        IronCampaign x = Scenes.hot();
        x.hearth(10, 100000);
        x.charge(7, 0, 60, 30);
        x.charge(13, 0, 60, 30);
        x.charge(20, 0, 60, 30);
        x.charge(9, 0, 0, 0);
        x.tick(2);
        int heat = 1000 - 300 - 300 + 120 + 120;
        int slag = 72 + 72 + 26 + 90;
        int[] want = {heat, 10, slag, 50 + 5 + 6, 11, 1, 180 + 40, 1, 26, 0, 36, 20};
        Due.is("CHARGE 5 chills at 520", x.chargeAt(5, 0), 2);
        for (int what = 0; what < 12; what++) Due.is("about(" + what + ")", x.about(what), want[what]);
    }
}
