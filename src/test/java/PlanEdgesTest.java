/** MONTHS, PACES and PLANS at their ends, promises 21 to 24. Each test has its sentence above it. */
public final class PlanEdgesTest {
    private static final int BAD = IronCampaign.BAD, NONE = IronCampaign.NONE;
    private static final Edge.Call MONTH = (x, a) -> x.month(a[0], a[1], a[2]);
    private static final Edge.Call PACE = (x, a) -> x.pace(a[0], a[1], a[2], a[3]);
    private static final Edge.Call PLAN = (x, a) -> x.plan(a[0], a[1], a[2], a[3]);

    public static void main(String[] args) {
        monthsAreTwelve();
        waterIsNoughtToFour();
        waterIsFourAtFirst();
        woodIsNoughtToAThousand();
        woodIsNoughtAtFirst();
        pacesAreFive();
        pacesMakeNoughtToAThousand();
        pacesAtFirst();
        planIsFromAMonth();
        planIsForOneToSixMonths();
        planHasWearAndCoalOfTenThousand();
        planGoesRoundBehindEleven();
        paceIsNotAboveItsWater();
        wearIsWithinWhatIsLeft();
        coalIsThereEachMonth();
        woodComesAsTheMonthBegins();
        coalLeftOverStays();
        planIsTheMostIron();
        planOfLikeOnesIsTheFirst();
        planMayBeNone();
        planIsBadAheadOfNone();
        planUsesNothingUp();
        PacesOfPlan.main(args);
        Due.end();
    }

    private static void paces(IronCampaign x, int... want) {
        for (int i = 0; i < want.length; i++) Due.is("paceAt(" + i + ")", x.paceAt(i), want[i]);
        Due.is("paceAt(" + want.length + ")", x.paceAt(want.length), NONE);
    }

    /** "MONTHS 0 .. 11", "1. BAD." */
    private static void monthsAreTwelve() {
        Edge.range("month", MONTH, new int[] {3, 2, 100}, 0, 0, 11);
        for (int told = 0; told < 12; told++) {
            IronCampaign x = new IronCampaign();
            Due.is("month(" + told + ", 1, 0)", x.month(told, 1, 0), 1);
            for (int m = 0; m < 12; m++) Due.is("month " + m, x.plan(m, 1, 10000, 10000), m == told ? 100 : 400);
        }
    }

    /** "WATER (0 .. 4" */
    private static void waterIsNoughtToFour() {
        Edge.range("month", MONTH, new int[] {3, 2, 100}, 1, 0, 4);
    }

    /** "WATER (0 .. 4; 4 at first)" */
    private static void waterIsFourAtFirst() {
        for (int m = 0; m < 12; m++) Due.is("WATER of " + m, new IronCampaign().plan(m, 1, 200, 320), 400);
    }

    /** "WOOD .. (0 .. 1000" */
    private static void woodIsNoughtToAThousand() {
        Edge.range("month", MONTH, new int[] {3, 2, 100}, 2, 0, 1000);
        IronCampaign x = new IronCampaign();
        x.pace(4, 9, 0, 1000);
        x.month(3, 4, 1000);
        Due.is("WOOD 1000", x.plan(3, 1, 0, 0), 9);
        x.month(3, 4, 999);
        Due.is("WOOD 999", x.plan(3, 1, 0, 0), 0);
        Due.is("WOOD 999 and 1", x.plan(3, 1, 0, 1), 9);
    }

    /** "(0 .. 1000; 0 at first)" */
    private static void woodIsNoughtAtFirst() {
        for (int m = 0; m < 12; m++) {
            IronCampaign x = new IronCampaign();
            x.pace(1, 5, 0, 1);
            Due.is("no WOOD in " + m, x.plan(m, 1, 10000, 0), 0);
            Due.is("1 COAL in " + m, x.plan(m, 1, 0, 1), 5);
        }
    }

    /** "PACES 0 .. 4", "What a PACE makes: 1. BAD." */
    private static void pacesAreFive() {
        Edge.range("pace", PACE, new int[] {2, 100, 100, 100}, 0, 0, 4);
        for (int told = 0; told < 5; told++) {
            IronCampaign x = new IronCampaign();
            Due.is("pace(" + told + ", 1000, 0, 0)", x.pace(told, 1000, 0, 0), 1);
            Due.is("PACE " + told + " makes the most", x.plan(0, 1, 0, 0), 1000);
            paces(x, told);
        }
    }

    /** "make so much IRON, WEAR, burn so much COAL a month (0 .. 1000 each" */
    private static void pacesMakeNoughtToAThousand() {
        for (int which = 1; which < 4; which++) Edge.range("pace", PACE, new int[] {2, 9, 9, 9}, which, 0, 1000);
        IronCampaign x = new IronCampaign();
        x.pace(0, 1000, 1000, 1000);
        Due.is("the most", x.plan(0, 6, 6000, 6000), 6000);
        x.pace(0, 0, 0, 0);
        Due.is("the least", x.plan(0, 6, 0, 0), 0);
    }

    /** "PACE p has 100 p, 50 p, 80 p at first" */
    private static void pacesAtFirst() {
        for (int p = 0; p < 5; p++) {
            IronCampaign x = new IronCampaign();
            x.month(0, p, 0);
            Due.is("IRON of " + p, x.plan(0, 1, 10000, 10000), 100 * p);
            Due.is("just its WEAR", x.plan(0, 1, 50 * p, 10000), 100 * p);
            Due.is("just its COAL", x.plan(0, 1, 10000, 80 * p), 100 * p);
            if (p == 0) continue;
            Due.is("WEAR one short", x.plan(0, 1, 50 * p - 1, 10000), 100 * p - 100);
            Due.is("COAL one short", x.plan(0, 1, 10000, 80 * p - 1), 100 * p - 100);
        }
    }

    /** "from one on": a MONTH 0 .. 11; "BAD" */
    private static void planIsFromAMonth() {
        Edge.range("plan", PLAN, new int[] {1, 2, 500, 500}, 0, 0, 11);
    }

    /** "A PLAN for n MONTHS (1 .. 6)" */
    private static void planIsForOneToSixMonths() {
        Edge.range("plan", PLAN, new int[] {1, 2, 500, 500}, 1, 1, 6);
        IronCampaign x = new IronCampaign();
        Due.is("one", x.plan(0, 1, 10000, 10000), 400);
        paces(x, 4);
        Due.is("six", x.plan(0, 6, 10000, 10000), 2400);
        paces(x, 4, 4, 4, 4, 4, 4);
    }

    /** "BAD: wear, coal 0 .. 10000." */
    private static void planHasWearAndCoalOfTenThousand() {
        Edge.range("plan", PLAN, new int[] {1, 2, 500, 500}, 2, 0, 10000);
        Edge.range("plan", PLAN, new int[] {1, 2, 500, 500}, 3, 0, 10000);
        Due.is("nothing left", new IronCampaign().plan(0, 6, 0, 0), 0);
    }

    /** "from one on (behind 11 comes 0)" */
    private static void planGoesRoundBehindEleven() {
        IronCampaign x = new IronCampaign();
        for (int m = 0; m < 12; m++) x.month(m, m % 5, 0);
        for (int from = 0; from < 12; from++) {
            for (int n = 1; n <= 6; n++) {
                int iron = 0;
                for (int i = 0; i < n; i++) iron += 100 * ((from + i) % 12 % 5);
                Due.is("plan(" + from + ", " + n + ")", x.plan(from, n, 10000, 10000), iron);
            }
        }
        x.plan(6, 6, 10000, 10000);
        paces(x, 1, 2, 3, 4, 0, 1);
        x.plan(7, 6, 10000, 10000);
        paces(x, 2, 3, 4, 0, 1, 0);
        x.plan(11, 6, 10000, 10000);
        paces(x, 1, 0, 1, 2, 3, 4);
    }

    /** "a PACE for each, not above its WATER" */
    private static void paceIsNotAboveItsWater() {
        for (int water = 0; water <= 4; water++) {
            IronCampaign x = new IronCampaign();
            x.month(2, water, 0);
            Due.is("WATER " + water, x.plan(1, 3, 10000, 10000), 800 + 100 * water);
            paces(x, 4, water, 4);
        }
    }

    /** "with WEAR in all within what is left" */
    private static void wearIsWithinWhatIsLeft() {
        IronCampaign x = new IronCampaign();
        Due.is("just enough", x.plan(0, 6, 1200, 10000), 2400);
        Due.is("one short", x.plan(0, 6, 1199, 10000), 2300);
        paces(x, 3, 4, 4, 4, 4, 4);
    }

    /** "and COAL there each MONTH" */
    private static void coalIsThereEachMonth() {
        IronCampaign x = new IronCampaign();
        Due.is("just enough", x.plan(0, 6, 10000, 1920), 2400);
        Due.is("one short", x.plan(0, 6, 10000, 1919), 2300);
        x.pace(0, 0, 0, 10);
        x.month(1, 0, 1000);
        x.month(0, 0, 0);
        Due.is("WOOD of the next MONTH comes too late", x.plan(0, 2, 0, 9), NONE);
        Due.is("COAL of its own", x.plan(0, 2, 0, 10), 0);
    }

    /** "WOOD, that is COAL that comes as the month begins" */
    private static void woodComesAsTheMonthBegins() {
        IronCampaign x = new IronCampaign();
        x.month(5, 4, 320);
        Due.is("in its own MONTH", x.plan(5, 1, 10000, 0), 400);
        Due.is("not in the MONTH ahead", x.plan(4, 1, 10000, 0), 0);
        Due.is("of both", x.plan(4, 2, 10000, 0), 400);
        paces(x, 0, 4);
    }

    /** "(what is left over stays)" */
    private static void coalLeftOverStays() {
        IronCampaign x = new IronCampaign();
        x.month(0, 1, 400);
        Due.is("left over of its WOOD", x.plan(0, 2, 10000, 0), 500);
        paces(x, 1, 4);
        x.month(0, 1, 399);
        Due.is("one short", x.plan(0, 2, 10000, 0), 400);
        Due.is("one more at first", x.plan(0, 2, 10000, 1), 500);
        IronCampaign y = new IronCampaign();
        for (int m = 0; m < 5; m++) y.month(m, m == 4 ? 4 : 0, 80);
        Due.is("left over of each MONTH", y.plan(0, 5, 10000, 0), 400);
        y.month(2, 0, 79);
        y.pace(4, 999, 0, 400);
        Due.holds("one short of all", y.plan(0, 5, 10000, 0) < 999);
        Due.is("one more at first", y.plan(0, 5, 10000, 1), 999);
    }

    /** "the most IRON" */
    private static void planIsTheMostIron() {
        IronCampaign x = new IronCampaign();
        x.pace(1, 1000, 1000, 1000);
        Due.is("not the most at once", x.plan(0, 2, 1000, 1000), 1000);
        x.pace(0, 999, 0, 0);
        Due.is("nor the greatest PACE", x.plan(0, 2, 1000, 1000), 1999);
        paces(x, 0, 1);
        x.month(1, 0, 0);
        Due.is("nor from a MONTH with WATER alone", x.plan(0, 2, 1000, 1000), 1999);
        paces(x, 1, 0);
    }

    /** "of like ones the first by PACES" */
    private static void planOfLikeOnesIsTheFirst() {
        IronCampaign x = new IronCampaign();
        Due.is("COAL for one", x.plan(0, 3, 10000, 80), 100);
        paces(x, 0, 0, 1);
        Due.is("COAL for six", x.plan(0, 3, 10000, 480), 600);
        paces(x, 0, 2, 4);
        for (int p = 0; p < 5; p++) x.pace(p, 3, 0, 0);
        Due.is("all alike", x.plan(0, 6, 0, 0), 18);
        paces(x, 0, 0, 0, 0, 0, 0);
    }

    private static IronCampaign withDearPaces() {
        IronCampaign x = new IronCampaign();
        for (int p = 0; p < 5; p++) x.pace(p, 1 + p, 10, 20);
        x.plan(0, 2, 10000, 10000);
        return x;
    }

    /** "(PACE 0 of all may be too dear: NONE.)" */
    private static void planMayBeNone() {
        Due.is("just enough", withDearPaces().plan(0, 6, 60, 120), 30);
        Edge.refused("WEAR one short", PlanEdgesTest::withDearPaces, x -> x.plan(0, 6, 59, 120), NONE);
        Edge.refused("COAL one short", PlanEdgesTest::withDearPaces, x -> x.plan(0, 6, 60, 119), NONE);
        IronCampaign x = withDearPaces();
        x.pace(3, 7, 0, 0);
        Due.is("another PACE is not", x.plan(0, 6, 0, 0), 42);
        x.month(5, 2, 1000);
        Due.is("but above its WATER", x.plan(0, 6, 0, 0), NONE);
    }

    /** "Refused .. the first of: BAD" */
    private static void planIsBadAheadOfNone() {
        Due.is("12 and too dear", withDearPaces().plan(12, 1, 0, 0), BAD);
        Due.is("7 and too dear", withDearPaces().plan(0, 7, 0, 0), BAD);
        Due.is("-1 of WEAR", withDearPaces().plan(0, 1, -1, 0), BAD);
        Due.is("-1 of COAL", withDearPaces().plan(0, 1, 0, -1), BAD);
    }

    /** "with so much WEAR and COAL left": the furnace's own are another thing */
    private static void planUsesNothingUp() {
        IronCampaign x = Scenes.busy();
        long before = x.digest();
        int first = x.plan(3, 6, 800, 900);
        Due.is("the same again", x.plan(3, 6, 800, 900), first);
        Due.is("digest", x.digest(), before);
    }

    /** Promise 24: paceAt. */
    private static final class PacesOfPlan {
        static void main(String[] args) {
            noneWhenThereWasNoPlan();
            noneWhenNotSoMany();
            ofTheLatestPlan();
            ofTheLatestThatThereWas();
        }

        /** "of the latest PLAN that there was": none at all */
        private static void noneWhenThereWasNoPlan() {
            IronCampaign x = new IronCampaign();
            Due.is("paceAt(0)", x.paceAt(0), NONE);
            x.plan(0, 0, 0, 0);
            Due.is("behind a refused one", x.paceAt(0), NONE);
            x.pace(0, 0, 1, 0);
            x.plan(0, 1, 0, 0);
            Due.is("behind one that was NONE", x.paceAt(0), NONE);
        }

        /** "NONE: not so many." */
        private static void noneWhenNotSoMany() {
            for (int n = 1; n <= 6; n++) {
                IronCampaign x = new IronCampaign();
                x.plan(0, n, 10000, 10000);
                Due.is("the last of " + n, x.paceAt(n - 1), 4);
                Due.is("one more than " + n, x.paceAt(n), NONE);
                Due.is("greatest int", x.paceAt(Integer.MAX_VALUE), NONE);
                Due.is("below 0", x.paceAt(-1), NONE);
                Due.is("least int", x.paceAt(Integer.MIN_VALUE), NONE);
            }
        }

        /** "The PACE of its i-th MONTH, of the latest PLAN": a shorter one ends a longer one */
        private static void ofTheLatestPlan() {
            IronCampaign x = new IronCampaign();
            x.plan(0, 6, 10000, 10000);
            x.plan(0, 2, 50, 10000);
            paces(x, 0, 1);
            x.pace(1, 0, 1000, 1000);
            x.month(1, 0, 0);
            paces(x, 0, 1);
        }

        /** "of the latest PLAN that there was": one that is refused or NONE was not */
        private static void ofTheLatestThatThereWas() {
            IronCampaign x = withDearPaces();
            paces(x, 4, 4);
            Due.is("refused", x.plan(0, 7, 0, 0), BAD);
            paces(x, 4, 4);
            Due.is("none", x.plan(0, 3, 0, 0), NONE);
            paces(x, 4, 4);
        }
    }
}
