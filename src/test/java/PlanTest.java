/** Promises 21 (month), 22 (pace), 23 (plan) and 24 (paceAt). */
public final class PlanTest {
    public static void main(String[] args) {
        planTakesTheMostIron();
        planOfLikeWaysTakesTheFirst();
        planKeepsToWater();
        planKeepsToWear();
        planKeepsToCoalEachMonth();
        planGoesRoundTheYear();
        planMayFindNone();
        planRefuses();
        paceAtTellsTheLatestPlan();
        monthRefuses();
        paceChangesWhatAPaceMakes();
        paceRefuses();
        Due.end();
    }

    private static void paces(IronCampaign x, int... want) {
        for (int i = 0; i < want.length; i++) Due.is("paceAt(" + i + ")", x.paceAt(i), want[i]);
        Due.is("paceAt behind the last", x.paceAt(want.length), IronCampaign.NONE);
    }

    private static void planTakesTheMostIron() {
        IronCampaign x = new IronCampaign();
        Due.is("all one could wish", x.plan(0, 6, 10000, 10000), 2400);
        paces(x, 4, 4, 4, 4, 4, 4);
        Due.is("nothing left", x.plan(0, 6, 0, 0), 0);
        paces(x, 0, 0, 0, 0, 0, 0);
        x.pace(2, 900, 10, 10);
        Due.is("not the greatest PACE", x.plan(3, 1, 10000, 10000), 900);
        paces(x, 2);
    }

    private static void planOfLikeWaysTakesTheFirst() {
        IronCampaign x = new IronCampaign();
        Due.is("COAL for five", x.plan(0, 3, 10000, 400), 500);
        paces(x, 0, 1, 4);
        for (int p = 0; p < 5; p++) x.pace(p, 7, 0, 0);
        Due.is("all alike", x.plan(0, 4, 0, 0), 28);
        paces(x, 0, 0, 0, 0);
        x.pace(3, 8, 0, 0);
        x.pace(4, 8, 0, 0);
        Due.is("3 ahead of 4", x.plan(0, 2, 0, 0), 16);
        paces(x, 3, 3);
    }

    private static void planKeepsToWater() {
        IronCampaign x = new IronCampaign();
        Due.is("month(0, 0, 0)", x.month(0, 0, 0), 1);
        Due.is("month(1, 3, 0)", x.month(1, 3, 0), 1);
        Due.is("plan(0, 3, ..)", x.plan(0, 3, 10000, 10000), 0 + 300 + 400);
        paces(x, 0, 3, 4);
        x.month(0, 1, 0);
        Due.is("plan(0, 1, ..)", x.plan(0, 1, 10000, 10000), 100);
    }

    private static void planKeepsToWear() {
        IronCampaign x = new IronCampaign();
        Due.is("WEAR 250", x.plan(0, 2, 250, 10000), 500);
        Due.is("WEAR 249", x.plan(0, 2, 249, 10000), 400);
        paces(x, 0, 4);
        Due.is("WEAR 49", x.plan(0, 2, 49, 10000), 0);
    }

    private static void planKeepsToCoalEachMonth() {
        IronCampaign x = new IronCampaign();
        x.month(1, 4, 320);
        Due.is("WOOD comes too late for month 0", x.plan(0, 2, 10000, 0), 400);
        paces(x, 0, 4);
        Due.is("WOOD is there as its month begins", x.plan(1, 1, 10000, 0), 400);
        Due.is("what is left over stays", x.plan(1, 2, 10000, 79), 400);
        Due.is("with one more COAL", x.plan(1, 2, 10000, 80), 500);
        paces(x, 1, 4);
        x.month(1, 4, 1000);
        x.month(2, 4, 1000);
        x.month(3, 4, 1000);
        x.pace(4, 1000, 0, 1000);
        Due.is("all WOOD of three", x.plan(1, 3, 10000, 0), 3000);
        x.pace(4, 1000, 0, 999);
        x.month(3, 4, 997);
        Due.is("left over of two", x.plan(1, 3, 10000, 0), 3000);
        x.month(3, 4, 996);
        Due.holds("one COAL short", x.plan(1, 3, 10000, 0) < 3000);
    }

    private static void planGoesRoundTheYear() {
        IronCampaign x = new IronCampaign();
        for (int m = 0; m < 12; m++) x.month(m, 0, 0);
        x.month(11, 1, 80);
        x.month(0, 2, 160);
        x.month(1, 3, 240);
        Due.is("plan(11, 3, ..)", x.plan(11, 3, 10000, 0), 600);
        paces(x, 1, 2, 3);
        Due.is("plan(8, 6, ..)", x.plan(8, 6, 10000, 0), 600);
        paces(x, 0, 0, 0, 1, 2, 3);
        Due.is("plan(11, 1, ..)", x.plan(11, 1, 10000, 0), 100);
    }

    private static void planMayFindNone() {
        IronCampaign x = new IronCampaign();
        x.plan(0, 2, 10000, 10000);
        x.pace(0, 5, 10, 20);
        Due.is("WEAR too dear", x.plan(0, 3, 29, 10000), IronCampaign.NONE);
        paces(x, 4, 4);
        Due.is("WEAR just enough", x.plan(0, 3, 30, 10000), 15);
        paces(x, 0, 0, 0);
        Due.is("COAL too dear", x.plan(0, 4, 10000, 79), IronCampaign.NONE);
        paces(x, 0, 0, 0);
        Due.is("COAL just enough", x.plan(0, 4, 49, 80), 20);
    }

    private static void planRefuses() {
        IronCampaign x = new IronCampaign();
        x.plan(0, 2, 10000, 10000);
        Due.is("from -1", x.plan(-1, 1, 0, 0), IronCampaign.BAD);
        Due.is("from 12", x.plan(12, 1, 0, 0), IronCampaign.BAD);
        Due.is("n 0", x.plan(0, 0, 0, 0), IronCampaign.BAD);
        Due.is("n 7", x.plan(0, 7, 0, 0), IronCampaign.BAD);
        Due.is("wear -1", x.plan(0, 1, -1, 0), IronCampaign.BAD);
        Due.is("wear 10001", x.plan(0, 1, 10001, 0), IronCampaign.BAD);
        Due.is("coal -1", x.plan(0, 1, 0, -1), IronCampaign.BAD);
        Due.is("coal 10001", x.plan(0, 1, 0, 10001), IronCampaign.BAD);
        Due.is("greatest int", x.plan(Integer.MAX_VALUE, 1, 0, 0), IronCampaign.BAD);
        paces(x, 4, 4);
    }

    private static void paceAtTellsTheLatestPlan() {
        IronCampaign x = new IronCampaign();
        Due.is("no PLAN yet", x.paceAt(0), IronCampaign.NONE);
        x.plan(0, 6, 10000, 10000);
        x.plan(0, 1, 100, 10000);
        paces(x, 2);
        x.pace(2, 0, 0, 0);
        x.month(0, 0, 0);
        paces(x, 2);
        Due.is("paceAt(-1)", x.paceAt(-1), IronCampaign.NONE);
        Due.is("paceAt(5)", x.paceAt(5), IronCampaign.NONE);
        Due.is("paceAt(greatest int)", x.paceAt(Integer.MAX_VALUE), IronCampaign.NONE);
    }

    private static void monthRefuses() {
        IronCampaign x = new IronCampaign();
        Due.is("month(-1, ..)", x.month(-1, 0, 0), IronCampaign.BAD);
        Due.is("month(12, ..)", x.month(12, 0, 0), IronCampaign.BAD);
        Due.is("water -1", x.month(0, -1, 1000), IronCampaign.BAD);
        Due.is("water 5", x.month(0, 5, 1000), IronCampaign.BAD);
        Due.is("wood -1", x.month(0, 0, -1), IronCampaign.BAD);
        Due.is("wood 1001", x.month(0, 0, 1001), IronCampaign.BAD);
        Due.is("WATER as ahead", x.plan(0, 1, 10000, 320), 400);
        Due.is("WOOD as ahead", x.plan(0, 1, 10000, 0), 0);
        Due.is("month(11, 4, 1000)", x.month(11, 4, 1000), 1);
        Due.is("WOOD 1000", x.plan(11, 3, 10000, 0), 1200);
    }

    private static void paceChangesWhatAPaceMakes() {
        IronCampaign x = new IronCampaign();
        Due.is("pace(4, 1000, 1000, 1000)", x.pace(4, 1000, 1000, 1000), 1);
        Due.is("enough", x.plan(0, 1, 1000, 1000), 1000);
        Due.is("WEAR short", x.plan(0, 1, 999, 1000), 300);
        Due.is("COAL short", x.plan(0, 1, 1000, 999), 300);
        Due.is("pace(0, 1000, 0, 0)", x.pace(0, 1000, 0, 0), 1);
        Due.is("PACE 0 makes IRON", x.plan(0, 6, 0, 0), 6000);
        Due.is("pace(0, 0, 0, 0)", x.pace(0, 0, 0, 0), 1);
        Due.is("PACE 0 makes none", x.plan(0, 6, 0, 0), 0);
    }

    private static void paceRefuses() {
        IronCampaign x = new IronCampaign();
        Due.is("pace(-1, ..)", x.pace(-1, 0, 0, 0), IronCampaign.BAD);
        Due.is("pace(5, ..)", x.pace(5, 0, 0, 0), IronCampaign.BAD);
        Due.is("iron -1", x.pace(4, -1, 0, 0), IronCampaign.BAD);
        Due.is("iron 1001", x.pace(4, 1001, 0, 0), IronCampaign.BAD);
        Due.is("wear -1", x.pace(4, 0, -1, 0), IronCampaign.BAD);
        Due.is("wear 1001", x.pace(4, 0, 1001, 0), IronCampaign.BAD);
        Due.is("coal -1", x.pace(4, 0, 0, -1), IronCampaign.BAD);
        Due.is("coal 1001", x.pace(4, 0, 0, 1001), IronCampaign.BAD);
        Due.is("PACE 4 as ahead", x.plan(0, 1, 200, 320), 400);
    }
}
