import java.util.function.Consumer;

/**
 * "What it is", the document's first lines, in long runs: what must add up or agree whatever the calls were. It asks the
 * class against itself alone, so that an error that PlainCampaign shared would still be found. The runs are always the
 * same, and each thing is looked at in a run of its own, so that no object is asked more than 512 times.
 */
public final class WholeCampaignTest {
    private static final int IN_COLUMN = 0, MELTED = 1, CHILL = 2;
    private static final int NONE = IronCampaign.NONE;

    private final IronCampaign campaign = new IronCampaign();
    private final int[] bought = new int[6];
    private final String run;
    private long state;
    private int calls = 0;

    private WholeCampaignTest(int seed) {
        state = seed;
        run = "run " + seed + ": ";
    }

    public static void main(String[] args) {
        for (int seed = 1; seed <= 150 && Due.wrongSoFar() < 20; seed++) {
            look(seed, WholeCampaignTest::whatWentInAddsUp);
            look(seed, WholeCampaignTest::columnIsTheLastOnes);
            look(seed, WholeCampaignTest::chargesComeDownWhenTold);
            look(seed, WholeCampaignTest::signsAreOfTheTick);
            look(seed, WholeCampaignTest::tapTakesAllIron);
            look(seed, WholeCampaignTest::pigsLeadBackToTheirCharges);
            look(seed, WholeCampaignTest::forgesPayForWhatTheyGet);
            WholeCampaignTest t = new WholeCampaignTest(seed);
            t.plansKeepToTheirMeans();
            t.end();
        }
        Due.end();
    }

    private static void look(int seed, Consumer<WholeCampaignTest> check) {
        WholeCampaignTest t = new WholeCampaignTest(seed);
        t.blowThroughTheCampaign();
        check.accept(t);
        t.end();
    }

    private void end() {
        Due.holds(run + calls + " calls are 512 at most", calls <= 512);
    }

    private IronCampaign x() {
        calls++;
        return campaign;
    }

    /** A number from low to high, from a fixed sequence. */
    private int pick(int low, int high) {
        state = state * 6364136223846793005L + 1442695040888963407L;
        return low + (int) ((state >>> 33) % (high - low + 1));
    }

    private void blowThroughTheCampaign() {
        begin();
        int rounds = pick(3, 13);
        int ruledFrom = pick(3, 20);
        for (int round = 0; round < rounds; round++) {
            if (round == ruledFrom) letRulesAct();
            int n = pick(1, 4);
            for (int i = 0; i < n; i++) x().charge(pick(1, 40), pick(0, 3), pick(0, 45), pick(0, 10));
            if (pick(0, 2) == 0) x().blast(pick(6, 20));
            if (pick(0, 4) == 0) x().rich(pick(0, 3), pick(10, 60));
            x().tick(pick(2, 5));
            if (pick(0, 2) == 0) x().tap();
        }
    }

    private void begin() {
        for (int s = 0; s < 6; s++) {
            bought[s] = pick(2000, 10000);
            x().buy(s, bought[s]);
        }
        x().hearth(pick(5, 60), pick(0, 5) == 0 ? 150 : 100000);
        x().blast(pick(15, 20));
        for (int i = 0; i < 3; i++) x().charge(60, 0, 0, 0);
        x().tick(pick(6, 12));
    }

    private void letRulesAct() {
        x().rule(0, false, pick(30, 60), 0);
        x().rule(0, true, pick(60, 95), 1);
        x().rule(2, true, pick(0, 20), 2);
        x().rule(1, true, pick(20, 60), pick(0, 1));
    }

    private int[] ofCharges(int what) {
        int[] all = new int[x().count(0)];
        for (int i = 0; i < all.length; i++) all[i] = x().chargeAt(i, what);
        return all;
    }

    private int[] ofPigs(int what) {
        int[] all = new int[x().count(1)];
        for (int i = 0; i < all.length; i++) all[i] = x().pig(i, what);
        return all;
    }

    private static int sum(int[] all) {
        int sum = 0;
        for (int v : all) sum += v;
        return sum;
    }

    private static int sumOfDown(int[] stands, int[] all) {
        int sum = 0;
        for (int i = 0; i < all.length; i++) sum += stands[i] == IN_COLUMN ? 0 : all[i];
        return sum;
    }

    /** "iron and slag that add up to what went in" */
    private void whatWentInAddsUp() {
        int[] stands = ofCharges(0);
        int[] coal = ofCharges(1);
        int[] ore = ofCharges(2);
        int[] flux = ofCharges(3);
        Due.is(run + "COAL in STORES, in THE COLUMN and burned", x().store(0) + sum(coal) + x().about(6), bought[0]);
        Due.is(run + "COAL left of those that came down", sumOfDown(stands, coal), 0);
        Due.is(run + "FLUX in STORES and CHARGES", x().store(1) + sum(flux), bought[1]);
        int oreLeft = 0;
        int oreBought = 0;
        for (int s = 2; s < 6; s++) {
            oreLeft += x().store(s);
            oreBought += bought[s];
        }
        Due.is(run + "ORE in STORES and CHARGES", oreLeft + sum(ore), oreBought);
        int cast = x().about(1) + sum(ofPigs(0));
        int wentIn = sumOfDown(stands, ore) + sumOfDown(stands, flux);
        Due.is(run + "IRON and SLAG", x().about(2) + cast, wentIn);
        Due.is(run + "IRON made", x().about(10), cast + x().about(8));
        Due.is(run + "IRON that CHARGES made", sum(ofCharges(6)), x().about(10));
    }

    /** "those that came first lowest", "12 at most", "SORT (NONE: it did not MELT)" */
    private void columnIsTheLastOnes() {
        int[] stands = ofCharges(0);
        int[] sorts = ofCharges(5);
        int inColumn = x().about(5);
        int chills = 0;
        for (int i = 0; i < stands.length; i++) {
            boolean last = i >= stands.length - inColumn;
            Due.holds(run + "CHARGE " + i + " in THE COLUMN", (stands[i] == IN_COLUMN) == last);
            Due.holds(run + "CHARGE " + i + " has a SORT", (sorts[i] != NONE) == (stands[i] == MELTED));
            if (stands[i] == CHILL) chills++;
        }
        Due.is(run + "CHILLS", x().about(7), chills);
        Due.holds(run + "12 at most", inColumn <= 12);
    }

    /** "burden by baskets that goes down as coal burns": when tells the very TICK */
    private void chargesComeDownWhenTold() {
        x().unrule();
        x().blast(pick(1, 20));
        x().charge(pick(1, 60), 0, 5, 1);
        int charge = x().count(0) - 1;
        int left = x().when(charge);
        while (left > 1) {
            int n = pick(1, Math.min(50, left - 1));
            if (x().tick(n) < n || x().about(9) == 1) return;
            left -= n;
            Due.is(run + "CHARGE " + charge + " stands", x().chargeAt(charge, 0), IN_COLUMN);
            Due.is(run + "when", x().when(charge), left);
        }
        if (left < 1 || x().tick(1) < 1) return;
        Due.holds(run + "CHARGE " + charge + " came down", x().chargeAt(charge, 0) != IN_COLUMN);
        Due.is(run + "when behind it", x().when(charge), NONE);
    }

    /** "SIGNS: .. as they are behind a TICK, seen, but for those that are LOST for that TICK" */
    private void signsAreOfTheTick() {
        int lost = pick(0, 3);
        if (lost < 3) x().lose(lost, 5);
        for (int i = 0; i < 9; i++) {
            int slag = x().about(2);
            if (x().tick(1) < 1) return;
            int[] seen = {x().about(0) / 10, x().about(2) - slag, x().about(1)};
            for (int s = 0; s < 3; s++) {
                Due.is(run + "sign(" + s + ")", x().sign(s), s == lost && i < 5 ? NONE : seen[s]);
            }
        }
    }

    /** "TAPPED: the IRON in THE HEARTH, if there is some, is a PIG" */
    private void tapTakesAllIron() {
        int iron = x().about(1);
        int pigs = x().count(1);
        int pig = x().tap();
        Due.is(run + "tap()", pig, iron == 0 ? NONE : pigs);
        Due.is(run + "IRON left", x().about(1), 0);
        Due.is(run + "PIGS", x().count(1), iron == 0 ? pigs : pigs + 1);
        if (pig == NONE) return;
        Due.is(run + "its weight", x().pig(pig, 0), iron);
        Due.is(run + "its hour", x().pig(pig, 4), x().about(4));
        Due.is(run + "tap() again", x().tap(), NONE);
    }

    /** "pigs led back to the charges that made them" */
    private void pigsLeadBackToTheirCharges() {
        int[] stands = ofCharges(0);
        int[] sorts = ofCharges(5);
        int[] irons = ofCharges(6);
        int pigs = x().count(1);
        int next = 0;
        int hour = 0;
        for (int p = 0; p < pigs; p++) {
            while (next < stands.length && stands[next] != MELTED) next++;
            Due.is(run + "first CHARGE of PIG " + p, x().pig(p, 2), next);
            int last = x().pig(p, 3);
            int least = 3;
            int iron = 0;
            for (int i = next; i <= last && i < stands.length; i++) {
                if (stands[i] != MELTED) continue;
                least = Math.min(least, sorts[i]);
                iron += irons[i];
            }
            Due.is(run + "SORT of PIG " + p, x().pig(p, 1), least);
            int weight = x().pig(p, 0);
            Due.holds(run + "PIG " + p + " is what they made or a part", weight > 0 && weight <= iron);
            Due.holds(run + "last CHARGE of PIG " + p, last >= next && stands[last] == MELTED);
            int itsHour = x().pig(p, 4);
            Due.holds(run + "hour of PIG " + p, itsHour > hour);
            next = last + 1;
            hour = itsHour;
        }
    }

    /** "sold to forges by sorts", "no FORGE gets more than it wants" */
    private void forgesPayForWhatTheyGet() {
        int[] sorts = new int[3];
        int[] wants = new int[3];
        int[] prices = new int[3];
        for (int f = 0; f < 3; f++) {
            sorts[f] = pick(0, 15);
            wants[f] = pick(0, 120);
            prices[f] = pick(1, 50);
            Due.is(run + "forge", x().forge(sorts[f], wants[f], prices[f]), f);
            sellOnce();
        }
        for (int i = 0; i < 5; i++) sellOnce();
        int[] weights = ofPigs(0);
        int[] sortOf = ofPigs(1);
        int[] forgeOf = ofPigs(5);
        int pay = 0;
        int sold = 0;
        for (int p = 0; p < weights.length; p++) {
            int f = forgeOf[p];
            if (f == NONE) continue;
            Due.holds(run + "FORGE " + f + " takes the SORT of PIG " + p, (sorts[f] >> sortOf[p] & 1) == 1);
            wants[f] -= weights[p];
            pay += weights[p] * prices[f];
            sold++;
        }
        for (int f = 0; f < 3; f++) Due.holds(run + "FORGE " + f + " got what it wants at most", wants[f] >= 0);
        Due.is(run + "PIGS SOLD", x().count(4), sold);
        Due.is(run + "what was paid", x().count(5), pay);
    }

    private void sellOnce() {
        int due = x().sale();
        int sold = x().count(4);
        int paid = x().count(5);
        int now = x().sell();
        Due.is(run + "sell()", now, x().count(4) - sold);
        Due.is(run + "what sell() was paid", x().count(5) - paid, due);
    }

    /** "months planned by water, coal and wear for the most iron" */
    private void plansKeepToTheirMeans() {
        int[][] months = new int[12][];
        for (int m = 0; m < 12; m++) {
            months[m] = new int[] {pick(0, 4), pick(0, 200)};
            x().month(m, months[m][0], months[m][1]);
        }
        int[][] paces = new int[5][];
        for (int p = 0; p < 5; p++) {
            paces[p] = new int[] {pick(0, 60) * p, pick(0, 40), pick(0, 150)};
            x().pace(p, paces[p][0], paces[p][1], paces[p][2]);
        }
        for (int i = 0; i < 20; i++) planKeepsToItsMeans(months, paces, pick(0, 11), pick(1, 6));
    }

    private void planKeepsToItsMeans(int[][] months, int[][] paces, int from, int n) {
        int wear = pick(0, 250);
        int coal = pick(0, 300);
        int iron = x().plan(from, n, wear, coal);
        if (iron == NONE) return;
        int made = 0;
        int wearLeft = wear;
        int coalLeft = coal;
        for (int i = 0; i < n; i++) {
            int p = x().paceAt(i);
            int[] month = months[(from + i) % 12];
            Due.holds(run + "PACE within WATER", p >= 0 && p <= month[0]);
            made += paces[p][0];
            wearLeft -= paces[p][1];
            coalLeft += month[1] - paces[p][2];
            Due.holds(run + "COAL there", coalLeft >= 0);
        }
        Due.holds(run + "WEAR within what is left", wearLeft >= 0);
        Due.is(run + "IRON of its PACES", made, iron);
        Due.is(run + "paceAt behind the last", x().paceAt(n), NONE);
        Due.holds(run + "no less IRON with more WEAR", x().plan(from, n, wear + 50, coal) >= iron);
        Due.holds(run + "no more IRON with less COAL", x().plan(from, n, wear, Math.max(0, coal - 50)) <= iron);
    }
}
