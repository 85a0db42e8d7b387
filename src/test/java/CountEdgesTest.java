import java.math.BigInteger;
import java.util.function.Supplier;

/** Promises 25 and 26 at their ends, and the ends of an object's use. Each test has its sentence above it. */
public final class CountEdgesTest {
    private static final int BAD = IronCampaign.BAD;

    public static void main(String[] args) {
        countIsNoughtToFive();
        countOfNothing();
        countOfTheMost();
        refusedCallsAreNotCounted();
        digestOfNothing();
        digestOfTheMost();
        digestWrapsAround();
        digestTellsEachOfItsParts();
        digestChangesNothing();
        fiveHundredAndTwelveCalls();
        Due.end();
    }

    /** "How many: 0 CHARGES, .. 5 what was paid. BAD." */
    private static void countIsNoughtToFive() {
        Edge.range("count", (x, a) -> x.count(a[0]), new int[] {0}, 0, 0, 5);
    }

    /** "How many": none */
    private static void countOfNothing() {
        for (int what = 0; what < 6; what++) Due.is("count(" + what + ") at first", new IronCampaign().count(what), 0);
    }

    /** "400 ever", "60 at most", "FULL: 8", "FULL: 3": the most of each */
    private static void countOfTheMost() {
        Due.is("CHARGES", Scenes.allCharges(5).count(0), 400);
        IronCampaign x = Scenes.allPigs(1);
        Due.is("PIGS", x.count(1), 60);
        for (int i = 0; i < 9; i++) x.rule(0, true, 1000, 0);
        Due.is("RULES", x.count(2), 8);
        for (int i = 0; i < 4; i++) x.forge(15, 2000, 50);
        Due.is("FORGES", x.count(3), 3);
        for (int i = 0; i < 8; i++) x.sell();
        Due.is("PIGS SOLD", x.count(4), 60);
        Due.is("what was paid", x.count(5), 60 * 5 * 50);
    }

    /** "Refused, changing nothing" */
    private static void refusedCallsAreNotCounted() {
        IronCampaign x = new IronCampaign();
        x.charge(0, 0, 0, 0);
        x.charge(1, 0, 0, 0);
        x.tap();
        x.rule(3, true, 0, 0);
        x.forge(0, 0, 0);
        x.sell();
        for (int what = 0; what < 6; what++) Due.is("count(" + what + ")", x.count(what), 0);
    }

    /** Asks like objects by turns, as 400 CHARGES have more to tell than one object's 512 calls. */
    private static final class Asked {
        private final Supplier<IronCampaign> scene;
        private IronCampaign now;
        private int calls = 0;

        Asked(Supplier<IronCampaign> scene) {
            this.scene = scene;
        }

        IronCampaign x() {
            if (calls++ % 50 == 0) now = scene.get();
            return now;
        }
    }

    /** The sum as the document tells it, by the calls that it names, without an end to its size. */
    private static long sum(Supplier<IronCampaign> scene) {
        Asked asked = new Asked(scene);
        int charges = asked.x().count(0);
        int pigs = asked.x().count(1);
        BigInteger h = BigInteger.valueOf(199);
        for (int what = 0; what < 6; what++) h = next(h, asked.x().count(what));
        for (int what = 0; what < 12; what++) h = next(h, asked.x().about(what));
        for (int s = 0; s < 6; s++) h = next(h, asked.x().store(s));
        for (int i = 0; i < charges; i++) {
            for (int what = 0; what < 7; what++) h = next(h, asked.x().chargeAt(i, what));
        }
        for (int i = 0; i < pigs; i++) {
            for (int what = 0; what < 6; what++) h = next(h, asked.x().pig(i, what));
        }
        for (int s = 0; s < 3; s++) h = next(h, asked.x().sign(s));
        return h.longValue();
    }

    private static void digestIsTheSum(String of, Supplier<IronCampaign> scene) {
        Due.is("digest() of " + of, scene.get().digest(), sum(scene));
    }

    private static BigInteger next(BigInteger h, int v) {
        return h.multiply(BigInteger.valueOf(31)).add(BigInteger.valueOf(v));
    }

    /** "h = 199; then h = 31 h + v for each v": no CHARGES, no PIGS, SIGNS that none saw */
    private static void digestOfNothing() {
        digestIsTheSum("a new object", IronCampaign::new);
    }

    /** "of CHARGES chargeAt(.., 0) to (.., 6); of PIGS pig(.., 0) to (.., 5)": all 400, all 60 */
    private static void digestOfTheMost() {
        digestIsTheSum("400 CHARGES", () -> Scenes.allCharges(5));
        digestIsTheSum("60 PIGS", () -> Scenes.allPigs(1));
        digestIsTheSum("a full COLUMN", Scenes::fullColumn);
    }

    /** "long digest()": 31 h goes round the end of a long */
    private static void digestWrapsAround() {
        digestIsTheSum("a busy furnace", Scenes::busy);
        digestIsTheSum("a furnace that is OUT", Scenes::out);
    }

    private static void told(String what, IronCampaign x, IronCampaign y) {
        Due.holds("digest() tells " + what, x.digest() != y.digest());
    }

    /** "count(0) to count(5); about(0) to about(11); STORES; .. SIGNS" */
    private static void digestTellsEachOfItsParts() {
        for (int s = 0; s < 6; s++) {
            IronCampaign x = Scenes.busy();
            x.buy(s, 1);
            told("STORE " + s, x, Scenes.busy());
        }
        IronCampaign blown = Scenes.busy();
        blown.blast(blown.about(11) - 1);
        told("BLAST", blown, Scenes.busy());
        IronCampaign ruled = Scenes.busy();
        ruled.unrule();
        told("RULES", ruled, Scenes.busy());
        for (int s = 0; s < 3; s++) {
            IronCampaign lost = new IronCampaign();
            lost.lose(s, 1);
            lost.tick(1);
            IronCampaign seen = new IronCampaign();
            seen.tick(1);
            told("SIGN " + s, lost, seen);
        }
    }

    /** "digest": it tells, and does nothing */
    private static void digestChangesNothing() {
        IronCampaign x = Scenes.busy();
        Due.is("digest() again", x.digest(), x.digest());
        Edge.sameFromNowOn("digest()", x, Scenes.busy());
    }

    /** "An object is used for at most 512 calls after it has been made": the 512th is as good as the first */
    private static void fiveHundredAndTwelveCalls() {
        IronCampaign x = new IronCampaign();
        for (int i = 0; i < 509; i++) Due.is("buy(0, 1)", x.buy(0, 1), i + 1);
        Due.is("the 510th", x.charge(9, 0, 0, 0), 0);
        Due.is("the 511th", x.count(9), BAD);
        Due.is("the 512th", x.store(0), 500);
    }
}
