/** Promises 25 (count) and 26 (digest). */
public final class DigestTest {
    public static void main(String[] args) {
        countTellsHowMany();
        countRefuses();
        digestOfANewObject();
        digestGoesThroughAll();
        Due.end();
    }

    private static IronCampaign busy() {
        IronCampaign x = Scenes.hot();
        x.rule(0, false, 5, 0);
        x.rule(2, true, 5, 2);
        x.rule(1, true, 900, 1);
        x.forge(15, 40, 6);
        x.forge(8, 7, 9);
        for (int i = 0; i < 5; i++) Scenes.castPig(x, 20 + 3 * i, 2 * i);
        x.sell();
        x.charge(30, 1, 50, 3);
        x.charge(30, 2, 60, 3);
        x.charge(30, 3, 10, 3);
        x.lose(1, 3);
        x.tick(2);
        return x;
    }

    private static void countTellsHowMany() {
        IronCampaign x = busy();
        Due.is("CHARGES", x.count(0), 11);
        Due.is("PIGS", x.count(1), 5);
        Due.is("RULES", x.count(2), 3);
        Due.is("FORGES", x.count(3), 2);
        int sold = 0;
        int paid = 0;
        for (int i = 0; i < 5; i++) {
            int forge = x.pig(i, 5);
            if (forge != IronCampaign.NONE) sold++;
            if (forge == 0) paid += 6 * x.pig(i, 0);
            if (forge == 1) paid += 9 * x.pig(i, 0);
        }
        Due.is("PIGS SOLD", x.count(4), sold);
        Due.is("what was paid", x.count(5), paid);
        Due.holds("something was", sold > 0);
    }

    private static void countRefuses() {
        IronCampaign x = new IronCampaign();
        Due.is("count(-1)", x.count(-1), IronCampaign.BAD);
        Due.is("count(6)", x.count(6), IronCampaign.BAD);
        Due.is("count(greatest int)", x.count(Integer.MAX_VALUE), IronCampaign.BAD);
    }

    private static void digestOfANewObject() {
        long h = 199;
        for (int i = 0; i < 6 + 12 + 6; i++) h = 31 * h;
        for (int i = 0; i < 3; i++) h = 31 * h - 1;
        Due.is("digest() of a new object", new IronCampaign().digest(), h);
    }

    private static void digestGoesThroughAll() {
        IronCampaign x = busy();
        long h = 199;
        for (int what = 0; what < 6; what++) h = 31 * h + x.count(what);
        for (int what = 0; what < 12; what++) h = 31 * h + x.about(what);
        for (int s = 0; s < 6; s++) h = 31 * h + x.store(s);
        for (int i = 0; i < x.count(0); i++) {
            for (int what = 0; what < 7; what++) h = 31 * h + x.chargeAt(i, what);
        }
        for (int i = 0; i < x.count(1); i++) {
            for (int what = 0; what < 6; what++) h = 31 * h + x.pig(i, what);
        }
        for (int s = 0; s < 3; s++) h = 31 * h + x.sign(s);
        Due.is("digest()", x.digest(), h);
        Due.is("digest() again", x.digest(), h);
    }
}
