/** Promises 14 (sign), 15 (lose), 16 (rule) and 17 (unrule). */
public final class SignsTest {
    public static void main(String[] args) {
        signsAreSeenBehindATick();
        signRefuses();
        loseHidesTheNextTicks();
        loseComesInPlaceOfWhatWasTold();
        loseRefuses();
        rulesMoveBlast();
        rulesKeepBlastWithinItsEnds();
        rulesActStrictlyAboveAndBelow();
        rulesActInOrder();
        rulesNeedASignThatWasSeen();
        rulesTapByWhatWasSeen();
        rulesSeeSlag();
        ruleRefuses();
        unruleTakesAll();
        Due.end();
    }

    private static void signs(IronCampaign x, String where, int heat, int slag, int iron) {
        Due.is("sign(0) " + where, x.sign(0), heat);
        Due.is("sign(1) " + where, x.sign(1), slag);
        Due.is("sign(2) " + where, x.sign(2), iron);
    }

    private static void signsAreSeenBehindATick() {
        IronCampaign x = Scenes.stocked();
        x.blast(6);
        x.charge(60, 0, 0, 0);
        signs(x, "ahead of all TICKS", IronCampaign.NONE, IronCampaign.NONE, IronCampaign.NONE);
        x.tick(1);
        signs(x, "at HEAT 8", 0, 0, 0);
        x.tick(1);
        signs(x, "at HEAT 16", 1, 0, 0);

        IronCampaign y = Scenes.hot();
        signs(y, "at HEAT 1000", 100, 0, 0);
        y.charge(20, 0, 50, 7);
        y.tick(1);
        signs(y, "behind a MELT", 87, 42, 15);
        y.tap();
        signs(y, "behind a tap", 87, 42, 15);
        y.tick(1);
        signs(y, "a TICK later", 83, 0, 0);
    }

    private static void signRefuses() {
        IronCampaign x = new IronCampaign();
        Due.is("sign(-1)", x.sign(-1), IronCampaign.BAD);
        Due.is("sign(3)", x.sign(3), IronCampaign.BAD);
        Due.is("sign(greatest int)", x.sign(Integer.MAX_VALUE), IronCampaign.BAD);
    }

    private static void loseHidesTheNextTicks() {
        IronCampaign x = Scenes.hot();
        Due.is("lose(0, 2)", x.lose(0, 2), 1);
        signs(x, "seen already", 100, 0, 0);
        x.tick(1);
        signs(x, "LOST once", IronCampaign.NONE, 0, 0);
        x.tick(1);
        signs(x, "LOST twice", IronCampaign.NONE, 0, 0);
        x.tick(1);
        signs(x, "seen again", 88, 0, 0);
        x.lose(1, 1);
        x.lose(2, 2);
        x.tick(1);
        signs(x, "two LOST", 84, IronCampaign.NONE, IronCampaign.NONE);
        x.tick(1);
        signs(x, "one LOST", 80, 0, IronCampaign.NONE);
        x.tick(1);
        signs(x, "none LOST", 76, 0, 0);
    }

    private static void loseComesInPlaceOfWhatWasTold() {
        IronCampaign x = Scenes.hot();
        x.lose(0, 50);
        x.tick(1);
        x.lose(0, 1);
        x.tick(1);
        Due.is("sign(0) LOST", x.sign(0), IronCampaign.NONE);
        x.tick(1);
        Due.is("sign(0) seen", x.sign(0), 88);
        x.lose(0, 3);
        x.lose(0, 0);
        x.tick(1);
        Due.is("sign(0) seen at once", x.sign(0), 84);
        x.lose(0, 50);
        x.tick(49);
        Due.is("sign(0) behind 49", x.sign(0), IronCampaign.NONE);
        x.tick(1);
        Due.is("sign(0) behind 50", x.sign(0), IronCampaign.NONE);
        x.tick(1);
        Due.is("sign(0) behind 51", x.sign(0), 0);
    }

    private static void loseRefuses() {
        IronCampaign x = Scenes.hot();
        Due.is("lose(-1, 1)", x.lose(-1, 1), IronCampaign.BAD);
        Due.is("lose(3, 1)", x.lose(3, 1), IronCampaign.BAD);
        Due.is("lose(0, -1)", x.lose(0, -1), IronCampaign.BAD);
        Due.is("lose(0, 51)", x.lose(0, 51), IronCampaign.BAD);
        x.tick(1);
        signs(x, "after refusals", 96, 0, 0);
    }

    private static void rulesMoveBlast() {
        IronCampaign x = Scenes.stocked();
        x.charge(60, 0, 0, 0);
        x.blast(6);
        Due.is("rule(0, false, 2, 0)", x.rule(0, false, 2, 0), 0);
        x.tick(1);
        Due.is("BLAST behind the first TICK", x.about(11), 6);
        x.tick(1);
        Due.is("BLAST behind the second", x.about(11), 7);
        Due.is("the new BLAST burned", x.about(6), 13);
        Due.is("HEAT", x.about(0), 8 + 16);
        x.tick(1);
        Due.is("BLAST at the limit", x.about(11), 7);
        x.unrule();
        x.rule(0, true, 3, 1);
        x.tick(1);
        Due.is("BLAST one less", x.about(11), 6);
    }

    private static void rulesKeepBlastWithinItsEnds() {
        IronCampaign x = Scenes.stocked();
        x.blast(19);
        x.tick(1);
        x.rule(0, false, 1000, 0);
        x.tick(1);
        Due.is("BLAST 20", x.about(11), 20);
        x.tick(1);
        Due.is("BLAST not above 20", x.about(11), 20);
        x.unrule();
        x.blast(1);
        x.rule(0, false, 1000, 1);
        x.tick(1);
        Due.is("BLAST 0", x.about(11), 0);
        x.tick(1);
        Due.is("BLAST not below 0", x.about(11), 0);
    }

    /** BLAST behind one TICK under one RULE on HEAT, seen as 12. */
    private static int blastUnder(boolean above, int limit) {
        IronCampaign x = Scenes.heated(1);
        x.blast(5);
        x.rule(0, above, limit, 0);
        x.tick(1);
        return x.about(11);
    }

    private static void rulesActStrictlyAboveAndBelow() {
        Due.is("above 11", blastUnder(true, 11), 6);
        Due.is("above 12", blastUnder(true, 12), 5);
        Due.is("above 13", blastUnder(true, 13), 5);
        Due.is("below 11", blastUnder(false, 11), 5);
        Due.is("below 12", blastUnder(false, 12), 5);
        Due.is("below 13", blastUnder(false, 13), 6);
        Due.is("below 1000", blastUnder(false, 1000), 6);
        Due.is("above 0", blastUnder(true, 0), 6);
    }

    private static void rulesActInOrder() {
        IronCampaign x = Scenes.heated(1);
        x.rule(0, true, 0, 0);
        x.rule(0, true, 0, 1);
        x.tick(1);
        Due.is("20, not above, then one less", x.about(11), 19);
        IronCampaign y = Scenes.heated(1);
        y.rule(0, true, 0, 1);
        y.rule(0, true, 0, 0);
        y.tick(1);
        Due.is("one less, then one more", y.about(11), 20);
        IronCampaign z = Scenes.heated(1);
        for (int i = 0; i < 8; i++) z.rule(0, true, 0, 1);
        z.tick(1);
        Due.is("eight RULES", z.about(11), 12);
    }

    private static void rulesNeedASignThatWasSeen() {
        IronCampaign x = Scenes.stocked();
        x.blast(5);
        x.rule(0, false, 1000, 0);
        x.rule(1, false, 1000, 0);
        x.tick(1);
        Due.is("none seen ahead of the first TICK", x.about(11), 5);
        x.lose(0, 1);
        x.tick(1);
        Due.is("both seen", x.about(11), 7);
        x.tick(1);
        Due.is("one LOST", x.about(11), 8);
        x.tick(1);
        Due.is("both seen again", x.about(11), 10);
    }

    private static void rulesTapByWhatWasSeen() {
        IronCampaign x = Scenes.hot();
        x.rule(2, true, 5, 2);
        x.charge(20, 0, 20, 5);
        x.tick(1);
        Due.is("no PIG in its own TICK", x.count(1), 0);
        x.tick(1);
        Due.is("a PIG as the next begins", x.count(1), 1);
        Due.is("its weight", x.pig(0, 0), 6);
        Due.is("its hour", x.pig(0, 4), 10);
        x.charge(20, 0, 20, 5);
        x.tick(1);
        x.tap();
        x.tick(1);
        Due.is("nothing left for the RULE", x.count(1), 2);
        x.charge(20, 0, 10, 5);
        x.tick(2);
        Due.is("IRON 3 is not above 5", x.count(1), 2);

        IronCampaign y = Scenes.hot();
        y.rule(0, true, 0, 2);
        y.charge(20, 0, 20, 5);
        y.tick(2);
        Due.is("a tap by HEAT", y.pig(0, 4), 10);
        Due.is("IRON gone", y.sign(2), 0);
    }

    private static void rulesSeeSlag() {
        IronCampaign x = Scenes.hot();
        x.rule(1, true, 20, 1);
        x.charge(20, 0, 20, 7);
        x.tick(1);
        Due.is("SLAG 21 seen", x.sign(1), 21);
        x.tick(1);
        Due.is("BLAST one less", x.about(11), 19);
        x.tick(3);
        Due.is("BLAST stays", x.about(11), 19);
    }

    private static void ruleRefuses() {
        IronCampaign x = Scenes.heated(1);
        Due.is("rule(-1, ..)", x.rule(-1, true, 0, 0), IronCampaign.BAD);
        Due.is("rule(3, ..)", x.rule(3, true, 0, 0), IronCampaign.BAD);
        Due.is("limit -1", x.rule(0, true, -1, 0), IronCampaign.BAD);
        Due.is("limit 1001", x.rule(0, true, 1001, 0), IronCampaign.BAD);
        Due.is("act -1", x.rule(0, true, 0, -1), IronCampaign.BAD);
        Due.is("act 3", x.rule(0, true, 0, 3), IronCampaign.BAD);
        Due.is("RULES", x.count(2), 0);
        for (int i = 0; i < 8; i++) Due.is("RULE " + i, x.rule(i % 3, false, 1000, 2), i);
        Due.is("a ninth", x.rule(0, true, 0, 1), IronCampaign.FULL);
        Due.is("BAD ahead of FULL", x.rule(0, true, 0, 3), IronCampaign.BAD);
        Due.is("RULES", x.count(2), 8);
        x.tick(1);
        Due.is("the ninth does not act", x.about(11), 20);
    }

    private static void unruleTakesAll() {
        IronCampaign x = Scenes.heated(1);
        x.rule(0, true, 0, 1);
        x.rule(0, true, 0, 1);
        Due.is("unrule()", x.unrule(), 2);
        Due.is("unrule() again", x.unrule(), 0);
        Due.is("RULES", x.count(2), 0);
        x.tick(1);
        Due.is("BLAST stays", x.about(11), 20);
        Due.is("numbers from 0 on again", x.rule(0, true, 0, 1), 0);
        x.tick(1);
        Due.is("only the new RULE acts", x.about(11), 19);
    }
}
