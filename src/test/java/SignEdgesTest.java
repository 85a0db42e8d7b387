/** SIGNS and RULES at their ends, promises 14 to 17. Each test has its sentence above it. */
public final class SignEdgesTest {
    private static final int BAD = IronCampaign.BAD, NONE = IronCampaign.NONE, FULL = IronCampaign.FULL;

    public static void main(String[] args) {
        heatIsByTenCut();
        slagIsOfTheTick();
        slagIsWithWhatSpilled();
        ironIsBehindTheSpill();
        signsAreAsBehindATick();
        signIsNoneWhenNoneWas();
        signIsNoneWhenLost();
        signIsBadForNoSuchSign();
        Losses.main(args);
        Rules.main(args);
        unruleTakesAll();
        Due.end();
    }

    private static int heatSeenAt(int heat) {
        IronCampaign x = Scenes.atHeat(heat + 40);
        x.tick(1);
        Due.is("HEAT", x.about(0), heat);
        return x.sign(0);
    }

    /** "0 HEAT by 10, cut" */
    private static void heatIsByTenCut() {
        Due.is("HEAT 0", heatSeenAt(0), 0);
        Due.is("HEAT 9", heatSeenAt(9), 0);
        Due.is("HEAT 10", heatSeenAt(10), 1);
        Due.is("HEAT 19", heatSeenAt(19), 1);
        Due.is("HEAT 20", heatSeenAt(20), 2);
        Due.is("HEAT 999", Scenes.atHeat(999).sign(0), 99);
        Due.is("HEAT 1000", Scenes.atHeat(1000).sign(0), 100);
    }

    /** "1 SLAG that came in the TICK": none is 0, and what came ahead is not in it */
    private static void slagIsOfTheTick() {
        IronCampaign x = Scenes.stocked();
        x.charge(1, 0, 60, 30);
        x.charge(1, 0, 60, 30);
        x.blast(2);
        x.tick(1);
        Due.is("two CHILLS", x.sign(1), 180);
        x.tick(1);
        Due.is("none in the next", x.sign(1), 0);
        Due.is("SLAG in all", x.about(2), 180);
        IronCampaign y = Scenes.fullColumnOfOre();
        y.blast(12);
        y.tick(1);
        Due.is("the most in a TICK", y.sign(1), 1080);
    }

    /** "(with what SPILLED)" */
    private static void slagIsWithWhatSpilled() {
        IronCampaign x = Scenes.hot();
        x.hearth(5, 100000);
        Scenes.bringDown(x, 0, 20, 0);
        Due.is("14 and 1 that SPILLED", x.sign(1), 15);
        x.hearth(4, 100000);
        x.tick(1);
        Due.is("what SPILLED alone", x.sign(1), 1);
    }

    /** "2 IRON in THE HEARTH": behind the TICK, so without what SPILLED in it */
    private static void ironIsBehindTheSpill() {
        IronCampaign x = Scenes.hot();
        Due.is("none", x.sign(2), 0);
        x.hearth(5, 100000);
        Scenes.bringDown(x, 0, 20, 0);
        Due.is("what it HOLDS", x.sign(2), 5);
    }

    /** "as they are behind a TICK, seen": what comes between TICKS is not seen */
    private static void signsAreAsBehindATick() {
        IronCampaign x = Scenes.hot();
        Scenes.bringDown(x, 0, 20, 0);
        x.tap();
        x.hearth(1, 100000);
        x.lose(2, 1);
        Due.is("IRON as seen", x.sign(2), 6);
        x.tick(1);
        x.lose(2, 0);
        Due.is("LOST as it was", x.sign(2), NONE);
        x.tick(1);
        Due.is("IRON now", x.sign(2), 0);
    }

    /** "NONE: LOST, or none was": none was */
    private static void signIsNoneWhenNoneWas() {
        IronCampaign x = Scenes.stocked();
        x.charge(1, 0, 0, 0);
        x.blast(1);
        for (int s = 0; s < 3; s++) Due.is("ahead of all TICKS", x.sign(s), NONE);
        Due.is("a refused TICK", x.tick(51), BAD);
        for (int s = 0; s < 3; s++) Due.is("still ahead of all", x.sign(s), NONE);
        x.tick(1);
        for (int s = 0; s < 3; s++) Due.is("behind the first TICK", x.sign(s), 0);
    }

    /** "NONE: LOST" */
    private static void signIsNoneWhenLost() {
        for (int lost = 0; lost < 3; lost++) {
            IronCampaign x = Scenes.stocked();
            x.lose(lost, 1);
            x.tick(1);
            for (int s = 0; s < 3; s++) Due.is("sign(" + s + "), " + lost + " LOST", x.sign(s), s == lost ? NONE : 0);
            x.tick(1);
            for (int s = 0; s < 3; s++) Due.is("sign(" + s + ") again", x.sign(s), 0);
        }
    }

    /** "A SIGN as it was seen behind the latest TICK. .. BAD." */
    private static void signIsBadForNoSuchSign() {
        for (int s : new int[] {-1, 3, Integer.MIN_VALUE, Integer.MAX_VALUE}) {
            Edge.refused("sign(" + s + ")", Scenes::busy, x -> x.sign(s), BAD);
            Due.is("sign(" + s + ") of a new one", new IronCampaign().sign(s), BAD);
        }
        for (int s = 0; s < 3; s++) Due.holds("sign(" + s + ")", Scenes.hot().sign(s) >= 0);
    }

    /** Promise 15: lose. */
    private static final class Losses {
        static void main(String[] args) {
            signIsNoughtToTwo();
            ticksAreNoughtToFifty();
            lostBehindTheNextTicks();
            lostForNone();
            inPlaceOfWhatWasTold();
            countsTicksAlone();
        }

        /** "A SIGN will be LOST": SIGNS 0 to 2; "BAD." */
        private static void signIsNoughtToTwo() {
            Edge.range("lose", (x, a) -> x.lose(a[0], a[1]), new int[] {1, 5}, 0, 0, 2);
        }

        /** "(0 .. 50", "BAD." */
        private static void ticksAreNoughtToFifty() {
            Edge.range("lose", (x, a) -> x.lose(a[0], a[1]), new int[] {1, 5}, 1, 0, 50);
        }

        private static int seenAgainBehind(int n) {
            IronCampaign x = Scenes.stocked();
            x.tick(1);
            Due.is("lose(0, " + n + ")", x.lose(0, n), 1);
            Due.is("seen as it was", x.sign(0), 0);
            for (int i = 1; i <= 60; i++) {
                x.tick(1);
                if (x.sign(0) != NONE) return i;
            }
            return NONE;
        }

        /** "A SIGN will be LOST behind the next n TICKS" */
        private static void lostBehindTheNextTicks() {
            Due.is("1", seenAgainBehind(1), 2);
            Due.is("2", seenAgainBehind(2), 3);
            Due.is("49", seenAgainBehind(49), 50);
            Due.is("50", seenAgainBehind(50), 51);
            IronCampaign x = new IronCampaign();
            x.lose(1, 49);
            x.tick(50);
            Due.is("49 of one call of 50", x.sign(1), 0);
            x.lose(1, 50);
            x.tick(50);
            Due.is("50 of one call of 50", x.sign(1), NONE);
        }

        /** "(0 .. 50": 0 TICKS */
        private static void lostForNone() {
            Due.is("0", seenAgainBehind(0), 1);
        }

        /** "in place of what was told": less, more, none; another SIGN's stays */
        private static void inPlaceOfWhatWasTold() {
            IronCampaign x = Scenes.stocked();
            x.lose(0, 50);
            x.lose(2, 2);
            x.lose(0, 1);
            x.tick(1);
            Due.is("the 1st", x.sign(0), NONE);
            x.tick(1);
            Due.is("less: seen", x.sign(0), 0);
            Due.is("another SIGN's", x.sign(2), NONE);
            x.lose(0, 1);
            x.lose(0, 2);
            x.tick(2);
            Due.is("not added, but the later", x.sign(0), NONE);
            x.tick(1);
            Due.is("seen behind the third", x.sign(0), 0);
            x.lose(0, 9);
            x.lose(0, 0);
            x.tick(1);
            Due.is("none", x.sign(0), 0);
        }

        /** "behind the next n TICKS": a refused tick is none, nor is any other call */
        private static void countsTicksAlone() {
            IronCampaign x = Scenes.stocked();
            x.lose(0, 1);
            x.tick(0);
            x.tick(51);
            x.tap();
            x.blast(3);
            x.sign(0);
            x.tick(1);
            Due.is("LOST still", x.sign(0), NONE);
        }
    }

    /** Promise 16, and what RULES do as a TICK begins. */
    private static final class Rules {
        static void main(String[] args) {
            signIsNoughtToTwo();
            limitIsNoughtToAThousand();
            actIsNoughtToTwo();
            areNumberedFromNoughtToSeven();
            areBadAheadOfFull();
            actAboveTheLimit();
            actBelowTheLimit();
            actAtTheLeastLimit();
            actAtTheMostLimit();
            moveBlastNotAboveTwenty();
            moveBlastNotBelowNought();
            tapWhatThereIs();
            actInOrder();
            actEachForItself();
            actOnSignsThatWereSeen();
            actOnWhatWasSeenThen();
            actAheadOfTheBurning();
            actAsATickBegins();
        }

        private static int rule(IronCampaign x, int... a) {
            return x.rule(a[0], a[1] == 1, a[2], a[3]);
        }

        /** "RULES 0 .. 7: a SIGN": 0 to 2; "BAD" */
        private static void signIsNoughtToTwo() {
            Edge.range("rule", Rules::rule, new int[] {1, 1, 5, 1}, 0, 0, 2);
            Edge.range("rule", Rules::rule, new int[] {1, 0, 5, 1}, 0, 0, 2);
        }

        /** "a limit (0 .. 1000)"; "BAD" */
        private static void limitIsNoughtToAThousand() {
            Edge.range("rule", Rules::rule, new int[] {1, 1, 5, 1}, 2, 0, 1000);
            Edge.range("rule", Rules::rule, new int[] {1, 0, 5, 1}, 2, 0, 1000);
        }

        /** "an act: 0 BLAST one more .., 1 one less .., 2 TAPPED"; "BAD" */
        private static void actIsNoughtToTwo() {
            Edge.range("rule", Rules::rule, new int[] {1, 1, 5, 1}, 3, 0, 2);
        }

        private static IronCampaign withEight() {
            IronCampaign x = Scenes.heated(3);
            for (int i = 0; i < 8; i++) Due.is("RULE " + i, x.rule(0, true, 0, 1), i);
            return x;
        }

        /** "RULES 0 .. 7", "its number", "FULL: 8." */
        private static void areNumberedFromNoughtToSeven() {
            IronCampaign x = withEight();
            Due.is("RULES", x.count(2), 8);
            x.tick(1);
            Due.is("all eight act", x.about(11), 12);
            Edge.refused("a ninth", Rules::withEight, y -> y.rule(0, true, 0, 1), FULL);
        }

        /** "Refused .. the first of: BAD -2 ..; FULL -4" */
        private static void areBadAheadOfFull() {
            Edge.refused("SIGN 3, a ninth", Rules::withEight, x -> x.rule(3, true, 0, 1), BAD);
            Edge.refused("limit 1001, a ninth", Rules::withEight, x -> x.rule(0, true, 1001, 1), BAD);
            Edge.refused("act 3, a ninth", Rules::withEight, x -> x.rule(0, true, 0, 3), BAD);
        }

        /** SIGNS are 87, 42, 15 and BLAST is 20; whether a RULE for less acts. */
        private static boolean acts(int sign, boolean above, int limit) {
            IronCampaign x = Scenes.hot();
            x.charge(20, 0, 50, 7);
            x.tick(1);
            x.rule(sign, above, limit, 1);
            x.tick(1);
            return x.about(11) == 19;
        }

        /** "and is above (below) the limit then": above */
        private static void actAboveTheLimit() {
            int[] seen = {87, 42, 15};
            for (int s = 0; s < 3; s++) {
                Due.holds("one above, SIGN " + s, acts(s, true, seen[s] - 1));
                Due.holds("at the limit, SIGN " + s, !acts(s, true, seen[s]));
                Due.holds("one below, SIGN " + s, !acts(s, true, seen[s] + 1));
            }
        }

        /** "and is above (below) the limit then": below */
        private static void actBelowTheLimit() {
            int[] seen = {87, 42, 15};
            for (int s = 0; s < 3; s++) {
                Due.holds("one above, SIGN " + s, !acts(s, false, seen[s] - 1));
                Due.holds("at the limit, SIGN " + s, !acts(s, false, seen[s]));
                Due.holds("one below, SIGN " + s, acts(s, false, seen[s] + 1));
            }
        }

        private static int blastOfTheCold(boolean above, int limit) {
            IronCampaign x = new IronCampaign();
            x.blast(5);
            x.rule(0, above, limit, 0);
            x.tick(2);
            return x.about(11);
        }

        /** "a limit (0 .. 1000)": 0 */
        private static void actAtTheLeastLimit() {
            Due.is("0 is not above 0", blastOfTheCold(true, 0), 5);
            Due.is("0 is not below 0", blastOfTheCold(false, 0), 5);
            Due.is("0 is below 1", blastOfTheCold(false, 1), 6);
        }

        private static int blastBehindSlag(int ore, boolean above) {
            IronCampaign x = Scenes.stocked();
            for (int i = 0; i < 11; i++) x.charge(1, 0, 60, 30);
            x.charge(1, 0, ore, 0);
            x.blast(12);
            x.tick(1);
            Due.is("SLAG seen", x.sign(1), 990 + ore);
            x.rule(1, above, 1000, 0);
            x.tick(1);
            return x.about(11);
        }

        /** "a limit (0 .. 1000)": 1000 */
        private static void actAtTheMostLimit() {
            Due.is("1001 is above", blastBehindSlag(11, true), 13);
            Due.is("1000 is not above", blastBehindSlag(10, true), 12);
            Due.is("1000 is not below", blastBehindSlag(10, false), 12);
            Due.is("999 is below", blastBehindSlag(9, false), 13);
        }

        private static int blastMoved(int from, int act) {
            IronCampaign x = Scenes.heated(3);
            x.blast(from);
            x.rule(0, true, 0, act);
            x.tick(1);
            return x.about(11);
        }

        /** "0 BLAST one more (not above 20)" */
        private static void moveBlastNotAboveTwenty() {
            Due.is("from 0", blastMoved(0, 0), 1);
            Due.is("from 18", blastMoved(18, 0), 19);
            Due.is("from 19", blastMoved(19, 0), 20);
            Due.is("from 20", blastMoved(20, 0), 20);
        }

        /** "1 one less (not below 0)" */
        private static void moveBlastNotBelowNought() {
            Due.is("from 20", blastMoved(20, 1), 19);
            Due.is("from 2", blastMoved(2, 1), 1);
            Due.is("from 1", blastMoved(1, 1), 0);
            Due.is("from 0", blastMoved(0, 1), 0);
        }

        /** "2 TAPPED": a PIG if there is IRON, none if there is not */
        private static void tapWhatThereIs() {
            IronCampaign x = Scenes.hot();
            x.rule(0, true, 0, 2);
            x.rule(0, true, 0, 2);
            x.tick(3);
            Due.is("no IRON, no PIG", x.count(1), 0);
            x.charge(20, 0, 20, 0);
            x.tick(2);
            Due.is("IRON, one PIG of two RULES", x.count(1), 1);
            Due.is("its weight", x.pig(0, 0), 6);
            Due.is("BLAST stays", x.about(11), 20);
        }

        /** "As a TICK begins they act in order" */
        private static void actInOrder() {
            IronCampaign x = Scenes.heated(3);
            x.rule(0, true, 0, 0);
            x.rule(0, true, 0, 1);
            x.tick(1);
            Due.is("20 stays, then one less", x.about(11), 19);
            IronCampaign y = Scenes.heated(3);
            y.rule(0, true, 0, 1);
            y.rule(0, true, 0, 0);
            y.tick(1);
            Due.is("one less, then one more", y.about(11), 20);
            IronCampaign z = Scenes.heated(3);
            z.blast(0);
            z.rule(0, true, 0, 1);
            z.rule(0, true, 0, 0);
            z.tick(1);
            Due.is("0 stays, then one more", z.about(11), 1);
        }

        /** "they act in order, each of which the SIGN was seen ..": one that does not act holds up no other */
        private static void actEachForItself() {
            IronCampaign x = Scenes.heated(3);
            x.rule(0, false, 0, 0);
            x.rule(0, true, 0, 1);
            x.rule(0, true, 1000, 0);
            x.rule(0, true, 0, 1);
            x.tick(1);
            Due.is("the second and the fourth of four", x.about(11), 18);
            IronCampaign y = Scenes.heated(3);
            y.lose(1, 1);
            y.tick(1);
            y.rule(1, false, 1000, 1);
            y.rule(0, true, 0, 1);
            y.tick(1);
            Due.is("behind one the SIGN of which was LOST", y.about(11), 19);
        }

        /** "each of which the SIGN was seen behind the TICK ahead" */
        private static void actOnSignsThatWereSeen() {
            IronCampaign x = Scenes.stocked();
            x.blast(5);
            x.rule(0, false, 1000, 0);
            x.tick(1);
            Due.is("no TICK ahead", x.about(11), 5);
            x.lose(0, 1);
            x.tick(1);
            Due.is("seen behind the TICK ahead", x.about(11), 6);
            x.tick(1);
            Due.is("LOST behind the TICK ahead", x.about(11), 6);
            x.tick(1);
            Due.is("seen again", x.about(11), 7);
            Due.is("neither above nor below while LOST", blastOfLost(), 5);
        }

        private static int blastOfLost() {
            IronCampaign x = Scenes.stocked();
            x.blast(5);
            x.lose(0, 50);
            x.rule(0, true, 0, 0);
            x.rule(0, false, 0, 0);
            x.rule(0, false, 1000, 0);
            x.tick(50);
            return x.about(11);
        }

        /** "and is above (below) the limit then": what was done since does not count */
        private static void actOnWhatWasSeenThen() {
            IronCampaign x = Scenes.hot();
            x.charge(20, 0, 20, 0);
            x.tick(1);
            x.rule(2, true, 5, 1);
            x.rule(2, false, 5, 0);
            x.tap();
            x.tick(1);
            Due.is("IRON 6 was seen, tapped by hand since", x.about(11), 19);
            IronCampaign y = Scenes.hot();
            y.charge(20, 0, 20, 0);
            y.tick(1);
            y.rule(2, true, 5, 2);
            y.rule(2, true, 5, 1);
            y.tick(1);
            Due.is("IRON 6 was seen, tapped by a RULE since", y.about(11), 19);
            Due.is("PIGS", y.count(1), 1);
        }

        /** "RULES first": BLAST as they left it burns in the same TICK */
        private static void actAheadOfTheBurning() {
            IronCampaign x = Scenes.heated(3);
            x.charge(60, 0, 0, 0);
            x.blast(7);
            x.rule(0, true, 0, 0);
            x.tick(1);
            Due.is("burned 8", x.about(6), 68);
            IronCampaign y = Scenes.hot();
            y.hearth(5, 100000);
            y.rule(2, true, 4, 2);
            y.charge(20, 0, 20, 0);
            y.charge(20, 0, 20, 0);
            y.tick(2);
            Due.is("tapped ahead of the next IRON", y.pig(0, 0), 5);
            Due.is("which has its own room", y.about(1), 5);
            Due.is("SPILLED", y.about(8), 2);
        }

        /** "As a TICK begins they act": in each TICK of a call, and not between them */
        private static void actAsATickBegins() {
            IronCampaign x = Scenes.hot();
            x.rule(0, true, 0, 1);
            Due.is("not as it is told", x.about(11), 20);
            x.tick(5);
            Due.is("five TICKS of one call", x.about(11), 15);
        }
    }

    /** "All RULES go: how many." */
    private static void unruleTakesAll() {
        IronCampaign x = Rules.withEight();
        Due.is("unrule() of eight", x.unrule(), 8);
        Due.is("unrule() of none", x.unrule(), 0);
        Due.is("RULES", x.count(2), 0);
        x.tick(1);
        Due.is("none acts", x.about(11), 20);
        for (int i = 0; i < 8; i++) Due.is("RULE " + i + " again", x.rule(0, false, 0, 0), i);
        Due.is("a ninth again", x.rule(0, false, 0, 0), FULL);
        x.tick(1);
        Due.is("none of the old ones acts", x.about(11), 20);
        Edge.refused("unrule() of none", IronCampaign::new, IronCampaign::unrule, 0);
    }
}
