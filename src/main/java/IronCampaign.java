/**
 * An iron campaign: a charcoal furnace, its stores and charges, the founders'
 * rules, the pigs and their sale, and the plan of the months.
 *
 * The words in capitals are those of the document, and so are the numbers of
 * the promises. Every row is made with the object; no later call makes any.
 */
public final class IronCampaign {
    public static final int NONE = -1, BAD = -2, NO = -3, FULL = -4;

    private static final int STORES = 6, COAL_STORE = 0, FLUX_STORE = 1, FIRST_ORE_STORE = 2;
    private static final int MOST_BASKETS = 10000;
    private static final int KINDS = 4, LEAST_RICHNESS = 10, FIRST_RICHNESS = 30, MOST_RICHNESS = 60;

    // The columns of the CHARGES are numbered as chargeAt's what.
    private static final int MOST_CHARGES = 400, MOST_IN_COLUMN = 12, CHARGE_FACTS = 7;
    private static final int CHARGE_STAND = 0, CHARGE_COAL = 1, CHARGE_ORE = 2, CHARGE_FLUX = 3;
    private static final int CHARGE_KIND = 4, CHARGE_SORT = 5, CHARGE_IRON = 6;
    private static final int IN_COLUMN = 0, MELTED = 1, CHILLED = 2;
    private static final int MOST_CHARGE_COAL = 60, MOST_CHARGE_ORE = 60, MOST_CHARGE_FLUX = 30;

    private static final int MOST_BLAST = 20, MOST_HEAT = 1000;
    private static final int MOST_TICKS = 5000, MOST_TICKS_A_CALL = 50;
    private static final int MOST_HOLDS = 500, FIRST_HOLDS = 100;
    private static final int MOST_LIFE = 100000, FIRST_LIFE = 1000;
    private static final int ABOUTS = 12, COUNTS = 6;

    // The columns of the PIGS are numbered as pig's what.
    private static final int MOST_PIGS = 60, PIG_FACTS = 6;
    private static final int PIG_WEIGHT = 0, PIG_SORT = 1, PIG_FIRST = 2, PIG_LAST = 3;
    private static final int PIG_HOUR = 4, PIG_FORGE = 5;

    private static final int SIGNS = 3, MOST_LOST = 50;
    private static final int MOST_RULES = 8, RULE_FACTS = 4, MOST_LIMIT = 1000;
    private static final int RULE_SIGN = 0, RULE_ABOVE = 1, RULE_LIMIT = 2, RULE_ACT = 3;
    private static final int ACTS = 3, BLAST_MORE = 0, BLAST_LESS = 1;

    private static final int MOST_FORGES = 3, FORGE_FACTS = 3;
    private static final int FORGE_SORTS = 0, FORGE_WANT = 1, FORGE_PRICE = 2;
    private static final int ALL_SORTS = 15, MOST_WANT = 2000, MOST_PRICE = 50;
    private static final int MOST_LOTS = 8;

    private static final int MONTHS = 12, MONTH_FACTS = 2, MONTH_WATER = 0, MONTH_WOOD = 1;
    private static final int MOST_WATER = 4, MOST_WOOD = 1000;
    private static final int PACES = 5, PACE_FACTS = 3, PACE_IRON = 0, PACE_WEAR = 1, PACE_COAL = 2;
    private static final int MOST_OF_PACE = 1000;
    private static final int MOST_PLANNED = 6, MOST_LEFT = 10000;

    private final int[] baskets = new int[STORES];
    private final int[] richness = new int[KINDS];
    private final Column column = new Column();
    private final Hearth hearth = new Hearth();
    private final Furnace furnace = new Furnace();
    private final Table pigs = new Table(MOST_PIGS, PIG_FACTS);
    private final Signs signs = new Signs();
    private final Table rules = new Table(MOST_RULES, RULE_FACTS);
    private final Table forges = new Table(MOST_FORGES, FORGE_FACTS);
    private final Sale market = new Sale();
    private final Table months = new Table(MONTHS, MONTH_FACTS);
    private final Table paces = new Table(PACES, PACE_FACTS);
    private final Planner planner = new Planner();
    private int pigsSold = 0;
    private int paid = 0;

    public IronCampaign() {
        for (int kind = 0; kind < KINDS; kind++) richness[kind] = FIRST_RICHNESS;
        for (int m = 0; m < MONTHS; m++) months.set(m, MONTH_WATER, MOST_WATER);
        for (int p = 0; p < PACES; p++) {
            paces.set(p, PACE_IRON, 100 * p);
            paces.set(p, PACE_WEAR, 50 * p);
            paces.set(p, PACE_COAL, 80 * p);
        }
    }

    // ---- stores, charges

    public int buy(int store, int n) {
        if (!within(store, 0, STORES - 1) || !within(n, 0, MOST_BASKETS)) return BAD;
        if (baskets[store] + n > MOST_BASKETS) return NO;
        baskets[store] += n;
        return baskets[store];
    }

    public int rich(int kind, int v) {
        if (!within(kind, 0, KINDS - 1) || !within(v, LEAST_RICHNESS, MOST_RICHNESS)) return BAD;
        int was = richness[kind];
        richness[kind] = v;
        return was;
    }

    public int charge(int coal, int kind, int ore, int flux) {
        if (!within(coal, 1, MOST_CHARGE_COAL) || !within(kind, 0, KINDS - 1)) return BAD;
        if (!within(ore, 0, MOST_CHARGE_ORE) || !within(flux, 0, MOST_CHARGE_FLUX)) return BAD;
        int oreStore = FIRST_ORE_STORE + kind;
        if (baskets[COAL_STORE] < coal || baskets[oreStore] < ore || baskets[FLUX_STORE] < flux) return NO;
        if (column.size() >= MOST_IN_COLUMN || column.charges.isFull()) return FULL;
        baskets[COAL_STORE] -= coal;
        baskets[oreStore] -= ore;
        baskets[FLUX_STORE] -= flux;
        return column.lay(coal, kind, ore, flux);
    }

    public int chargeAt(int i, int what) {
        if (i < 0 || !within(what, 0, CHARGE_FACTS - 1)) return BAD;
        if (i >= column.charges.rows) return NONE;
        return column.charges.get(i, what);
    }

    public int when(int charge) {
        if (!within(charge, 0, column.charges.rows - 1)) return BAD;
        int blast = furnace.blast;
        if (charge < column.lowest || blast <= 0) return NONE;
        return (column.coalDownFrom(charge) + blast - 1) / blast;
    }

    // ---- the furnace

    public int blast(int b) {
        if (!within(b, 0, MOST_BLAST)) return BAD;
        int was = furnace.blast;
        furnace.blast = b;
        return was;
    }

    public int hearth(int holds, int life) {
        if (!within(holds, 1, MOST_HOLDS) || !within(life, 1, MOST_LIFE)) return BAD;
        hearth.holds = holds;
        furnace.life = life;
        return 1;
    }

    public int tick(int n) {
        if (!within(n, 1, MOST_TICKS_A_CALL)) return BAD;
        if (furnace.out) return NO;
        if (furnace.ticks + n > MOST_TICKS) return FULL;
        int done = 0;
        for (int i = 0; i < n && !furnace.out; i++) {
            followRules();
            furnace.blow(column, hearth, richness);
            signs.look(furnace.heat / 10, furnace.slagOfTick, hearth.iron);
            done++;
        }
        return done;
    }

    public int tap() {
        return castPig();
    }

    public int about(int what) {
        switch (what) {
            case 0: return furnace.heat;
            case 1: return hearth.iron;
            case 2: return furnace.slag;
            case 3: return furnace.wear;
            case 4: return furnace.ticks;
            case 5: return column.size();
            case 6: return furnace.burned;
            case 7: return furnace.chills;
            case 8: return hearth.spilled;
            case 9: return furnace.out ? 1 : 0;
            case 10: return hearth.made;
            case 11: return furnace.blast;
            default: return BAD;
        }
    }

    public int store(int s) {
        return within(s, 0, STORES - 1) ? baskets[s] : BAD;
    }

    public int pig(int i, int what) {
        if (i < 0 || !within(what, 0, PIG_FACTS - 1)) return BAD;
        if (i >= pigs.rows) return NONE;
        return pigs.get(i, what);
    }

    // ---- signs, rules

    public int sign(int s) {
        return within(s, 0, SIGNS - 1) ? signs.seen[s] : BAD;
    }

    public int lose(int s, int n) {
        if (!within(s, 0, SIGNS - 1) || !within(n, 0, MOST_LOST)) return BAD;
        signs.toLose[s] = n;
        return 1;
    }

    public int rule(int sign, boolean above, int limit, int act) {
        if (!within(sign, 0, SIGNS - 1) || !within(limit, 0, MOST_LIMIT)) return BAD;
        if (!within(act, 0, ACTS - 1)) return BAD;
        if (rules.isFull()) return FULL;
        int number = rules.add();
        rules.set(number, RULE_SIGN, sign);
        rules.set(number, RULE_ABOVE, above ? 1 : 0);
        rules.set(number, RULE_LIMIT, limit);
        rules.set(number, RULE_ACT, act);
        return number;
    }

    public int unrule() {
        int were = rules.rows;
        rules.rows = 0;
        return were;
    }

    // ---- forges, months

    public int forge(int sorts, int want, int price) {
        if (!within(sorts, 0, ALL_SORTS) || !within(want, 0, MOST_WANT)) return BAD;
        if (!within(price, 1, MOST_PRICE)) return BAD;
        if (forges.isFull()) return FULL;
        int number = forges.add();
        forges.set(number, FORGE_SORTS, sorts);
        forges.set(number, FORGE_WANT, want);
        forges.set(number, FORGE_PRICE, price);
        return number;
    }

    public int sale() {
        market.settle(pigs, forges);
        return market.bestPay;
    }

    public int sell() {
        market.settle(pigs, forges);
        int now = 0;
        for (int lot = 0; lot < market.lots; lot++) {
            int forge = market.best[lot];
            if (forge == NONE) continue;
            int want = forges.get(forge, FORGE_WANT);
            forges.set(forge, FORGE_WANT, want - market.weight[lot]);
            pigs.set(market.pigOf[lot], PIG_FORGE, forge);
            now++;
        }
        pigsSold += now;
        paid += market.bestPay;
        return now;
    }

    public int month(int m, int water, int wood) {
        if (!within(m, 0, MONTHS - 1)) return BAD;
        if (!within(water, 0, MOST_WATER) || !within(wood, 0, MOST_WOOD)) return BAD;
        months.set(m, MONTH_WATER, water);
        months.set(m, MONTH_WOOD, wood);
        return 1;
    }

    public int pace(int p, int iron, int wear, int coal) {
        if (!within(p, 0, PACES - 1) || !within(iron, 0, MOST_OF_PACE)) return BAD;
        if (!within(wear, 0, MOST_OF_PACE) || !within(coal, 0, MOST_OF_PACE)) return BAD;
        paces.set(p, PACE_IRON, iron);
        paces.set(p, PACE_WEAR, wear);
        paces.set(p, PACE_COAL, coal);
        return 1;
    }

    public int plan(int from, int n, int wear, int coal) {
        if (!within(from, 0, MONTHS - 1) || !within(n, 1, MOST_PLANNED)) return BAD;
        if (!within(wear, 0, MOST_LEFT) || !within(coal, 0, MOST_LEFT)) return BAD;
        planner.readMonths(months, paces, from, n);
        return planner.settle(paces, wear, coal);
    }

    public int paceAt(int i) {
        return within(i, 0, planner.planned - 1) ? planner.best[i] : NONE;
    }

    public int count(int what) {
        switch (what) {
            case 0: return column.charges.rows;
            case 1: return pigs.rows;
            case 2: return rules.rows;
            case 3: return forges.rows;
            case 4: return pigsSold;
            case 5: return paid;
            default: return BAD;
        }
    }

    public long digest() {
        long h = 199;
        for (int what = 0; what < COUNTS; what++) h = 31 * h + count(what);
        for (int what = 0; what < ABOUTS; what++) h = 31 * h + about(what);
        for (int s = 0; s < STORES; s++) h = 31 * h + baskets[s];
        h = column.charges.mixInto(h);
        h = pigs.mixInto(h);
        for (int s = 0; s < SIGNS; s++) h = 31 * h + signs.seen[s];
        return h;
    }

    private static boolean within(int v, int least, int most) {
        return v >= least && v <= most;
    }

    // The answer is tap's; a RULE that taps has no use for it.
    private int castPig() {
        if (hearth.iron <= 0) return NONE;
        if (pigs.isFull()) return FULL;
        int number = pigs.add();
        pigs.set(number, PIG_WEIGHT, hearth.iron);
        pigs.set(number, PIG_SORT, hearth.leastSort);
        pigs.set(number, PIG_FIRST, hearth.firstCharge);
        pigs.set(number, PIG_LAST, hearth.lastCharge);
        pigs.set(number, PIG_HOUR, furnace.ticks);
        pigs.set(number, PIG_FORGE, NONE);
        hearth.empty();
        return number;
    }

    private void followRules() {
        for (int i = 0; i < rules.rows; i++) {
            if (!isCalledFor(i)) continue;
            int act = rules.get(i, RULE_ACT);
            if (act == BLAST_MORE) furnace.blast = Math.min(MOST_BLAST, furnace.blast + 1);
            else if (act == BLAST_LESS) furnace.blast = Math.max(0, furnace.blast - 1);
            else castPig();
        }
    }

    // What was seen behind the TICK ahead counts, even if a tap has changed it since.
    private boolean isCalledFor(int i) {
        int s = rules.get(i, RULE_SIGN);
        if (!within(s, 0, SIGNS - 1)) return false;
        int seen = signs.seen[s];
        if (seen == NONE) return false;
        int limit = rules.get(i, RULE_LIMIT);
        return rules.get(i, RULE_ABOVE) == 1 ? seen > limit : seen < limit;
    }

    /** Rows of numbers; every index of theirs is looked at here. */
    private static final class Table {
        private final int[] cells;
        private final int most;
        private final int width;
        private int rows = 0;

        Table(int most, int width) {
            this.most = Math.max(0, most);
            this.width = Math.max(0, width);
            this.cells = new int[this.most * this.width];
        }

        boolean isFull() {
            return rows >= most;
        }

        int add() {
            if (isFull()) return NONE;
            return rows++;
        }

        int get(int row, int fact) {
            return has(row, fact) ? cells[row * width + fact] : NONE;
        }

        void set(int row, int fact, int value) {
            if (has(row, fact)) cells[row * width + fact] = value;
        }

        long mixInto(long h) {
            int end = rows * width;
            for (int i = 0; i < end && i < cells.length; i++) h = 31 * h + cells[i];
            return h;
        }

        private boolean has(int row, int fact) {
            return row >= 0 && row < most && fact >= 0 && fact < width;
        }
    }

    /** All CHARGES ever; those from the lowest on lie in THE COLUMN, as they come down in order. */
    private static final class Column {
        private final Table charges = new Table(MOST_CHARGES, CHARGE_FACTS);
        private int lowest = 0;

        int size() {
            return charges.rows - lowest;
        }

        int lay(int coal, int kind, int ore, int flux) {
            int number = charges.add();
            charges.set(number, CHARGE_STAND, IN_COLUMN);
            charges.set(number, CHARGE_COAL, coal);
            charges.set(number, CHARGE_ORE, ore);
            charges.set(number, CHARGE_FLUX, flux);
            charges.set(number, CHARGE_KIND, kind);
            charges.set(number, CHARGE_SORT, NONE);
            charges.set(number, CHARGE_IRON, 0);
            return number;
        }

        int coalDownFrom(int charge) {
            int coal = 0;
            for (int i = lowest; i <= charge && i < charges.rows; i++) coal += charges.get(i, CHARGE_COAL);
            return coal;
        }

        int burn(int blast) {
            int left = blast;
            for (int i = lowest; i < charges.rows && left > 0; i++) {
                int coal = charges.get(i, CHARGE_COAL);
                int burning = Math.min(coal, left);
                charges.set(i, CHARGE_COAL, coal - burning);
                left -= burning;
            }
            return blast - left;
        }

        boolean lowestIsBurned() {
            return lowest < charges.rows && charges.get(lowest, CHARGE_COAL) == 0;
        }
    }

    /** IRON in THE HEARTH, and the CHARGES that MELTED since the latest TAP with IRON. */
    private static final class Hearth {
        private int iron = 0;
        private int holds = FIRST_HOLDS;
        private int made = 0;
        private int spilled = 0;
        private int firstCharge = NONE;
        private int lastCharge = NONE;
        private int leastSort = NONE;

        void pour(int charge, int sort, int amount) {
            iron += amount;
            made += amount;
            leastSort = firstCharge == NONE ? sort : Math.min(leastSort, sort);
            if (firstCharge == NONE) firstCharge = charge;
            lastCharge = charge;
        }

        int spill() {
            int over = Math.max(0, iron - holds);
            iron -= over;
            spilled += over;
            return over;
        }

        void empty() {
            iron = 0;
            firstCharge = NONE;
            lastCharge = NONE;
            leastSort = NONE;
        }
    }

    /** What a TICK does to HEAT, SLAG and WEAR. */
    private static final class Furnace {
        private int blast = 0;
        private int heat = 0;
        private int slag = 0;
        private int slagOfTick = 0;
        private int wear = 0;
        private int life = FIRST_LIFE;
        private int ticks = 0;
        private int burned = 0;
        private int chills = 0;
        private boolean out = false;

        void blow(Column column, Hearth hearth, int[] richness) {
            slagOfTick = 0;
            int burning = column.burn(blast);
            burned += burning;
            // HEAT of this TICK's COAL comes behind the CHARGES that it brings down.
            for (int i = 0; i < MOST_IN_COLUMN && column.lowestIsBurned(); i++) {
                bringDown(column.charges, column.lowest, hearth, richness);
                column.lowest++;
            }
            heat = Math.max(0, Math.min(MOST_HEAT, heat + 8 * burning - 40));
            slagOfTick += hearth.spill();
            slag += slagOfTick;
            wear += heat / 100;
            ticks++;
            out = wear >= life;
        }

        private void bringDown(Table charges, int i, Hearth hearth, int[] richness) {
            int ore = charges.get(i, CHARGE_ORE);
            int flux = charges.get(i, CHARGE_FLUX);
            int kind = charges.get(i, CHARGE_KIND);
            if (heat < 10 * ore || kind < 0 || kind >= richness.length) {
                charges.set(i, CHARGE_STAND, CHILLED);
                chills++;
                slagOfTick += ore + flux;
                return;
            }
            int iron = ore * richness[kind] / 100;
            int sort = sortOf(ore, flux);
            charges.set(i, CHARGE_STAND, MELTED);
            charges.set(i, CHARGE_SORT, sort);
            charges.set(i, CHARGE_IRON, iron);
            hearth.pour(i, sort, iron);
            slagOfTick += ore - iron + flux;
            heat -= 5 * ore;
        }

        private int sortOf(int ore, int flux) {
            int sort = 0;
            if (4 * flux >= ore) sort++;
            if (heat >= 400) sort++;
            if (heat >= 700) sort++;
            return sort;
        }
    }

    /** SIGNS as they were seen behind the latest TICK, NONE where LOST. */
    private static final class Signs {
        private final int[] seen = new int[SIGNS];
        private final int[] toLose = new int[SIGNS];

        Signs() {
            for (int s = 0; s < SIGNS; s++) seen[s] = NONE;
        }

        void look(int heat, int slag, int iron) {
            seen[0] = heat;
            seen[1] = slag;
            seen[2] = iron;
            for (int s = 0; s < SIGNS; s++) {
                if (toLose[s] <= 0) continue;
                seen[s] = NONE;
                toLose[s]--;
            }
        }
    }

    /** THE SALE: a search through all ways, the first by where the PIGS go first. */
    private static final class Sale {
        private final int[] pigOf = new int[MOST_LOTS];
        private final int[] weight = new int[MOST_LOTS];
        private final int[] sortBit = new int[MOST_LOTS];
        private final int[] way = new int[MOST_LOTS];
        private final int[] best = new int[MOST_LOTS];
        private final int[] hope = new int[MOST_LOTS + 1];
        private final int[] wants = new int[MOST_FORGES];
        private int lots = 0;
        private int bestPay = 0;

        void settle(Table pigs, Table forges) {
            readPigs(pigs);
            for (int f = 0; f < MOST_FORGES; f++) wants[f] = forges.get(f, FORGE_WANT);
            readHopes(forges);
            bestPay = NONE;
            place(this, forges, 0, 0);
        }

        private void readPigs(Table pigs) {
            lots = 0;
            for (int i = 0; i < pigs.rows && lots < MOST_LOTS; i++) {
                if (pigs.get(i, PIG_FORGE) != NONE) continue;
                pigOf[lots] = i;
                weight[lots] = pigs.get(i, PIG_WEIGHT);
                sortBit[lots] = 1 << pigs.get(i, PIG_SORT);
                lots++;
            }
        }

        // The most that the lots from each one on could pay if no want ran out.
        private void readHopes(Table forges) {
            hope[lots] = 0;
            for (int lot = lots - 1; lot >= 0; lot--) {
                int price = 0;
                for (int f = 0; f < forges.rows; f++) {
                    if (canTake(forges, f, lot)) price = Math.max(price, forges.get(f, FORGE_PRICE));
                }
                hope[lot] = hope[lot + 1] + price * weight[lot];
            }
        }

        private boolean canTake(Table forges, int f, int lot) {
            boolean takesSort = (forges.get(f, FORGE_SORTS) & sortBit[lot]) != 0;
            return takesSort && weight[lot] <= wants[f];
        }

        // Of like ways the first found stays, so no later one that only equals it is followed.
        private static void place(Sale s, Table forges, int lot, int pay) {
            if (lot > MOST_LOTS || pay + s.hope[lot] <= s.bestPay) return;
            if (lot >= s.lots) {
                s.bestPay = pay;
                for (int i = 0; i < s.lots; i++) s.best[i] = s.way[i];
                return;
            }
            int weight = s.weight[lot];
            for (int f = 0; f < forges.rows && f < MOST_FORGES; f++) {
                if (!s.canTake(forges, f, lot)) continue;
                s.way[lot] = f;
                s.wants[f] -= weight;
                place(s, forges, lot + 1, pay + weight * forges.get(f, FORGE_PRICE));
                s.wants[f] += weight;
            }
            s.way[lot] = NONE;
            place(s, forges, lot + 1, pay);
        }
    }

    /** A PLAN: a search through all ways, the first by PACES first. */
    private static final class Planner {
        private final int[] water = new int[MOST_PLANNED];
        private final int[] wood = new int[MOST_PLANNED];
        private final int[] hope = new int[MOST_PLANNED + 1];
        private final int[] way = new int[MOST_PLANNED];
        private final int[] found = new int[MOST_PLANNED];
        private final int[] best = new int[MOST_PLANNED];
        private int length = 0;
        private int mostIron = NONE;
        private int planned = 0;

        void readMonths(Table months, Table paces, int from, int n) {
            length = Math.max(0, Math.min(MOST_PLANNED, n));
            hope[length] = 0;
            for (int i = length - 1; i >= 0; i--) {
                int m = (from + i) % MONTHS;
                water[i] = months.get(m, MONTH_WATER);
                wood[i] = months.get(m, MONTH_WOOD);
                int iron = 0;
                for (int p = 0; p < PACES && p <= water[i]; p++) iron = Math.max(iron, paces.get(p, PACE_IRON));
                hope[i] = hope[i + 1] + iron;
            }
        }

        // A search that finds no PLAN leaves the latest one as it is.
        int settle(Table paces, int wear, int coal) {
            mostIron = NONE;
            goOn(this, paces, 0, 0, wear, coal);
            if (mostIron == NONE) return NONE;
            planned = length;
            for (int i = 0; i < length; i++) best[i] = found[i];
            return mostIron;
        }

        // Of like ways the first found stays, so no later one that only equals it is followed.
        private static void goOn(Planner s, Table paces, int i, int iron, int wearLeft, int coalLeft) {
            if (i > MOST_PLANNED || iron + s.hope[i] <= s.mostIron) return;
            if (i >= s.length) {
                s.mostIron = iron;
                for (int k = 0; k < s.length; k++) s.found[k] = s.way[k];
                return;
            }
            int coal = coalLeft + s.wood[i];
            for (int p = 0; p < PACES && p <= s.water[i]; p++) {
                int wearAfter = wearLeft - paces.get(p, PACE_WEAR);
                int coalAfter = coal - paces.get(p, PACE_COAL);
                if (wearAfter < 0 || coalAfter < 0) continue;
                s.way[i] = p;
                goOn(s, paces, i + 1, iron + paces.get(p, PACE_IRON), wearAfter, coalAfter);
            }
        }
    }
}
