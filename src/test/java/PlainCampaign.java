import java.util.ArrayList;
import java.util.Arrays;
import java.util.List;

/** The document written a second time, by lists and by going through every way, to compare long runs with. */
final class PlainCampaign {
    private static final int NONE = -1, BAD = -2, NO = -3, FULL = -4;

    private static final class Charge {
        int number, stand, coal, ore, flux, kind, sort = NONE, iron;
    }

    private static final class Pig {
        int weight, sort, first, last, hour, forge = NONE;
    }

    private record Rule(int sign, boolean above, int limit, int act) {
    }

    private final int[] stores = new int[6];
    private final int[] richness = {30, 30, 30, 30};
    private final List<Charge> charges = new ArrayList<>();
    private final List<Charge> column = new ArrayList<>();
    private final List<Charge> melted = new ArrayList<>();
    private final List<Pig> pigs = new ArrayList<>();
    private final List<Rule> rules = new ArrayList<>();
    private final List<int[]> forges = new ArrayList<>();
    private final int[] seen = {NONE, NONE, NONE};
    private final int[] lost = new int[3];
    private final int[] water = {4, 4, 4, 4, 4, 4, 4, 4, 4, 4, 4, 4};
    private final int[] wood = new int[12];
    private final int[][] paces = {{0, 0, 0}, {100, 50, 80}, {200, 100, 160}, {300, 150, 240}, {400, 200, 320}};
    private int[] planned = {};
    private int blast, heat, iron, slag, wear, ticks, burned, spilled, made, paid;
    private int holds = 100, life = 1000;
    private boolean out;

    private static boolean bad(int v, int low, int high) {
        return v < low || v > high;
    }

    int buy(int store, int n) {
        if (bad(store, 0, 5) || bad(n, 0, 10000)) return BAD;
        if (stores[store] + n > 10000) return NO;
        return stores[store] += n;
    }

    int rich(int kind, int v) {
        if (bad(kind, 0, 3) || bad(v, 10, 60)) return BAD;
        int was = richness[kind];
        richness[kind] = v;
        return was;
    }

    int charge(int coal, int kind, int ore, int flux) {
        if (bad(coal, 1, 60) || bad(kind, 0, 3) || bad(ore, 0, 60) || bad(flux, 0, 30)) return BAD;
        if (coal > stores[0] || flux > stores[1] || ore > stores[2 + kind]) return NO;
        if (column.size() == 12 || charges.size() == 400) return FULL;
        stores[0] -= coal;
        stores[1] -= flux;
        stores[2 + kind] -= ore;
        Charge c = new Charge();
        c.number = charges.size();
        c.coal = coal;
        c.kind = kind;
        c.ore = ore;
        c.flux = flux;
        charges.add(c);
        column.add(c);
        return c.number;
    }

    int chargeAt(int i, int what) {
        if (i < 0 || bad(what, 0, 6)) return BAD;
        if (i >= charges.size()) return NONE;
        Charge c = charges.get(i);
        return new int[] {c.stand, c.coal, c.ore, c.flux, c.kind, c.sort, c.iron}[what];
    }

    /** Burns one TICK after another on a copy of the COLUMN's COAL. */
    int when(int charge) {
        if (bad(charge, 0, charges.size() - 1)) return BAD;
        if (blast == 0 || charges.get(charge).stand != 0) return NONE;
        int coal = 0;
        for (Charge c : column) if (c.number <= charge) coal += c.coal;
        int n = 0;
        while (coal > 0) {
            coal -= blast;
            n++;
        }
        return n;
    }

    int blast(int b) {
        if (bad(b, 0, 20)) return BAD;
        int was = blast;
        blast = b;
        return was;
    }

    int hearth(int h, int l) {
        if (bad(h, 1, 500) || bad(l, 1, 100000)) return BAD;
        holds = h;
        life = l;
        return 1;
    }

    int tick(int n) {
        if (bad(n, 1, 50)) return BAD;
        if (out) return NO;
        if (ticks + n > 5000) return FULL;
        int before = ticks;
        while (ticks < before + n && !out) hour();
        return ticks - before;
    }

    private void hour() {
        for (Rule r : rules) {
            int s = seen[r.sign];
            if (s == NONE || !(r.above ? s > r.limit : s < r.limit)) continue;
            if (r.act == 0 && blast < 20) blast++;
            if (r.act == 1 && blast > 0) blast--;
            if (r.act == 2) tap();
        }
        int slagBefore = slag;
        int basket = 0;
        for (Charge c : column) {
            while (c.coal > 0 && basket < blast) {
                c.coal--;
                basket++;
            }
        }
        burned += basket;
        while (!column.isEmpty() && column.get(0).coal == 0) comeDown(column.remove(0));
        heat += 8 * basket - 40;
        if (heat < 0) heat = 0;
        if (heat > 1000) heat = 1000;
        while (iron > holds) {
            iron--;
            spilled++;
            slag++;
        }
        wear += heat / 100;
        ticks++;
        if (wear >= life) out = true;
        int[] now = {heat / 10, slag - slagBefore, iron};
        for (int s = 0; s < 3; s++) {
            seen[s] = lost[s] > 0 ? NONE : now[s];
            if (lost[s] > 0) lost[s]--;
        }
    }

    private void comeDown(Charge c) {
        if (heat < 10 * c.ore) {
            c.stand = 2;
            slag += c.ore + c.flux;
            return;
        }
        c.stand = 1;
        c.iron = c.ore * richness[c.kind] / 100;
        c.sort = (4 * c.flux >= c.ore ? 1 : 0) + (heat >= 400 ? 1 : 0) + (heat >= 700 ? 1 : 0);
        iron += c.iron;
        made += c.iron;
        slag += c.ore - c.iron + c.flux;
        heat -= 5 * c.ore;
        melted.add(c);
    }

    int tap() {
        if (iron == 0) return NONE;
        if (pigs.size() == 60) return FULL;
        Pig p = new Pig();
        p.weight = iron;
        p.sort = 3;
        for (Charge c : melted) p.sort = Math.min(p.sort, c.sort);
        p.first = melted.get(0).number;
        p.last = melted.get(melted.size() - 1).number;
        p.hour = ticks;
        iron = 0;
        melted.clear();
        pigs.add(p);
        return pigs.size() - 1;
    }

    int about(int what) {
        if (bad(what, 0, 11)) return BAD;
        int chills = 0;
        for (Charge c : charges) if (c.stand == 2) chills++;
        return new int[] {heat, iron, slag, wear, ticks, column.size(), burned, chills, spilled, out ? 1 : 0, made,
            blast}[what];
    }

    int store(int s) {
        return bad(s, 0, 5) ? BAD : stores[s];
    }

    int pig(int i, int what) {
        if (i < 0 || bad(what, 0, 5)) return BAD;
        if (i >= pigs.size()) return NONE;
        Pig p = pigs.get(i);
        return new int[] {p.weight, p.sort, p.first, p.last, p.hour, p.forge}[what];
    }

    int sign(int s) {
        return bad(s, 0, 2) ? BAD : seen[s];
    }

    int lose(int s, int n) {
        if (bad(s, 0, 2) || bad(n, 0, 50)) return BAD;
        lost[s] = n;
        return 1;
    }

    int rule(int sign, boolean above, int limit, int act) {
        if (bad(sign, 0, 2) || bad(limit, 0, 1000) || bad(act, 0, 2)) return BAD;
        if (rules.size() == 8) return FULL;
        rules.add(new Rule(sign, above, limit, act));
        return rules.size() - 1;
    }

    int unrule() {
        int were = rules.size();
        rules.clear();
        return were;
    }

    int forge(int sorts, int want, int price) {
        if (bad(sorts, 0, 15) || bad(want, 0, 2000) || bad(price, 1, 50)) return BAD;
        if (forges.size() == 3) return FULL;
        forges.add(new int[] {sorts, want, price});
        return forges.size() - 1;
    }

    private List<Pig> lots() {
        List<Pig> lots = new ArrayList<>();
        for (Pig p : pigs) if (p.forge == NONE && lots.size() < 8) lots.add(p);
        return lots;
    }

    private int payOf(List<Pig> lots, int[] way) {
        int[] got = new int[3];
        int pay = 0;
        for (int i = 0; i < way.length; i++) {
            if (way[i] == forges.size()) continue;
            int[] f = forges.get(way[i]);
            Pig p = lots.get(i);
            got[way[i]] += p.weight;
            if ((f[0] >> p.sort & 1) == 0 || got[way[i]] > f[1]) return NONE;
            pay += p.weight * f[2];
        }
        return pay;
    }

    /** Every way, in order; each place counts from FORGE 0 to none, the last PIG's the fastest. */
    private int[] bestWay(List<Pig> lots) {
        int[] way = new int[lots.size()];
        int[] best = null;
        int most = NONE;
        while (true) {
            int pay = payOf(lots, way);
            if (pay > most) {
                most = pay;
                best = way.clone();
            }
            int i = way.length - 1;
            while (i >= 0 && way[i] == forges.size()) way[i--] = 0;
            if (i < 0) return best;
            way[i]++;
        }
    }

    int sale() {
        List<Pig> lots = lots();
        return payOf(lots, bestWay(lots));
    }

    int sell() {
        List<Pig> lots = lots();
        int[] way = bestWay(lots);
        paid += payOf(lots, way);
        int n = 0;
        for (int i = 0; i < way.length; i++) {
            if (way[i] == forges.size()) continue;
            lots.get(i).forge = way[i];
            forges.get(way[i])[1] -= lots.get(i).weight;
            n++;
        }
        return n;
    }

    int month(int m, int w, int c) {
        if (bad(m, 0, 11) || bad(w, 0, 4) || bad(c, 0, 1000)) return BAD;
        water[m] = w;
        wood[m] = c;
        return 1;
    }

    int pace(int p, int i, int w, int c) {
        if (bad(p, 0, 4) || bad(i, 0, 1000) || bad(w, 0, 1000) || bad(c, 0, 1000)) return BAD;
        paces[p] = new int[] {i, w, c};
        return 1;
    }

    private int ironOf(int from, int[] way, int wearLeft, int coal) {
        int sum = 0;
        for (int i = 0; i < way.length; i++) {
            int m = (from + i) % 12;
            int[] p = paces[way[i]];
            coal += wood[m] - p[2];
            wearLeft -= p[1];
            sum += p[0];
            if (way[i] > water[m] || coal < 0 || wearLeft < 0) return NONE;
        }
        return sum;
    }

    int plan(int from, int n, int wearLeft, int coal) {
        if (bad(from, 0, 11) || bad(n, 1, 6) || bad(wearLeft, 0, 10000) || bad(coal, 0, 10000)) return BAD;
        int most = NONE;
        int ways = 1;
        for (int i = 0; i < n; i++) ways *= 5;
        for (int code = 0; code < ways; code++) {
            int[] way = new int[n];
            int rest = code;
            for (int i = n - 1; i >= 0; i--) {
                way[i] = rest % 5;
                rest /= 5;
            }
            int sum = ironOf(from, way, wearLeft, coal);
            if (sum <= most) continue;
            most = sum;
            planned = Arrays.copyOf(way, n);
        }
        return most;
    }

    int paceAt(int i) {
        return bad(i, 0, planned.length - 1) ? NONE : planned[i];
    }

    int count(int what) {
        if (bad(what, 0, 5)) return BAD;
        int sold = 0;
        for (Pig p : pigs) if (p.forge != NONE) sold++;
        return new int[] {charges.size(), pigs.size(), rules.size(), forges.size(), sold, paid}[what];
    }

    long digest() {
        long h = 199;
        for (int what = 0; what < 6; what++) h = 31 * h + count(what);
        for (int what = 0; what < 12; what++) h = 31 * h + about(what);
        for (int s = 0; s < 6; s++) h = 31 * h + stores[s];
        for (int i = 0; i < charges.size(); i++) for (int w = 0; w < 7; w++) h = 31 * h + chargeAt(i, w);
        for (int i = 0; i < pigs.size(); i++) for (int w = 0; w < 6; w++) h = 31 * h + pig(i, w);
        for (int s = 0; s < 3; s++) h = 31 * h + seen[s];
        return h;
    }
}
