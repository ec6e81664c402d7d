import java.util.ArrayList;
import java.util.List;
import java.util.regex.Matcher;
import java.util.regex.Pattern;

/** The document told again in the plainest way, with lists and copies, to be asked beside the class. */
final class Model {
    private static final Pattern HILLS = Pattern.compile("[cpowk][0-9](,[cpowk][0-9]){1,3};[1-5]");
    private static final int NONE = -1, UNKNOWN = -101, OUTSIDE = -102, STATE = -103, FULL = -104;

    /** All that an image keeps. */
    private static final class World {
        String kinds = "";
        int rate = 0;
        int years = 0;
        int[] herd = {};
        int[][] owes = {};
        List<int[]> weddings = new ArrayList<>();
        List<int[]> plans = new ArrayList<>();
        List<int[]> told = new ArrayList<>();

        World copy() {
            World other = new World();
            other.kinds = kinds;
            other.rate = rate;
            other.years = years;
            other.herd = herd.clone();
            other.owes = new int[owes.length][];
            for (int i = 0; i < owes.length; i++) {
                other.owes[i] = owes[i].clone();
            }
            for (int[] wedding : weddings) {
                other.weddings.add(wedding.clone());
            }
            other.plans.addAll(plans);
            other.told.addAll(told);
            return other;
        }

        int clans() {
            return herd.length;
        }

        boolean pair(int his, int hers) {
            return his >= 0 && hers >= 0 && his < clans() && hers < clans() && his != hers;
        }

        int spare(int clan) {
            return kinds.charAt(clan) == 'w' && herd[clan] > 0 ? herd[clan] - 1 : herd[clan];
        }

        int pay(int from, int to, int due) {
            int paid = 0;
            while (paid < due && spare(from) > 0) {
                herd[from]--;
                herd[to]++;
                paid++;
            }
            owes[from][to] += due - paid;
            return paid;
        }

        int wed(int his, int hers) {
            int asked = asks(kinds.charAt(hers), rate);
            pay(his, hers, asked);
            return asked;
        }

        void year() {
            for (int i = 0; i < clans(); i++) {
                for (int more = herd[i] / 2; more > 0 && herd[i] < 99; more--) {
                    herd[i]++;
                }
            }
            for (int i = 0; i < clans(); i++) {
                for (int j = 0; j < clans(); j++) {
                    while (owes[i][j] > 0 && spare(i) > 0) {
                        owes[i][j]--;
                        herd[i]--;
                        herd[j]++;
                    }
                }
            }
        }

        int owedBy(int clan) {
            int sum = 0;
            for (int owed : owes[clan]) {
                sum += owed;
            }
            return sum;
        }

        int owedTo(int clan) {
            int sum = 0;
            for (int[] row : owes) {
                sum += row[clan];
            }
            return sum;
        }

        int allOwed() {
            int sum = 0;
            for (int i = 0; i < clans(); i++) {
                sum += owedBy(i);
            }
            return sum;
        }

        int allCows() {
            int sum = 0;
            for (int cows : herd) {
                sum += cows;
            }
            return sum;
        }
    }

    private static int asks(char kind, int rate) {
        switch (kind) {
            case 'p': return rate + 1;
            case 'o': return rate > 1 ? rate - 1 : 1;
            case 'k': return 2 * (rate + 1);
            default: return rate;
        }
    }

    private String page = "";
    private World now = new World();
    private World kept = null;
    private int read = 0;

    int letter(int code) {
        if (code < 1 || code > 126) {
            return OUTSIDE;
        }
        if (page.length() == 16) {
            return FULL;
        }
        page += (char) code;
        return page.length();
    }

    int blank() {
        int had = page.length();
        page = "";
        return had;
    }

    int fault() {
        for (int end = 1; end <= page.length(); end++) {
            Matcher start = HILLS.matcher(page.substring(0, end));
            if (!start.matches() && !start.hitEnd()) {
                return end - 1;
            }
        }
        return page.length();
    }

    int hills() {
        if (!HILLS.matcher(page).matches()) {
            return STATE;
        }
        String[] halves = page.split(";");
        String[] clans = halves[0].split(",");
        now = new World();
        kept = null;
        now.rate = Integer.parseInt(halves[1]);
        now.herd = new int[clans.length];
        now.owes = new int[clans.length][clans.length];
        for (int i = 0; i < clans.length; i++) {
            now.kinds += clans[i].charAt(0);
            now.herd[i] = Integer.parseInt(clans[i].substring(1));
        }
        page = "";
        read++;
        return clans.length;
    }

    int clan(int clan, int what) {
        if (clan < 0 || clan >= now.clans()) {
            return UNKNOWN;
        }
        switch (what) {
            case 0: return "cpowk".indexOf(now.kinds.charAt(clan));
            case 1: return now.herd[clan];
            case 2: return asks(now.kinds.charAt(clan), now.rate);
            case 3: return now.spare(clan);
            case 4: return now.owedBy(clan);
            case 5: return now.owedTo(clan);
            case 6: return now.herd[clan] + now.owedTo(clan) - now.owedBy(clan) + 1000;
            case 10: case 11: case 12: case 13: return what - 10 < now.clans() ? now.owes[clan][what - 10] : 0;
            default: return OUTSIDE;
        }
    }

    int as(int clan, int kind) {
        if (clan < 0 || clan >= now.clans()) {
            return UNKNOWN;
        }
        String[] those = {"cpowk", "pk", "o", "w", "k"};
        if (kind < 0 || kind >= those.length) {
            return OUTSIDE;
        }
        return those[kind].indexOf(now.kinds.charAt(clan)) < 0 ? NONE : clan;
    }

    int rate(int rate) {
        if (rate < 1 || rate > 9) {
            return OUTSIDE;
        }
        if (now.clans() == 0) {
            return STATE;
        }
        int was = now.rate;
        now.rate = rate;
        return was;
    }

    int wed(int his, int hers) {
        if (!now.pair(his, hers)) {
            return UNKNOWN;
        }
        if (now.weddings.size() == 12) {
            return FULL;
        }
        now.weddings.add(new int[] {his, hers, now.wed(his, hers), 0});
        return now.weddings.size() - 1;
    }

    int wedding(int wedding, int what) {
        if (wedding < 0 || wedding >= now.weddings.size()) {
            return UNKNOWN;
        }
        return what < 0 || what > 3 ? OUTSIDE : now.weddings.get(wedding)[what];
    }

    int divorce(int wedding) {
        if (wedding < 0 || wedding >= now.weddings.size()) {
            return UNKNOWN;
        }
        int[] it = now.weddings.get(wedding);
        if (it[3] == 1) {
            return STATE;
        }
        it[3] = 1;
        return now.pay(it[1], it[0], it[2]);
    }

    int year() {
        if (now.clans() == 0) {
            return STATE;
        }
        now.year();
        now.years++;
        return now.allOwed();
    }

    int settled() {
        if (now.clans() == 0) {
            return STATE;
        }
        int sum = 0;
        for (int i = 0; i < now.clans(); i++) {
            sum += Math.abs(now.owedTo(i) - now.owedBy(i));
        }
        return sum / 2;
    }

    int plan(int his, int hers) {
        if (!now.pair(his, hers)) {
            return UNKNOWN;
        }
        if (now.plans.size() == 4) {
            return FULL;
        }
        now.plans.add(new int[] {his, hers});
        return now.plans.size();
    }

    int dream() {
        int were = now.plans.size();
        now.plans.clear();
        return were;
    }

    int order(int what) {
        if (what != 0 && (what < 10 || what > 13)) {
            return OUTSIDE;
        }
        if (now.clans() == 0) {
            return STATE;
        }
        List<List<Integer>> orders = new ArrayList<>();
        orders(new ArrayList<>(), orders);
        int least = Integer.MAX_VALUE;
        List<Integer> first = List.of();
        for (List<Integer> order : orders) {
            int owed = behind(order, now.rate).allOwed();
            if (owed < least) {
                least = owed;
                first = order;
            }
        }
        if (what == 0) {
            return least;
        }
        return what - 10 < first.size() ? first.get(what - 10) : NONE;
    }

    private void orders(List<Integer> start, List<List<Integer>> all) {
        if (start.size() == now.plans.size()) {
            all.add(new ArrayList<>(start));
        }
        for (int plan = 0; plan < now.plans.size(); plan++) {
            if (!start.contains(plan)) {
                start.add(plan);
                orders(start, all);
                start.remove(start.size() - 1);
            }
        }
    }

    private World behind(List<Integer> order, int rate) {
        World then = now.copy();
        then.rate = rate;
        for (int plan : order) {
            then.wed(now.plans.get(plan)[0], now.plans.get(plan)[1]);
        }
        return then;
    }

    int high() {
        if (now.clans() == 0) {
            return STATE;
        }
        List<Integer> byNumber = new ArrayList<>();
        for (int plan = 0; plan < now.plans.size(); plan++) {
            byNumber.add(plan);
        }
        int greatest = NONE;
        for (int rate = 1; rate <= 9; rate++) {
            World then = behind(byNumber, rate);
            boolean more = false;
            for (int i = 0; i < now.clans(); i++) {
                more |= then.owedBy(i) > now.owedBy(i);
            }
            greatest = more ? greatest : rate;
        }
        return greatest;
    }

    int tell(int rate, int asked) {
        if (rate < 1 || rate > 9 || asked < 1 || asked > 20) {
            return OUTSIDE;
        }
        if (now.told.size() == 6) {
            return FULL;
        }
        now.told.add(new int[] {rate, asked});
        return now.told.size();
    }

    int forget() {
        int was = now.told.size();
        now.told.clear();
        return was;
    }

    int which() {
        return left(now.told);
    }

    private static int left(List<int[]> told) {
        int bits = 0;
        for (int kind = 0; kind < 5; kind++) {
            boolean can = true;
            for (int[] one : told) {
                can &= asks("cpowk".charAt(kind), one[0]) == one[1];
            }
            bits |= can ? 1 << kind : 0;
        }
        return bits;
    }

    int ask() {
        int best = NONE;
        int fewest = 6;
        for (int rate = 1; rate <= 9 && which() != 0; rate++) {
            int most = 0;
            for (int asked = 1; asked <= 20; asked++) {
                List<int[]> then = new ArrayList<>(now.told);
                then.add(new int[] {rate, asked});
                most = Math.max(most, Integer.bitCount(left(then)));
            }
            if (most < fewest) {
                fewest = most;
                best = rate;
            }
        }
        return best;
    }

    int ages(int years, int seed, int what) {
        if (years < 1 || years > 40 || seed < 0 || what < 0 || what > 2) {
            return OUTSIDE;
        }
        if (now.clans() == 0) {
            return STATE;
        }
        World then = now.copy();
        long draw = seed;
        for (int i = 0; i < years; i++) {
            draw = (1103515245L * draw + 12345L) & 0x7fffffffL;
            int his = (int) ((draw >> 16) % then.clans());
            draw = (1103515245L * draw + 12345L) & 0x7fffffffL;
            int hers = (int) ((draw >> 16) % then.clans());
            if (his != hers) {
                then.wed(his, hers);
            }
            then.year();
        }
        return what == 0 ? then.allOwed() : what == 1 ? then.allCows() : (int) draw;
    }

    int image() {
        if (now.clans() == 0) {
            return STATE;
        }
        kept = now.copy();
        return kept.years;
    }

    int restore() {
        if (kept == null) {
            return STATE;
        }
        now = kept.copy();
        return now.years;
    }

    int count(int what) {
        if (what < 0 || what > 9) {
            return OUTSIDE;
        }
        return new int[] {now.clans(), now.rate, now.allCows(), now.allOwed(), now.weddings.size(), now.years,
            now.plans.size(), now.told.size(), page.length(), read}[what];
    }

    long digest() {
        List<Integer> all = new ArrayList<>();
        for (int clan = 0; clan < now.clans(); clan++) {
            for (int what : new int[] {0, 1, 2, 3, 4, 5, 6, 10, 11, 12, 13}) {
                all.add(clan(clan, what));
            }
        }
        for (int[] wedding : now.weddings) {
            for (int part : wedding) {
                all.add(part);
            }
        }
        if (now.clans() > 0) {
            all.add(settled());
            for (int what : new int[] {0, 10, 11, 12, 13}) {
                all.add(order(what));
            }
            all.add(high());
        }
        all.add(which());
        all.add(ask());
        page.chars().forEach(all::add);
        for (int what = 0; what <= 9; what++) {
            all.add(count(what));
        }
        long h = 967;
        for (int number : all) {
            h = 31 * h + number;
        }
        return h;
    }
}
