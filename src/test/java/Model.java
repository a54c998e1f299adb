import java.util.ArrayDeque;
import java.util.ArrayList;
import java.util.Collections;
import java.util.Deque;
import java.util.HashMap;
import java.util.List;
import java.util.Map;
import java.util.Set;

/** A second reading of the document, as plain as can be and without a thought of cost. */
final class Model {
    /** What a formula answers, by the words that it asks for. */
    private interface Answer {
        int by(Map<String, Integer> words);
    }

    private record Token(String text, char kind, int place) {
    }

    private record Corner(int wind, int lee, boolean gusty, int chance, int gust) {
    }

    private record Guild(int cloth, int truth, int strong, int reef) {
    }

    private record Seen(int corners, int guild, boolean is, int told, int[] untold) {
    }

    private static final class Fault extends RuntimeException {
        private static final long serialVersionUID = 1L;
        private final int number;
        private final int place;

        Fault(int number, int place) {
            this.number = number;
            this.place = place;
        }
    }

    private static final class Day {
        final List<Integer> order = new ArrayList<>();
        final List<Integer> reef = new ArrayList<>();
        final List<Integer> children = new ArrayList<>();
        final List<Boolean> down = new ArrayList<>();
        final List<Integer> under = new ArrayList<>();
        int stands;
        int day;
        int seed;

        Day copy() {
            Day c = new Day();
            c.order.addAll(order);
            c.reef.addAll(reef);
            c.children.addAll(children);
            c.down.addAll(down);
            c.under.addAll(under);
            c.stands = stands;
            c.day = day;
            c.seed = seed;
            return c;
        }
    }

    private static final Set<String> WORDS = Set.of("corner", "wind", "lee", "gust", "of", "guild", "cloth",
            "true", "strong", "reef", "pull", "hold", "draw", "or", "and", "not", "ahead", "day");
    private static final Set<String> ASKED = Set.of("wind", "lee", "cloth", "ahead", "true", "strong", "day");

    private String tape = "";
    private int fault;
    private int place = -1;
    private List<Corner> corners = new ArrayList<>();
    private List<Guild> guilds = new ArrayList<>();
    private Answer pull;
    private Answer hold;
    private int draw;
    private int units;
    private Day now = new Day();
    private final Deque<Day> before = new ArrayDeque<>();
    private final Deque<Day> behind = new ArrayDeque<>();
    private final Map<Integer, Day> boxes = new HashMap<>();
    private final List<Seen> seen = new ArrayList<>();
    private int time;
    private List<Integer> lying = new ArrayList<>();

    // ---- the text

    private static List<Token> tokens(String text) {
        List<Token> tokens = new ArrayList<>();
        int i = 0;
        while (i < text.length()) {
            char c = text.charAt(i);
            if (c == ' ' || c == '\n') {
                i++;
                continue;
            }
            String rest = text.substring(i);
            String letters = rest.replaceFirst("(?s)^([a-z]*).*", "$1");
            String digits = rest.replaceFirst("(?s)^([0-9]*).*", "$1");
            if (!letters.isEmpty()) {
                tokens.add(new Token(letters, letters.length() > 8 ? '?' : 'w', i));
                i += letters.length();
            } else if (!digits.isEmpty()) {
                boolean bad = digits.length() > 4 || rest.matches("(?s)[0-9]+[a-z].*");
                tokens.add(new Token(digits, bad ? '?' : 'n', i));
                i += digits.length();
            } else {
                tokens.add(new Token("" + c, ";()<>=+-*/%".indexOf(c) < 0 ? '?' : 's', i));
                i++;
            }
        }
        tokens.add(new Token("", '.', text.length()));
        return tokens;
    }

    /** One reading of a text. */
    private final class Reading {
        private final List<Token> tokens;
        private int at;
        private final List<Corner> toldCorners = new ArrayList<>();
        private final List<Guild> toldGuilds = new ArrayList<>();
        private final List<String> cornerNames = new ArrayList<>();
        private final List<String> guildNames = new ArrayList<>();
        private Answer toldPull;
        private Answer toldHold;
        private int toldDraw = -1;
        private int inOne;
        private int inAll;

        Reading(String text) {
            tokens = tokens(text);
        }

        Token look() {
            return tokens.get(at);
        }

        Fault no(int number) {
            return new Fault(look().kind == '?' ? 1 : number, look().place);
        }

        boolean is(String text) {
            return look().kind != '?' && look().kind != '.' && look().text.equals(text);
        }

        void must(String text) {
            if (!is(text)) {
                throw no(2);
            }
            at++;
        }

        int number(int least, int most) {
            if (look().kind != 'n') {
                throw no(2);
            }
            int n = Integer.parseInt(look().text);
            if (n < least || n > most) {
                throw no(4);
            }
            at++;
            return n;
        }

        int told(String word, int least, int most) {
            must(word);
            return number(least, most);
        }

        void name(List<String> names) {
            if (look().kind != 'w' || WORDS.contains(look().text)) {
                throw no(2);
            }
            if (names.contains(look().text)) {
                throw no(3);
            }
            names.add(look().text);
            at++;
        }

        void town() {
            while (look().kind != '.') {
                line();
                must(";");
            }
        }

        void line() {
            if (is("corner") && toldCorners.size() < 8) {
                at++;
                name(cornerNames);
                int wind = told("wind", 0, 99);
                int lee = is("lee") ? told("lee", 0, 20) : 0;
                boolean gusty = is("gust");
                if (gusty && toldCorners.stream().filter(Corner::gusty).count() == 4) {
                    throw no(2);
                }
                int chance = gusty ? told("gust", 0, 100) : 0;
                int gust = gusty ? told("of", 1, 50) : 0;
                toldCorners.add(new Corner(wind, lee, gusty, chance, gust));
            } else if (is("guild") && toldGuilds.size() < 5) {
                at++;
                name(guildNames);
                int cloth = told("cloth", 1, 20);
                int truth = told("true", 0, 100);
                int strong = told("strong", 0, 99);
                toldGuilds.add(new Guild(cloth, truth, strong, is("reef") ? told("reef", 0, 20) : 0));
            } else if (is("pull") && toldPull == null) {
                at++;
                inOne = 0;
                toldPull = e(0);
            } else if (is("hold") && toldHold == null) {
                at++;
                inOne = 0;
                toldHold = e(0);
            } else if (is("draw") && toldDraw < 0) {
                toldDraw = told("draw", 0, 999);
            } else {
                throw no(2);
            }
        }

        Answer e(int within) {
            Answer a = both(within);
            while (is("or")) {
                at++;
                Answer l = a;
                Answer r = both(within);
                a = w -> (l.by(w) != 0) | (r.by(w) != 0) ? 1 : 0;
            }
            return a;
        }

        Answer both(int within) {
            Answer a = one(within);
            while (is("and")) {
                at++;
                Answer l = a;
                Answer r = one(within);
                a = w -> (l.by(w) != 0) & (r.by(w) != 0) ? 1 : 0;
            }
            return a;
        }

        Answer one(int within) {
            if (is("not")) {
                if (within >= 7) {
                    throw no(2);
                }
                at++;
                Answer a = one(within + 1);
                return w -> a.by(w) == 0 ? 1 : 0;
            }
            Answer l = sum(within);
            if (is("<") || is(">") || is("=")) {
                String sign = look().text;
                at++;
                Answer r = sum(within);
                return w -> {
                    int c = Integer.compare(l.by(w), r.by(w));
                    return (sign.equals("<") ? c < 0 : sign.equals(">") ? c > 0 : c == 0) ? 1 : 0;
                };
            }
            return l;
        }

        Answer sum(int within) {
            Answer a = term(within);
            while (is("+") || is("-")) {
                boolean plus = is("+");
                at++;
                Answer l = a;
                Answer r = term(within);
                a = w -> plus ? l.by(w) + r.by(w) : l.by(w) - r.by(w);
            }
            return a;
        }

        Answer term(int within) {
            Answer a = unit(within);
            while (is("*") || is("/") || is("%")) {
                String sign = look().text;
                at++;
                Answer l = a;
                Answer r = unit(within);
                a = w -> {
                    int x = l.by(w);
                    int y = r.by(w);
                    return sign.equals("*") ? x * y : y == 0 ? 0 : sign.equals("/") ? x / y : x % y;
                };
            }
            return a;
        }

        Answer unit(int within) {
            Token t = look();
            boolean opens = is("(");
            if (!opens && t.kind != 'n' && !(t.kind == 'w' && ASKED.contains(t.text))) {
                throw no(2);
            }
            if (inOne == 30 || inAll == 60 || opens && within >= 7) {
                throw no(2);
            }
            inOne++;
            inAll++;
            at++;
            if (opens) {
                Answer a = e(within + 1);
                must(")");
                return a;
            }
            if (t.kind == 'n') {
                int n = Integer.parseInt(t.text);
                return w -> n;
            }
            return w -> w.get(t.text);
        }
    }

    int feed(int a, int b, int c, int d, int e) {
        if (tape.length() + 20 > 1600) {
            return -1;
        }
        StringBuilder bytes = new StringBuilder(tape);
        for (int n : new int[] {a, b, c, d, e}) {
            bytes.append((char) (n >>> 24)).append((char) (n >>> 16 & 255)).append((char) (n >>> 8 & 255))
                    .append((char) (n & 255));
        }
        tape = bytes.toString();
        return tape.length();
    }

    int end(int n) {
        if (n < 0 || n > tape.length()) {
            return -1;
        }
        tape = tape.substring(0, n);
        return n;
    }

    int town() {
        Reading r = new Reading(tape);
        try {
            r.town();
        } catch (Fault f) {
            fault = f.number;
            place = f.place;
            return -1;
        }
        fault = 0;
        place = -1;
        tape = "";
        corners = r.toldCorners;
        guilds = r.toldGuilds;
        pull = r.toldPull;
        hold = r.toldHold;
        draw = Math.max(0, r.toldDraw);
        units = r.inAll;
        now = first();
        before.clear();
        behind.clear();
        boxes.clear();
        seen.clear();
        lying = new ArrayList<>();
        return guilds.size();
    }

    int fault(int what) {
        return what == 0 ? fault : what == 1 ? place : -1;
    }

    // ---- a day

    private Day first() {
        Day d = new Day();
        for (int g = 0; g < guilds.size(); g++) {
            d.order.add(g);
            d.reef.add(guilds.get(g).reef);
            d.children.add(0);
            d.down.add(false);
            d.under.add(-1);
        }
        d.seed = draw;
        return d;
    }

    private boolean isGuild(int g) {
        return g >= 0 && g < guilds.size();
    }

    private static boolean up(Day d, int g) {
        int u = d.under.get(g);
        return !d.down.get(u == -1 ? g : u);
    }

    private static boolean bearerUp(Day d, int g) {
        return d.under.get(g) == -1 && up(d, g);
    }

    private int upBits(Day d) {
        int bits = 0;
        for (int g = 0; g < guilds.size(); g++) {
            bits += up(d, g) ? 1 << g : 0;
        }
        return bits;
    }

    private int clothOf(Day d, int g) {
        return Math.max(0, guilds.get(g).cloth - d.reef.get(g));
    }

    private int might(Day d, int g) {
        int might = 0;
        for (int o = 0; o < guilds.size(); o++) {
            if (o == g || d.under.get(o) == g) {
                might += guilds.get(o).strong + d.children.get(o);
            }
        }
        return might;
    }

    private int truth(Day d, int g, int firstTrue) {
        int truth = 1000;
        for (int o = 0; o < guilds.size(); o++) {
            if (o == g || d.under.get(o) == g) {
                truth = Math.min(truth, o == 0 ? firstTrue : guilds.get(o).truth);
            }
        }
        return truth;
    }

    private int firstTrue() {
        return guilds.isEmpty() ? 0 : guilds.get(0).truth;
    }

    private int[] pullAndHold(Day d, int g, int gust, int firstTrue) {
        Corner c = corners.get(d.stands);
        int ahead = 0;
        for (int p = d.order.indexOf(g) - 1; p >= 0; p--) {
            if (bearerUp(d, d.order.get(p))) {
                ahead = clothOf(d, d.order.get(p));
                break;
            }
        }
        Map<String, Integer> w = new HashMap<>();
        w.put("wind", c.wind + gust);
        w.put("lee", c.lee);
        w.put("cloth", clothOf(d, g));
        w.put("ahead", ahead);
        w.put("true", truth(d, g, firstTrue));
        w.put("strong", might(d, g));
        w.put("day", d.day);
        int p = pull == null ? (c.wind + gust) * clothOf(d, g) / 4 - c.lee - ahead : pull.by(w);
        int h = hold == null ? might(d, g) + truth(d, g, firstTrue) / 10 : hold.by(w);
        return new int[] {p, h};
    }

    private void pass(Day d, int gust, int firstTrue) {
        for (int g : d.order) {
            if (bearerUp(d, g)) {
                int[] ph = pullAndHold(d, g, gust, firstTrue);
                if (ph[0] > ph[1]) {
                    d.down.set(g, true);
                }
            }
        }
        d.stands++;
    }

    private int gust(Day d) {
        Corner c = corners.get(d.stands);
        if (!c.gusty) {
            return 0;
        }
        d.seed = (137 * d.seed + 71) % 1000;
        return d.seed % 100 < c.chance ? c.gust : 0;
    }

    private int roundBits(Day d, int gust) {
        Day t = d.copy();
        while (t.stands < corners.size()) {
            pass(t, gust, firstTrue());
        }
        return upBits(t);
    }

    private boolean comesRound(Day d, int g, int gust) {
        return (roundBits(d, gust) >> g & 1) == 1;
    }

    private int howMany(Day d) {
        return Integer.bitCount(roundBits(d, 0));
    }

    int guild(int g, int what) {
        if (!isGuild(g) || what < 0 || what > 10) {
            return -2;
        }
        int b = now.under.get(g) == -1 ? g : now.under.get(g);
        Guild t = guilds.get(g);
        return List.of(t.cloth, t.truth, t.strong, now.reef.get(g), now.children.get(g), up(now, g) ? 1 : 0,
                now.under.get(g), now.order.indexOf(g), clothOf(now, b), might(now, b),
                truth(now, b, firstTrue())).get(what);
    }

    int corner(int c, int what) {
        if (c < 0 || c >= corners.size() || what < 0 || what > 3) {
            return -1;
        }
        Corner t = corners.get(c);
        return List.of(t.wind, t.lee, t.chance, t.gust).get(what);
    }

    int place(int p) {
        return isGuild(p) ? now.order.get(p) : -1;
    }

    int strain(int g, int what) {
        if (!isGuild(g) || !bearerUp(now, g) || now.stands >= corners.size() || what < 0 || what > 1) {
            return -1000000000;
        }
        return pullAndHold(now, g, 0, firstTrue())[what];
    }

    // ---- acts

    private void act() {
        before.push(now.copy());
        behind.clear();
        while (before.size() > 40) {
            before.removeLast();
        }
    }

    int step() {
        if (now.stands >= corners.size()) {
            return -1;
        }
        act();
        int was = upBits(now);
        pass(now, gust(now), firstTrue());
        return was & ~upBits(now);
    }

    int reef(int g, int reef) {
        if (!isGuild(g) || reef < 0 || reef > 20 || now.reef.get(g) == reef) {
            return -1;
        }
        act();
        return now.reef.set(g, reef);
    }

    int child(int g, int many) {
        if (!isGuild(g) || many < 1 || many > 9 || now.children.get(g) + many > 99) {
            return -1;
        }
        act();
        now.children.set(g, now.children.get(g) + many);
        return now.children.get(g);
    }

    boolean swap(int g, int o) {
        if (!isGuild(g) || !isGuild(o) || g == o) {
            return false;
        }
        act();
        Collections.swap(now.order, now.order.indexOf(g), now.order.indexOf(o));
        return true;
    }

    private boolean can(int g, int o) {
        return isGuild(g) && isGuild(o) && g != o && bearerUp(now, g) && bearerUp(now, o)
                && !now.under.contains(g) && !now.under.contains(o);
    }

    int under(int g, int o) {
        if (!can(g, o)) {
            return -1;
        }
        act();
        now.under.set(g, o);
        return might(now, o);
    }

    int part(int g) {
        if (!isGuild(g) || now.under.get(g) == -1) {
            return -1;
        }
        act();
        int from = now.under.set(g, -1);
        now.down.set(g, now.down.get(from));
        return from;
    }

    int day() {
        if (now.day == 999) {
            return -1;
        }
        act();
        int was = upBits(now);
        now.day++;
        now.stands = 0;
        Collections.fill(now.down, false);
        return was;
    }

    boolean undo() {
        if (before.isEmpty()) {
            return false;
        }
        behind.push(now);
        now = before.pop();
        return true;
    }

    boolean redo() {
        if (behind.isEmpty()) {
            return false;
        }
        before.push(now);
        now = behind.pop();
        return true;
    }

    // ---- what lies ahead

    int will(int n, int what) {
        if (n < 0 || n > 8 || what < 0 || what > 1) {
            return -1;
        }
        Day d = now.copy();
        for (int i = 0; i < n && d.stands < corners.size(); i++) {
            pass(d, what == 1 ? gust(d) : 0, firstTrue());
        }
        return upBits(d);
    }

    int far(int g) {
        if (!isGuild(g)) {
            return -1;
        }
        int far = now.stands;
        for (int n = 0; now.stands + n <= corners.size(); n++) {
            if ((will(n, 0) >> g & 1) == 1) {
                far = now.stands + n;
            }
        }
        return far;
    }

    int least(int g) {
        for (int r = 0; r <= 20 && isGuild(g) && bearerUp(now, g); r++) {
            Day d = now.copy();
            d.reef.set(g, r);
            if (comesRound(d, g, 0)) {
                return r;
            }
        }
        return -1;
    }

    private void largest(Day d, int g, int[] best, List<Integer> bestReefs) {
        if (g == guilds.size()) {
            int cloth = 0;
            int bits = roundBits(d, 0);
            for (int o = 0; o < g; o++) {
                if (bearerUp(now, o)) {
                    cloth += clothOf(d, o);
                    if ((bits >> o & 1) == 0) {
                        return;
                    }
                }
            }
            if (cloth > best[0]) {
                best[0] = cloth;
                bestReefs.clear();
                for (int o = 0; o < g; o++) {
                    bestReefs.add(bearerUp(now, o) ? d.reef.get(o) : -1);
                }
            }
            return;
        }
        for (int r = 0; r < (bearerUp(now, g) ? 4 : 1); r++) {
            Day t = d.copy();
            if (bearerUp(now, g)) {
                t.reef.set(g, r);
            }
            largest(t, g + 1, best, bestReefs);
        }
    }

    int largest() {
        int[] best = {-1};
        lying = new ArrayList<>();
        largest(now, 0, best, lying);
        return best[0];
    }

    private void street(List<Integer> order, int[] best, List<Integer> bestOrder) {
        if (order.size() == guilds.size()) {
            Day d = now.copy();
            d.order.clear();
            d.order.addAll(order);
            if (howMany(d) > best[0]) {
                best[0] = howMany(d);
                bestOrder.clear();
                bestOrder.addAll(order);
            }
            return;
        }
        for (int g = 0; g < guilds.size(); g++) {
            if (!order.contains(g)) {
                List<Integer> longer = new ArrayList<>(order);
                longer.add(g);
                street(longer, best, bestOrder);
            }
        }
    }

    int street() {
        int[] best = {-1};
        lying = new ArrayList<>();
        street(List.of(), best, lying);
        return best[0];
    }

    int host(int g, int what) {
        int[] best = {-1, -1};
        for (int o = 0; o < guilds.size(); o++) {
            if (can(g, o)) {
                Day d = now.copy();
                d.under.set(g, o);
                if (howMany(d) > best[1]) {
                    best = new int[] {o, howMany(d)};
                }
            }
        }
        return what < 0 || what > 1 ? -1 : best[what];
    }

    private int[] does(int g, int o, int r, int s) {
        Day d = now.copy();
        d.reef.set(g, r);
        d.reef.set(o, s);
        return new int[] {(comesRound(d, g, 0) ? 1000 : 0) + clothOf(d, g),
            (comesRound(d, o, 0) ? 1000 : 0) + clothOf(d, o)};
    }

    int rivals(int g, int o) {
        lying = new ArrayList<>();
        if (g == o || !isGuild(g) || !isGuild(o) || !bearerUp(now, g) || !bearerUp(now, o)) {
            return -1;
        }
        int[][][] does = new int[6][6][];
        for (int r = 0; r < 6; r++) {
            for (int s = 0; s < 6; s++) {
                does[r][s] = does(g, o, r, s);
            }
        }
        int rests = 0;
        for (int r = 0; r < 6; r++) {
            for (int s = 0; s < 6; s++) {
                boolean rest = true;
                for (int t = 0; t < 6; t++) {
                    rest &= does[t][s][0] <= does[r][s][0] && does[r][t][1] <= does[r][s][1];
                }
                if (rest && rests == 0) {
                    lying = new ArrayList<>(List.of(r, s));
                }
                rests += rest ? 1 : 0;
            }
        }
        return rests;
    }

    /** All ways to give each guild a partner or none, kept as told by the document's own words. */
    private void pairs(List<Integer> with, int[] best, List<Integer> bestWith) {
        int n = guilds.size();
        if (with.size() == n) {
            int singles = 0;
            int differences = 0;
            for (int g = 0; g < n; g++) {
                int o = with.get(g);
                if (o == n) {
                    singles++;
                } else if (o == g || with.get(o) != g) {
                    return;
                } else if (g < o) {
                    differences += Math.abs(guilds.get(g).cloth - guilds.get(o).cloth);
                }
            }
            if (singles == n % 2 && (best[0] < 0 || differences < best[0])) {
                best[0] = differences;
                bestWith.clear();
                for (int o : with) {
                    bestWith.add(o == n ? -1 : o);
                }
            }
            return;
        }
        for (int o = 0; o <= n; o++) {
            List<Integer> longer = new ArrayList<>(with);
            longer.add(o);
            pairs(longer, best, bestWith);
        }
    }

    int pairs() {
        int[] best = {-1};
        lying = new ArrayList<>();
        pairs(List.of(), best, lying);
        return best[0];
    }

    int need(int g) {
        if (!isGuild(g) || !bearerUp(now, g)) {
            return -1;
        }
        for (int more = 0; more + now.children.get(g) <= 99; more++) {
            Day d = now.copy();
            d.children.set(g, now.children.get(g) + more);
            if (comesRound(d, g, 0)) {
                return more;
            }
        }
        return -1;
    }

    int bears(int g) {
        int bears = -1;
        if (isGuild(g) && comesRound(now, g, 0)) {
            for (int gust = 0; gust <= 99; gust++) {
                bears = comesRound(now, g, gust) ? gust : bears;
            }
        }
        return bears;
    }

    int shield() {
        int shield = -1;
        int fewest = 100;
        for (int g = 0; g < guilds.size(); g++) {
            if (bearerUp(now, g)) {
                Day d = now.copy();
                d.down.set(g, true);
                if (howMany(d) < fewest) {
                    fewest = howMany(d);
                    shield = g;
                }
            }
        }
        return shield;
    }

    int law(int n) {
        if (n < 0 || n > 20) {
            return -1;
        }
        Day d = now.copy();
        Collections.fill(d.reef, n);
        return howMany(d);
    }

    int worst() {
        int worst = -1;
        int most = 0;
        for (int n = 1; now.stands + n <= corners.size(); n++) {
            int down = Integer.bitCount(will(n - 1, 0)) - Integer.bitCount(will(n, 0));
            if (down > most) {
                most = down;
                worst = now.stands + n - 1;
            }
        }
        return worst;
    }

    int narrow() {
        int bits = 0;
        for (int g = 0; g < guilds.size(); g++) {
            if (bearerUp(now, g) && now.stands < corners.size()) {
                long left = (long) strain(g, 1) - strain(g, 0);
                bits += left == 0 || left == 1 ? 1 << g : 0;
            }
        }
        return bits;
    }

    private long chance(Day d, int g) {
        if (d.stands == corners.size()) {
            return up(d, g) ? 1 : 0;
        }
        Corner c = corners.get(d.stands);
        Day still = d.copy();
        pass(still, 0, firstTrue());
        if (!c.gusty) {
            return chance(still, g);
        }
        Day blown = d.copy();
        pass(blown, c.gust, firstTrue());
        return c.chance * chance(blown, g) + (100 - c.chance) * chance(still, g);
    }

    int odds(int g, int part) {
        if (!isGuild(g) || part < 0 || part > 1) {
            return -1;
        }
        long all = 1;
        for (int c = now.stands; c < corners.size(); c++) {
            all *= corners.get(c).gusty ? 100 : 1;
        }
        long upper = chance(now, g);
        for (int p : new int[] {2, 5}) {
            while (all % p == 0 && upper % p == 0) {
                all /= p;
                upper /= p;
            }
        }
        return (int) (part == 0 ? upper : upper == 0 ? 1 : all);
    }

    int lies(int i) {
        return i < 0 || i >= lying.size() ? -2 : lying.get(i);
    }

    // ---- what is seen

    int seen(int n, int g, boolean is) {
        if (n < 0 || n > corners.size() || !isGuild(g) || seen.size() == 30) {
            return -1;
        }
        seen.add(new Seen(n, g, is, time, new int[] {Integer.MAX_VALUE, 0}));
        return seen.size() - 1;
    }

    boolean untell(int s) {
        if (s < 0 || s >= seen.size() || seen.get(s).untold[1] == 1) {
            return false;
        }
        seen.get(s).untold[0] = time;
        seen.get(s).untold[1] = 1;
        return true;
    }

    int later(int by) {
        if (by < 0 || by > 1000 || time + by > 100000) {
            return -1;
        }
        time += by;
        return time;
    }

    private int upBehind(int n, int firstTrue) {
        Day d = first();
        while (d.stands < n) {
            pass(d, 0, firstTrue);
        }
        return upBits(d);
    }

    private List<Integer> fitting(int k) {
        List<Integer> fitting = new ArrayList<>();
        for (int t = 0; t <= 100 && !guilds.isEmpty(); t++) {
            boolean fits = true;
            for (Seen s : seen) {
                boolean counts = s.told <= k && !(s.untold[1] == 1 && s.untold[0] <= k);
                fits &= !counts || (upBehind(s.corners, t) >> s.guild & 1) == (s.is ? 1 : 0);
            }
            if (fits) {
                fitting.add(t);
            }
        }
        return fitting;
    }

    int fits(int k) {
        return fitting(k).size();
    }

    int sure(int what, int k) {
        List<Integer> fitting = fitting(k);
        return fitting.isEmpty() || what < 0 || what > 1 ? -1
                : what == 0 ? Collections.min(fitting) : Collections.max(fitting);
    }

    int ask(int what, int k) {
        List<Integer> fitting = fitting(k);
        if (fitting.isEmpty() || what < 0 || what > 1) {
            return -1;
        }
        int[] best = {-1, 1000};
        for (int n = 0; n <= corners.size(); n++) {
            Map<Integer, Integer> groups = new HashMap<>();
            for (int t : fitting) {
                groups.merge(upBehind(n, t), 1, Integer::sum);
            }
            int most = Collections.max(groups.values());
            if (most < best[1]) {
                best = new int[] {n, most};
            }
        }
        return best[what];
    }

    // ---- boxes

    int image(int box) {
        if (box < 0 || box > 2) {
            return -1;
        }
        boxes.put(box, now.copy());
        return now.day;
    }

    int back(int box) {
        if (!boxes.containsKey(box)) {
            return -1;
        }
        now = boxes.get(box).copy();
        before.clear();
        behind.clear();
        return now.day;
    }

    int about(int what) {
        int[] all = {guilds.size(), corners.size(), upBits(now), now.stands, now.day, now.seed, before.size(),
            behind.size(), seen.size(), time, tape.length(), units, lying.size()};
        return what < 0 || what > 12 ? -1 : all[what];
    }
}
