import java.util.ArrayList;
import java.util.Arrays;
import java.util.HashSet;
import java.util.List;
import java.util.NoSuchElementException;
import java.util.Set;

/**
 * A second reading of the document, as slow and plain as can be: whole copies in place of acts
 * that are taken back, trees in place of code, every substring in place of rows.
 */
final class Model {
    static final int NONE = -1;

    interface Expr {
        int at(World w, int person);
    }

    /** What a text tells, and where it was wrong. */
    static final class Told {
        final List<int[]> people = new ArrayList<>(); // kind, house, birthday, base
        final List<int[]> feuds = new ArrayList<>();
        final List<Integer> other = new ArrayList<>();
        int key = 0;
        Expr sings = null;
    }

    static final class Fault extends Exception {
        private static final long serialVersionUID = 1L;
        final int number;
        final int place;

        Fault(int number, int place) {
            this.number = number;
            this.place = place;
        }
    }

    /** Recursive descent, as the grammar stands in the document. */
    static final class Parser {
        final String text;
        final List<String> tokens = new ArrayList<>();
        final List<Integer> places = new ArrayList<>();
        int at = 0;
        final Told told = new Told();

        Parser(byte[] bytes, int n) {
            StringBuilder b = new StringBuilder();
            for (int i = 0; i < n; i++) {
                b.append((char) (bytes[i] & 255));
            }
            text = b.toString();
            int i = 0;
            while (i < n) {
                char c = text.charAt(i);
                if (c == ' ' || c == '\n') {
                    i++;
                    continue;
                }
                int j = i + 1;
                String same = c >= 'a' && c <= 'z' ? "[a-z]" : c >= '0' && c <= '9' ? "[0-9]" : null;
                while (same != null && j < n && text.substring(j, j + 1).matches(same)) {
                    j++;
                }
                tokens.add(text.substring(i, j));
                places.add(i);
                i = j;
            }
            tokens.add("");
            places.add(n);
        }

        String token() {
            return tokens.get(at);
        }

        Fault fault(int number) {
            return new Fault(number, places.get(at));
        }

        boolean is(String token) {
            return token().equals(token);
        }

        boolean isNumber() {
            return token().matches("[0-9]+");
        }

        boolean isWord() {
            return token().matches("[a-z]+");
        }

        int number(int least, int most) throws Fault {
            if (!isNumber()) {
                throw fault(1);
            }
            if (token().length() > 4) {
                throw fault(2);
            }
            int value = Integer.parseInt(token());
            if (value < least || value > most) {
                throw fault(2);
            }
            return value;
        }

        Told town() throws Fault {
            Set<String> had = new HashSet<>();
            while (!is("")) {
                line(had);
                if (!is(";")) {
                    throw fault(1);
                }
                at++;
            }
            return told;
        }

        void line(Set<String> had) throws Fault {
            String word = token();
            int kind = Arrays.asList("elder", "child", "deaf", "spy").indexOf(word);
            if (kind >= 0) {
                if (told.people.size() == 8) {
                    throw fault(2);
                }
                at++;
                int house = number(0, 3);
                at++;
                int birthday = number(1, 365);
                for (int[] p : told.people) {
                    if (p[2] == birthday) {
                        throw fault(4);
                    }
                }
                at++;
                int base = number(0, 11);
                at++;
                told.people.add(new int[] {kind, house, birthday, base});
            } else if (word.equals("feud")) {
                if (told.feuds.size() == 6) {
                    throw fault(2);
                }
                at++;
                int first = person();
                at++;
                int second = person();
                for (int[] f : told.feuds) {
                    if (f[0] == first && f[1] == second || f[0] == second && f[1] == first) {
                        throw fault(4);
                    }
                }
                if (first == second) {
                    throw fault(4);
                }
                at++;
                told.feuds.add(new int[] {first, second});
            } else if (word.equals("key") || word.equals("other") || word.equals("sings")) {
                if (!had.add(word)) {
                    throw fault(5);
                }
                at++;
                if (word.equals("key")) {
                    told.key = number(0, 11);
                    at++;
                } else if (word.equals("sings")) {
                    told.sings = expr(0);
                } else {
                    do {
                        int sign = number(0, 12);
                        if (told.other.size() == 24) {
                            throw fault(2);
                        }
                        told.other.add(sign);
                        at++;
                    } while (isNumber());
                }
            } else {
                throw fault(1);
            }
        }

        int person() throws Fault {
            int p = number(0, 9999);
            if (p >= told.people.size()) {
                throw fault(3);
            }
            return p;
        }

        Expr expr(int within) throws Fault {
            if (within >= 6 && (isNumber() || isWord() || is("("))) {
                throw fault(2);
            }
            Expr left = and(within);
            while (is("or")) {
                at++;
                Expr l = left;
                Expr r = and(within);
                left = (w, p) -> l.at(w, p) != 0 | r.at(w, p) != 0 ? 1 : 0;
            }
            return left;
        }

        Expr and(int within) throws Fault {
            Expr left = not(within, 0);
            while (is("and")) {
                at++;
                Expr l = left;
                Expr r = not(within, 0);
                left = (w, p) -> l.at(w, p) != 0 & r.at(w, p) != 0 ? 1 : 0;
            }
            return left;
        }

        Expr not(int within, int nots) throws Fault {
            if (is("not")) {
                if (nots == 6) {
                    throw fault(2);
                }
                at++;
                Expr e = not(within, nots + 1);
                return (w, p) -> e.at(w, p) == 0 ? 1 : 0;
            }
            Expr l = sum(within);
            if (is("<")) {
                at++;
                Expr r = sum(within);
                return (w, p) -> l.at(w, p) < r.at(w, p) ? 1 : 0;
            }
            if (is("=")) {
                at++;
                Expr r = sum(within);
                return (w, p) -> l.at(w, p) == r.at(w, p) ? 1 : 0;
            }
            return l;
        }

        Expr sum(int within) throws Fault {
            Expr left = product(within);
            while (is("+") || is("-")) {
                int by = is("+") ? 1 : -1;
                at++;
                Expr l = left;
                Expr r = product(within);
                left = (w, p) -> l.at(w, p) + by * r.at(w, p);
            }
            return left;
        }

        Expr product(int within) throws Fault {
            Expr left = part(within);
            while (is("*") || is("/")) {
                boolean times = is("*");
                at++;
                Expr l = left;
                Expr r = part(within);
                left = (w, p) -> {
                    int a = l.at(w, p);
                    int b = r.at(w, p);
                    return times ? a * b : b == 0 ? 0 : (int) ((long) a / b);
                };
            }
            return left;
        }

        Expr part(int within) throws Fault {
            if (isNumber()) {
                int value = number(0, 9999);
                at++;
                return (w, p) -> value;
            }
            if (is("(")) {
                at++;
                Expr e = expr(within + 1);
                if (!is(")")) {
                    throw fault(1);
                }
                at++;
                return e;
            }
            if (!isWord()) {
                throw fault(1);
            }
            String word = token();
            if (!Arrays.asList("year", "base", "last", "key", "house", "kind", "sung").contains(word)) {
                throw fault(3);
            }
            at++;
            return (w, p) -> w.value(word, p);
        }
    }

    /** All that acts change; a whole copy of it is an act's undoing. */
    static final class World {
        Told told = new Told();
        final List<int[]> tune = new ArrayList<>(); // sign, whose, year
        final List<int[]> feuds = new ArrayList<>();
        int year = 0;
        int key = 0;
        final boolean[] away = new boolean[8];
        final boolean[] dead = new boolean[8];
        final boolean[] married = new boolean[8];
        final boolean[] turned = new boolean[8];
        final int[] house = new int[8];
        final int[] base = new int[8];

        static World of(Told told) {
            World w = new World();
            w.told = told;
            w.key = told.key;
            w.feuds.addAll(told.feuds);
            for (int p = 0; p < w.people(); p++) {
                w.house[p] = told.people.get(p)[1];
                w.base[p] = told.people.get(p)[3];
            }
            return w;
        }

        World copy() {
            World w = new World();
            w.told = told;
            w.tune.addAll(tune);
            w.feuds.addAll(feuds);
            w.year = year;
            w.key = key;
            System.arraycopy(away, 0, w.away, 0, 8);
            System.arraycopy(dead, 0, w.dead, 0, 8);
            System.arraycopy(married, 0, w.married, 0, 8);
            System.arraycopy(turned, 0, w.turned, 0, 8);
            System.arraycopy(house, 0, w.house, 0, 8);
            System.arraycopy(base, 0, w.base, 0, 8);
            return w;
        }

        int people() {
            return told.people.size();
        }

        int kind(int p) {
            return told.people.get(p)[0];
        }

        int length() {
            return tune.size();
        }

        int sign(int place) {
            return place < length() ? tune.get(place)[0] : NONE;
        }

        int value(String word, int p) {
            switch (word) {
                case "year": return year;
                case "base": return base[p];
                case "key": return key;
                case "house": return house[p];
                case "kind": return kind(p);
                case "sung": return (int) tune.stream().filter(s -> s[1] == p).count();
                default:
                    for (int i = length() - 1; i >= 0; i--) {
                        if (sign(i) != 12) {
                            return sign(i);
                        }
                    }
                    return key;
            }
        }

        boolean foes(int a, int b) {
            return feuds.stream().anyMatch(f -> f[0] == a && f[1] == b || f[0] == b && f[1] == a);
        }

        World years(int many) {
            for (int y = 0; y < many; y++) {
                for (int day = 1; day <= 365; day++) {
                    for (int p = 0; p < people(); p++) {
                        if (told.people.get(p)[2] == day && !dead[p] && length() < 400) {
                            tune.add(new int[] {next(p), p, year});
                        }
                    }
                }
                year++;
            }
            return this;
        }

        int next(int p) {
            if (away[p]) {
                return 12;
            }
            if (length() > 0) {
                int[] ahead = tune.get(length() - 1);
                if (ahead[0] != 12 && foes(p, ahead[1])) {
                    return (ahead[0] + 6) % 12;
                }
            }
            int note = kind(p) == 2 ? base[p] : told.sings == null ? base[p] + key : told.sings.at(this, p);
            note = note % 12;
            note = note < 0 ? note + 12 : note;
            note += kind(p) == 1 ? 7 : 0;
            note -= kind(p) == 3 != turned[p] ? 1 : 0;
            return (note + 12) % 12;
        }

        boolean mayMarry(int a, int b) {
            return a != b && !away[a] && !away[b] && !dead[a] && !dead[b]
                    && !married[a] && !married[b] && house[a] != house[b];
        }

        World marry(int a, int b) {
            key = (key + 7) % 12;
            house[b] = house[a];
            married[a] = true;
            married[b] = true;
            return this;
        }

        int tritones(int from) {
            int many = 0;
            for (int i = Math.max(1, from); i < length(); i++) {
                if (sign(i) != 12 && sign(i - 1) != 12 && Math.abs(sign(i) - sign(i - 1)) == 6) {
                    many++;
                }
            }
            return many;
        }

        int like() {
            int n = length();
            int m = told.other.size();
            int[][] t = new int[n + 1][m + 1];
            for (int i = 1; i <= n; i++) {
                for (int j = 1; j <= m; j++) {
                    t[i][j] = Math.max(t[i - 1][j], t[i][j - 1]);
                    if (sign(i - 1) == told.other.get(j - 1)) {
                        t[i][j] = Math.max(t[i][j], t[i - 1][j - 1] + 1);
                    }
                }
            }
            return t[n][m];
        }

        int apart() {
            int m = told.other.size();
            int from = Math.max(0, length() - m);
            int n = length() - from;
            int[][] t = new int[n + 1][m + 1];
            for (int i = 0; i <= n; i++) {
                for (int j = 0; j <= m; j++) {
                    if (i == 0 || j == 0) {
                        t[i][j] = i + j;
                        continue;
                    }
                    int same = sign(from + i - 1) == told.other.get(j - 1) ? 0 : 1;
                    t[i][j] = Math.min(t[i - 1][j - 1] + same, Math.min(t[i - 1][j], t[i][j - 1]) + 1);
                }
            }
            return t[n][m];
        }

        String text() {
            StringBuilder b = new StringBuilder();
            for (int[] s : tune) {
                b.append((char) ('A' + s[0]));
            }
            return b.toString();
        }

        int rests() {
            return (int) tune.stream().filter(s -> s[0] == 12).count();
        }
    }

    private byte[] tape = new byte[0];
    private int faultPlace = NONE;
    private World now = new World();
    private List<World> acts = new ArrayList<>();
    private List<int[]> heard = new ArrayList<>();
    private int[] status = new int[3];
    private World imageNow = null;
    private List<World> imageActs = null;
    private List<int[]> imageHeard = null;
    private int[] imageStatus = null;

    private static NoSuchElementException noSuch() {
        return new NoSuchElementException();
    }

    private static IllegalArgumentException illegal() {
        return new IllegalArgumentException();
    }

    private void what(int what, int most) {
        if (what < 0 || what > most) {
            throw noSuch();
        }
    }

    private void needs(int person) {
        if (person < 0 || person >= now.people()) {
            throw noSuch();
        }
    }

    private void act() {
        acts.add(now.copy());
        if (acts.size() > 40) {
            acts.remove(0);
        }
    }

    private int bits(boolean[] of) {
        int bits = 0;
        for (int i = 0; i < 8; i++) {
            bits += of[i] ? 1 << i : 0;
        }
        return bits;
    }

    int feed(int[] five) {
        if (tape.length + 20 > 600) {
            return NONE;
        }
        byte[] more = Arrays.copyOf(tape, tape.length + 20);
        for (int i = 0; i < 20; i++) {
            more[tape.length + i] = (byte) (five[i / 4] >> (24 - i % 4 * 8));
        }
        tape = more;
        return tape.length;
    }

    int town(int n) {
        if (n < 0 || n > tape.length) {
            throw illegal();
        }
        byte[] text = tape;
        tape = new byte[0];
        try {
            now = World.of(new Parser(text, n).town());
        } catch (Fault f) {
            faultPlace = f.place;
            status[0]++;
            return f.number;
        }
        faultPlace = NONE;
        acts = new ArrayList<>();
        heard = new ArrayList<>();
        imageNow = null;
        return 0;
    }

    int fault() {
        return faultPlace;
    }

    int count(int what) {
        what(what, 15);
        int[] all = {now.people(), now.feuds.size(), now.key, now.year, now.length(), now.told.other.size(),
            now.rests(), bits(now.away), bits(now.dead), bits(now.married), acts.size(), heard.size(),
            tape.length, status[0], status[1], status[2]};
        return all[what];
    }

    int person(int p, int what) {
        needs(p);
        what(what, 6);
        int[] told = now.told.people.get(p);
        int rank = (int) now.told.people.stream().filter(q -> q[2] < told[2]).count();
        int feuds = (int) now.feuds.stream().filter(f -> f[0] == p || f[1] == p).count();
        int[] all = {told[0], now.house[p], told[2], told[3], now.value("sung", p), rank, feuds};
        return all[what];
    }

    int feud(int f, int what) {
        what(what, 1);
        if (f < 0 || f >= now.feuds.size()) {
            throw noSuch();
        }
        return now.feuds.get(f)[what];
    }

    int sign(int place, int what) {
        what(what, 2);
        if (place < 0 || place >= now.length()) {
            throw noSuch();
        }
        return now.tune.get(place)[what];
    }

    int other(int place) {
        if (place < 0 || place >= now.told.other.size()) {
            throw noSuch();
        }
        return now.told.other.get(place);
    }

    int years(int many) {
        if (many < 1 || many > 20 || now.year + many > 999) {
            status[1]++;
            return NONE;
        }
        act();
        return now.years(many).year;
    }

    int away(int p, boolean gone) {
        needs(p);
        if (now.dead[p] || now.away[p] == gone) {
            status[1]++;
            return 0;
        }
        act();
        now.away[p] = gone;
        return 1;
    }

    int dies(int p) {
        needs(p);
        if (now.dead[p]) {
            status[1]++;
            return 0;
        }
        act();
        now.dead[p] = true;
        return 1;
    }

    int marry(int a, int b) {
        needs(a);
        needs(b);
        if (!now.mayMarry(a, b)) {
            status[1]++;
            return NONE;
        }
        act();
        return now.marry(a, b).key;
    }

    int quarrel(int a, int b) {
        needs(a);
        needs(b);
        if (a == b || now.foes(a, b) || now.feuds.size() == 6) {
            status[1]++;
            return NONE;
        }
        act();
        now.feuds.add(new int[] {a, b});
        return now.feuds.size() - 1;
    }

    int peace(int f) {
        if (f < 0 || f >= now.feuds.size()) {
            status[1]++;
            return 0;
        }
        act();
        now.feuds.remove(f);
        return 1;
    }

    int undo() {
        if (acts.isEmpty()) {
            return NONE;
        }
        now = acts.remove(acts.size() - 1);
        return acts.size();
    }

    private String phrase(int phrase, int many) {
        if (many < 1 || many > 7 || phrase < 0 || phrase >= Math.pow(13, many)) {
            throw illegal();
        }
        StringBuilder b = new StringBuilder();
        for (int i = 0, left = phrase; i < many; i++, left /= 13) {
            b.append((char) ('A' + left % 13));
        }
        return b.reverse().toString();
    }

    int found(int phrase, int many, int what) {
        what(what, 1);
        String p = phrase(phrase, many);
        String t = now.text();
        if (what == 1) {
            return t.indexOf(p);
        }
        int places = 0;
        for (int i = t.indexOf(p); i >= 0; i = t.indexOf(p, i + 1)) {
            places++;
        }
        return places;
    }

    int again(int what) {
        what(what, 1);
        String t = now.text();
        int longest = 0;
        int where = NONE;
        for (int i = 0; i < t.length(); i++) {
            while (i + longest + 1 <= t.length() && t.indexOf(t.substring(i, i + longest + 1), i + 1) >= 0) {
                longest++;
                where = i;
            }
        }
        return what == 0 ? longest : where;
    }

    int tritones() {
        return now.tritones(0);
    }

    int interval(int up) {
        if (up < 0 || up > 11) {
            throw illegal();
        }
        int many = 0;
        for (int i = 1; i < now.length(); i++) {
            int a = now.sign(i - 1);
            int b = now.sign(i);
            many += a < 12 && b < 12 && (b - a + 12) % 12 == up ? 1 : 0;
        }
        return many;
    }

    int own(int p, int i) {
        needs(p);
        List<Integer> own = new ArrayList<>();
        for (int[] s : now.tune) {
            if (s[1] == p) {
                own.add(s[0]);
            }
        }
        if (i < 0 || i >= own.size()) {
            throw noSuch();
        }
        return own.get(i);
    }

    int breath(int what) {
        what(what, 1);
        String longest = "";
        for (String row : now.text().split("M")) {
            longest = row.length() > longest.length() ? row : longest;
        }
        if (what == 0) {
            return longest.length();
        }
        if (longest.isEmpty()) {
            return NONE;
        }
        String ended = "M" + now.text() + "M";
        return ended.indexOf("M" + longest + "M");
    }

    int palindrome() {
        String t = now.text();
        for (int many = t.length(); many > 0; many--) {
            for (int i = 0; i + many <= t.length(); i++) {
                boolean is = true;
                for (int k = 0; k < many / 2 && is; k++) {
                    is = t.charAt(i + k) == t.charAt(i + many - 1 - k);
                }
                if (is) {
                    return many;
                }
            }
        }
        return 0;
    }

    int tonic() {
        int[] times = new int[13];
        now.tune.forEach(s -> times[s[0]]++);
        int best = 0;
        for (int i = 0; i < 12; i++) {
            best = times[i] > times[best] ? i : best;
        }
        return times[best] == 0 ? NONE : best;
    }

    int like(int what) {
        what(what, 1);
        return what == 0 ? now.like() : now.apart();
    }

    int then(int place) {
        if (place < 0 || place > 399) {
            throw illegal();
        }
        return now.copy().years(20).sign(place);
    }

    int when(int phrase, int many) {
        String p = phrase(phrase, many);
        for (int y = 0; y <= 20; y++) {
            if (now.copy().years(y).text().contains(p)) {
                return y;
            }
        }
        return NONE;
    }

    int quiet(int years) {
        if (years < 1 || years > 10) {
            throw illegal();
        }
        int best = NONE;
        for (int gone = 0; gone < 1 << now.people(); gone++) {
            if (best != NONE && Integer.bitCount(best) <= Integer.bitCount(gone)) {
                continue;
            }
            World w = now.copy();
            boolean may = true;
            for (int p = 0; p < now.people(); p++) {
                if ((gone >> p & 1) == 1) {
                    may &= !now.dead[p] && !now.away[p];
                    w.away[p] = true;
                }
            }
            if (may && w.years(years).tritones(now.length()) == 0) {
                best = gone;
            }
        }
        return best;
    }

    int match() {
        int most = now.copy().years(5).like();
        int best = NONE;
        for (int a = 0; a < now.people(); a++) {
            for (int b = 0; b < now.people(); b++) {
                if (now.mayMarry(a, b)) {
                    int like = now.copy().marry(a, b).years(5).like();
                    if (like > most) {
                        most = like;
                        best = 10 * a + b;
                    }
                }
            }
        }
        return best;
    }

    int hear(int place, int sign) {
        if (heard.size() == 8 || place < 0 || place > 399 || sign < 0 || sign > 12) {
            status[2]++;
            return NONE;
        }
        heard.add(new int[] {place, sign});
        return heard.size();
    }

    private World turned(int p) {
        World w = now.copy();
        if (p != NONE) {
            w.turned[p] = true;
        }
        return w.years(20);
    }

    private boolean so(World w) {
        return heard.stream().allMatch(h -> w.sign(h[0]) == h[1]);
    }

    private List<Integer> spies() {
        List<Integer> spies = new ArrayList<>();
        for (int p = 0; p < now.people(); p++) {
            if (so(turned(p))) {
                spies.add(p);
            }
        }
        return spies;
    }

    int spy(int what) {
        what(what, 2);
        if (what == 2) {
            return so(turned(NONE)) ? 1 : 0;
        }
        List<Integer> spies = spies();
        return what == 0 ? spies.size() : spies.isEmpty() ? NONE : spies.get(0);
    }

    int listen(int what) {
        what(what, 1);
        List<World> worlds = new ArrayList<>();
        for (int p : spies()) {
            worlds.add(turned(p));
        }
        int where = NONE;
        int most = 0;
        for (int i = now.length(); i < now.length() + 60 && i <= 399; i++) {
            Set<Integer> unlike = new HashSet<>();
            for (World w : worlds) {
                unlike.add(w.sign(i));
            }
            if (unlike.size() > most) {
                most = unlike.size();
                where = i;
            }
        }
        return what == 0 ? where : most;
    }

    void forget() {
        heard.clear();
    }

    int vote() {
        int living = 0;
        for (int p = 0; p < now.people(); p++) {
            living += now.dead[p] ? 0 : 1;
        }
        int votes = 0;
        for (int p = 0; p < now.people(); p++) {
            if (now.kind(p) != 2 || now.dead[p] || now.away[p]) {
                continue;
            }
            int more = 0;
            for (int i = Math.max(0, now.length() - living); i < now.length(); i++) {
                more += now.sign(i) == now.base[p] ? 1 : 0;
                more -= now.sign(i) == (now.base[p] + 6) % 12 ? 1 : 0;
            }
            votes += more > 0 ? 1 : -1;
        }
        return votes;
    }

    private List<Integer> choices(int house) {
        List<Integer> choices = new ArrayList<>();
        choices.add(NONE);
        for (int p = 0; p < now.people(); p++) {
            if (now.house[p] == house && !now.away[p] && !now.dead[p]) {
                choices.add(p);
            }
        }
        return choices;
    }

    private int gain(int a, int b, boolean first) {
        World w = now.copy();
        for (int p : new int[] {a, b}) {
            if (p != NONE) {
                w.away[p] = true;
            }
        }
        w.years(1);
        if (!first) {
            return w.tritones(now.length());
        }
        int gain = 0;
        for (int i = now.length(); i < w.length(); i++) {
            gain += w.sign(i) == now.key || w.sign(i) == (now.key + 7) % 12 ? 1 : 0;
        }
        return gain;
    }

    int game(int house, int other, int what) {
        what(what, 1);
        if (house < 0 || house > 3 || other < 0 || other > 3 || house == other) {
            throw illegal();
        }
        int rests = 0;
        int first = NONE;
        for (int a : choices(house)) {
            for (int b : choices(other)) {
                boolean is = choices(house).stream().allMatch(c -> gain(c, b, true) <= gain(a, b, true))
                        && choices(other).stream().allMatch(c -> gain(a, c, false) <= gain(a, b, false));
                if (is) {
                    first = rests == 0 ? 10 * (a + 1) + b + 1 : first;
                    rests++;
                }
            }
        }
        return what == 0 ? rests : first;
    }

    private int seed;

    private int draw(int n) {
        seed = seed * 1103515245 + 12345;
        return (seed & 0x7fffffff) / 65536 % n;
    }

    int century(int with, int n, int what) {
        what(what, 2);
        if (n < 0 || n > 20) {
            throw illegal();
        }
        World w = now.copy();
        seed = with;
        for (int y = 0; y < n; y++) {
            if (w.people() > 0) {
                int p = draw(w.people());
                int fate = draw(5);
                w.away[p] ^= fate == 0;
                w.dead[p] |= fate == 1;
                w.base[p] = (w.base[p] + (fate == 2 ? 1 : 0)) % 12;
            }
            w.years(1);
        }
        return what == 0 ? w.length() : what == 1 ? w.rests() : w.like();
    }

    void image() {
        imageNow = now.copy();
        // The copies behind acts are handed out by undo(), and changed then.
        imageActs = new ArrayList<>();
        acts.forEach(w -> imageActs.add(w.copy()));
        imageHeard = new ArrayList<>(heard);
        imageStatus = status.clone();
    }

    int restore() {
        if (imageNow == null) {
            return 0;
        }
        now = imageNow.copy();
        acts = new ArrayList<>();
        imageActs.forEach(w -> acts.add(w.copy()));
        heard = new ArrayList<>(imageHeard);
        status = imageStatus.clone();
        return 1;
    }
}
