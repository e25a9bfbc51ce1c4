import java.util.NoSuchElementException;

/** A town's one tune, to which each who lives there adds a note a year. */
public final class TownTune {
    public static final int NONE = -1;

    private static final int TEXT_MOST = 600;
    private static final int FED_AT_ONCE = 20;
    private static final int PEOPLE_MOST = 8;
    private static final int HOUSES = 4;
    private static final int FEUDS_MOST = 6;
    private static final int OTHER_MOST = 24;
    private static final int TUNE_MOST = 400;
    private static final int ACTS_MOST = 40;
    private static final int HEARD_MOST = 8;
    private static final int YEARS_MOST = 20;
    private static final int LAST_YEAR = 999;
    private static final int QUIET_MOST = 10;
    private static final int MATCH_YEARS = 5;
    private static final int LISTEN_MOST = 60;
    private static final int PHRASE_MOST = 7;
    private static final int SIGNS = 13;

    private static final int OCTAVE = 12;
    private static final int REST = 12;
    private static final int FIFTH = 7;
    private static final int TRITONE = 6;

    private static final int CHILD_KIND = 1;
    private static final int DEAF_KIND = 2;
    private static final int SPY_KIND = 3;

    private static final int CANNOT_STAND = 1;
    private static final int TOO_MUCH = 2;
    private static final int NOT_TOLD = 3;
    private static final int TAKEN = 4;
    private static final int SECOND_ONE = 5;

    // A sign's token is the sign's own byte; all words are above the signs.
    private static final int END = 0;
    private static final int NO_TOKEN = 1;
    private static final int NUMBER = 2;
    private static final int UNKNOWN_WORD = 99;
    private static final int ELDER = 100;
    private static final int CHILD = 101;
    private static final int DEAF = 102;
    private static final int SPY = 103;
    private static final int FEUD = 104;
    private static final int OTHER = 105;
    private static final int SINGS = 106;
    private static final int OR = 107;
    private static final int AND = 108;
    private static final int NOT = 109;
    private static final int KEY = 110;
    private static final int YEAR = 111;
    private static final int BASE = 112;
    private static final int LAST = 113;
    private static final int HOUSE = 114;
    private static final int KIND = 115;
    private static final int SUNG = 116;

    private static final int NUMBER_DIGITS = 4;
    private static final int NUMBER_MOST = 9999;
    private static final int NESTED_MOST = 5;
    private static final int NOTS_MOST = 6;

    private static final int YEARS_ACT = 0;
    private static final int AWAY_ACT = 1;
    private static final int DEATH_ACT = 2;
    private static final int MARRIAGE_ACT = 3;
    private static final int QUARREL_ACT = 4;
    private static final int PEACE_ACT = 5;

    private static final int TEXTS_REFUSED = 0;
    private static final int ACTS_REFUSED = 1;
    private static final int HEARD_REFUSED = 2;
    private static final int STATUS_MOST = 3;

    private final Reader reader = new Reader();
    private final Tokens tape = reader.tokens;
    private Town told = new Town();
    private final Life now = new Life();
    private final Acts acts = new Acts();
    private final Heard heard = new Heard();
    private final int[] status = new int[STATUS_MOST];
    private final Image kept = new Image();
    // All that only might come is sung here: the room for it is made once.
    private final Life future = new Life();
    private final Likeness likeness = new Likeness();
    private final Game contest = new Game();
    private final int[] phraseSigns = new int[PHRASE_MOST];
    private final int[] row = new int[TUNE_MOST + 1];

    public TownTune() {
    }

    public int feed(int a, int b, int c, int d, int e) {
        if (tape.fed + FED_AT_ONCE > TEXT_MOST) {
            return NONE;
        }
        tape.addFour(a);
        tape.addFour(b);
        tape.addFour(c);
        tape.addFour(d);
        tape.addFour(e);
        return tape.fed;
    }

    public int town(int n) throws IllegalArgumentException {
        if (n < 0 || n > tape.fed) {
            throw new IllegalArgumentException("the tape has not so many bytes");
        }
        tape.fed = 0;
        int reason = reader.read(n);
        if (reason != 0) {
            status[TEXTS_REFUSED]++;
            return reason;
        }
        Town earlier = told;
        told = reader.town;
        reader.town = earlier;
        now.begin(told);
        acts.size = 0;
        heard.size = 0;
        kept.isThere = false;
        return 0;
    }

    public int fault() {
        return reader.faultPlace;
    }

    public int count(int what) throws NoSuchElementException {
        switch (what) {
            case 0: return told.people;
            case 1: return now.feuds.size;
            case 2: return now.key;
            case 3: return now.year;
            case 4: return now.length;
            case 5: return told.otherLength;
            case 6: return now.rests();
            case 7: return now.away;
            case 8: return now.dead;
            case 9: return now.married;
            case 10: return acts.size;
            case 11: return heard.size;
            case 12: return tape.fed;
            case 13: return status[TEXTS_REFUSED];
            case 14: return status[ACTS_REFUSED];
            case 15: return status[HEARD_REFUSED];
            default: throw new NoSuchElementException("no such count");
        }
    }

    public int person(int person, int what) throws NoSuchElementException {
        needPerson(person);
        switch (what) {
            case 0: return told.kind[person];
            case 1: return now.house[person];
            case 2: return told.birthday[person];
            case 3: return told.base[person];
            case 4: return now.sung[person];
            case 5: return told.rank(person);
            case 6: return now.feuds.of(person);
            default: throw new NoSuchElementException("nothing such is told of a person");
        }
    }

    private boolean isPerson(int person) {
        return person >= 0 && person < told.people;
    }

    private void needPerson(int person) {
        if (!isPerson(person)) {
            throw new NoSuchElementException("no such person");
        }
    }

    private static void needWhat(int what, int most) {
        if (what < 0 || what > most) {
            throw new NoSuchElementException("nothing such is answered");
        }
    }

    public int feud(int feud, int what) throws NoSuchElementException {
        needWhat(what, 1);
        if (!now.feuds.has(feud)) {
            throw new NoSuchElementException("no such feud");
        }
        return what == 0 ? now.feuds.first[feud] : now.feuds.second[feud];
    }

    public int sign(int place, int what) throws NoSuchElementException {
        needWhat(what, 2);
        if (place < 0 || place >= now.length) {
            throw new NoSuchElementException("no such place");
        }
        if (what == 0) {
            return now.signs[place];
        }
        return what == 1 ? now.whose[place] : now.sungIn[place];
    }

    public int other(int place) throws NoSuchElementException {
        if (place < 0 || place >= told.otherLength) {
            throw new NoSuchElementException("no such place");
        }
        return told.other[place];
    }

    private void refuseAct() {
        status[ACTS_REFUSED]++;
    }

    public int years(int many) {
        if (many < 1 || many > YEARS_MOST || now.year + many > LAST_YEAR) {
            refuseAct();
            return NONE;
        }
        acts.keep(YEARS_ACT, now.length, now.year, 0);
        for (int i = 0; i < many; i++) {
            now.passYear(told);
        }
        return now.year;
    }

    public boolean away(int person, boolean gone) throws NoSuchElementException {
        needPerson(person);
        if (isIn(now.dead, person) || isIn(now.away, person) == gone) {
            refuseAct();
            return false;
        }
        now.away ^= 1 << person;
        acts.keep(AWAY_ACT, person, 0, 0);
        return true;
    }

    public boolean dies(int person) throws NoSuchElementException {
        needPerson(person);
        if (isIn(now.dead, person)) {
            refuseAct();
            return false;
        }
        now.dead |= 1 << person;
        acts.keep(DEATH_ACT, person, 0, 0);
        return true;
    }

    private static boolean isIn(int bits, int person) {
        return (bits >> person & 1) != 0;
    }

    public int marry(int person, int other) throws NoSuchElementException {
        needPerson(person);
        needPerson(other);
        if (!now.mayMarry(person, other)) {
            refuseAct();
            return NONE;
        }
        acts.keep(MARRIAGE_ACT, person, other, now.house[other]);
        now.wed(person, other);
        return now.key;
    }

    public int quarrel(int person, int other) throws NoSuchElementException {
        needPerson(person);
        needPerson(other);
        Feuds feuds = now.feuds;
        if (person == other || feuds.between(person, other) || feuds.size >= FEUDS_MOST) {
            refuseAct();
            return NONE;
        }
        feuds.insert(feuds.size, person, other);
        acts.keep(QUARREL_ACT, 0, 0, 0);
        return feuds.size - 1;
    }

    public boolean peace(int feud) {
        Feuds feuds = now.feuds;
        if (!feuds.has(feud)) {
            refuseAct();
            return false;
        }
        acts.keep(PEACE_ACT, feud, feuds.first[feud], feuds.second[feud]);
        feuds.remove(feud);
        return true;
    }

    public int undo() {
        if (acts.size <= 0) {
            return NONE;
        }
        acts.size--;
        now.takeBack(acts, acts.size);
        return acts.size;
    }

    public int found(int phrase, int many, int what)
            throws NoSuchElementException, IllegalArgumentException {
        needWhat(what, 1);
        spell(phrase, many);
        if (what == 1) {
            return now.firstFrom(0, phraseSigns, many);
        }
        int places = 0;
        for (int place = 0; place < now.length; place++) {
            if (now.hasAt(place, phraseSigns, many)) {
                places++;
            }
        }
        return places;
    }

    private void spell(int phrase, int many) {
        if (many < 1 || many > PHRASE_MOST || phrase < 0) {
            throw new IllegalArgumentException("no phrase");
        }
        int left = phrase;
        for (int i = many - 1; i >= 0; i--) {
            phraseSigns[i] = left % SIGNS;
            left /= SIGNS;
        }
        if (left != 0) {
            throw new IllegalArgumentException("a phrase with more signs than told");
        }
    }

    public int again(int what) throws NoSuchElementException {
        needWhat(what, 1);
        int longest = 0;
        int where = NONE;
        // Row cell i: how many signs from i on are those from the place in hand on.
        for (int i = 0; i <= now.length; i++) {
            row[i] = 0;
        }
        for (int place = now.length - 1; place >= 0; place--) {
            int most = meetLater(place);
            if (most > 0 && most >= longest) {
                longest = most;
                where = place;
            }
        }
        return what == 0 ? longest : where;
    }

    /** Makes this place's row of the next place's one, and answers its greatest cell. */
    private int meetLater(int place) {
        int most = 0;
        int sign = now.signs[place];
        for (int later = place + 1; later < now.length; later++) {
            row[later] = now.signs[later] == sign ? row[later + 1] + 1 : 0;
            most = Math.max(most, row[later]);
        }
        return most;
    }

    public int tritones() {
        return now.risesFrom(0, TRITONE);
    }

    public int interval(int up) throws IllegalArgumentException {
        if (up < 0 || up >= OCTAVE) {
            throw new IllegalArgumentException("no such interval");
        }
        return now.risesFrom(0, up);
    }

    public int own(int person, int i) throws NoSuchElementException {
        needPerson(person);
        int left = i;
        for (int place = 0; place < now.length && left >= 0; place++) {
            if (now.whose[place] == person) {
                if (left == 0) {
                    return now.signs[place];
                }
                left--;
            }
        }
        throw new NoSuchElementException("this person has not so many signs");
    }

    public int breath(int what) throws NoSuchElementException {
        needWhat(what, 1);
        int longest = 0;
        int where = NONE;
        int begin = 0;
        for (int place = 0; place < now.length; place++) {
            if (now.signs[place] == REST) {
                begin = place + 1;
            } else if (place + 1 - begin > longest) {
                longest = place + 1 - begin;
                where = begin;
            }
        }
        return what == 0 ? longest : where;
    }

    public int palindrome() {
        int longest = 0;
        for (int middle = 0; middle < now.length; middle++) {
            longest = Math.max(longest, now.mirrored(middle, middle));
            longest = Math.max(longest, now.mirrored(middle, middle + 1));
        }
        return longest;
    }

    public int tonic() {
        int best = NONE;
        int most = 0;
        for (int note = 0; note < OCTAVE; note++) {
            int times = now.times(note, 0);
            if (times > most) {
                most = times;
                best = note;
            }
        }
        return best;
    }

    public int like(int what) throws NoSuchElementException {
        needWhat(what, 1);
        return what == 0 ? likeness.whole(told, now) : likeness.apart(told, now);
    }

    public int then(int place) throws IllegalArgumentException {
        if (place < 0 || place >= TUNE_MOST) {
            throw new IllegalArgumentException("no such place");
        }
        future.copyTune(now);
        future.copyRest(now);
        future.passYearsTo(told, place);
        return place < future.length ? future.signs[place] : NONE;
    }

    public int when(int phrase, int many) throws IllegalArgumentException {
        spell(phrase, many);
        future.copyTune(now);
        future.copyRest(now);
        int from = 0;
        for (int year = 0; year <= YEARS_MOST; year++) {
            if (future.firstFrom(from, phraseSigns, many) != NONE) {
                return year;
            }
            // What begins ahead of this place was whole already, and was looked at.
            from = Math.max(0, future.length + 1 - many);
            future.passYear(told);
        }
        return NONE;
    }

    public int quiet(int years) throws IllegalArgumentException {
        if (years < 1 || years > QUIET_MOST) {
            throw new IllegalArgumentException("not so many years");
        }
        int stay = now.away | now.dead;
        future.copyTune(now);
        for (int many = 0; many <= told.people; many++) {
            for (int gone = 0; gone < 1 << told.people; gone++) {
                boolean may = Integer.bitCount(gone) == many && (gone & stay) == 0;
                if (may && isQuiet(gone, years)) {
                    return gone;
                }
            }
        }
        return NONE;
    }

    private boolean isQuiet(int gone, int years) {
        future.copyRest(now);
        future.away |= gone;
        for (int i = 0; i < years; i++) {
            int from = future.length;
            future.passYear(told);
            if (future.risesFrom(from, TRITONE) != 0) {
                return false;
            }
        }
        return true;
    }

    public int match() {
        future.copyTune(now);
        likeness.keep(told, now);
        int best = NONE;
        int most = likeIfMarried(NONE, NONE);
        for (int person = 0; person < told.people; person++) {
            for (int other = 0; other < told.people; other++) {
                if (now.mayMarry(person, other)) {
                    int like = likeIfMarried(person, other);
                    if (like > most) {
                        most = like;
                        best = 10 * person + other;
                    }
                }
            }
        }
        return best;
    }

    private int likeIfMarried(int person, int other) {
        future.copyRest(now);
        if (isPerson(person) && isPerson(other)) {
            future.wed(person, other);
        }
        for (int i = 0; i < MATCH_YEARS; i++) {
            future.passYear(told);
        }
        return likeness.further(told, future, now.length);
    }

    public int hear(int place, int sign) {
        boolean is = place >= 0 && place < TUNE_MOST && sign >= 0 && sign < SIGNS;
        if (!is || heard.size >= HEARD_MOST) {
            status[HEARD_REFUSED]++;
            return NONE;
        }
        heard.add(place, sign);
        return heard.size;
    }

    public int spy(int what) throws NoSuchElementException {
        needWhat(what, 2);
        future.copyTune(now);
        if (what == 2) {
            return wouldBeHeard(NONE, 0) ? 1 : 0;
        }
        int many = 0;
        int first = NONE;
        for (int person = told.people - 1; person >= 0; person--) {
            if (wouldBeHeard(person, 0)) {
                many++;
                first = person;
            }
        }
        return what == 0 ? many : first;
    }

    /** Sings what is to come as far as what is heard and the place want it, with one turned. */
    private boolean wouldBeHeard(int turned, int place) {
        future.copyRest(now);
        if (isPerson(turned)) {
            future.lower ^= 1 << turned;
        }
        future.passYearsTo(told, Math.max(place, heard.furthest()));
        return heard.allIn(future);
    }

    public int listen(int what) throws NoSuchElementException {
        needWhat(what, 1);
        int end = Math.min(now.length + LISTEN_MOST, TUNE_MOST);
        for (int place = now.length; place < end; place++) {
            row[place] = 0;
        }
        future.copyTune(now);
        for (int person = 0; person < told.people; person++) {
            if (wouldBeHeard(person, end - 1)) {
                gatherSigns(end);
            }
        }
        int where = NONE;
        int most = 0;
        for (int place = now.length; place < end; place++) {
            int unlike = Integer.bitCount(row[place]);
            if (unlike > most) {
                most = unlike;
                where = place;
            }
        }
        return what == 0 ? where : most;
    }

    /** Adds the future's signs to the row, as bits, that above all signs for none. */
    private void gatherSigns(int end) {
        for (int place = now.length; place < end; place++) {
            row[place] |= 1 << (place < future.length ? future.signs[place] : SIGNS);
        }
    }

    public void forget() {
        heard.size = 0;
    }

    public int vote() {
        int voters = told.people - Integer.bitCount(now.dead);
        int from = Math.max(0, now.length - voters);
        int votes = 0;
        for (int person = 0; person < told.people; person++) {
            if (told.kind[person] == DEAF_KIND && !isIn(now.away | now.dead, person)) {
                int base = told.base[person];
                boolean is = now.times(base, from) > now.times((base + TRITONE) % OCTAVE, from);
                votes += is ? 1 : -1;
            }
        }
        return votes;
    }

    public int game(int house, int other, int what)
            throws NoSuchElementException, IllegalArgumentException {
        needWhat(what, 1);
        boolean are = house >= 0 && house < HOUSES && other >= 0 && other < HOUSES;
        if (!are || house == other) {
            throw new IllegalArgumentException("no two houses");
        }
        contest.gather(told, now, house, other);
        contest.tryAll(told, now, future);
        return what == 0 ? contest.resting() : contest.firstResting();
    }

    public int century(int seed, int n, int what)
            throws NoSuchElementException, IllegalArgumentException {
        needWhat(what, 2);
        if (n < 0 || n > YEARS_MOST) {
            throw new IllegalArgumentException("not so many years");
        }
        future.copyTune(now);
        future.copyRest(now);
        int drawn = seed;
        for (int i = 0; i < n; i++) {
            if (told.people > 0) {
                drawn = nextSeed(drawn);
                int person = draw(drawn, told.people);
                drawn = nextSeed(drawn);
                future.befall(person, draw(drawn, 5));
            }
            future.passYear(told);
        }
        if (what == 0) {
            return future.length;
        }
        return what == 1 ? future.rests() : likeness.whole(told, future);
    }

    private static int nextSeed(int seed) {
        return seed * 1103515245 + 12345;
    }

    private static int draw(int seed, int of) {
        return of > 0 ? (seed >>> 16 & 0x7fff) % of : 0;
    }

    public void image() {
        kept.isThere = true;
        kept.life.copyTune(now);
        kept.life.copyRest(now);
        kept.acts.copy(acts);
        kept.heard.copy(heard);
        System.arraycopy(status, 0, kept.status, 0, STATUS_MOST);
    }

    public boolean restore() {
        if (!kept.isThere) {
            return false;
        }
        now.copyTune(kept.life);
        now.copyRest(kept.life);
        acts.copy(kept.acts);
        heard.copy(kept.heard);
        System.arraycopy(kept.status, 0, status, 0, STATUS_MOST);
        return true;
    }

    /** The tape, and a text's tokens on it one at a time; its end is one too, at its length. */
    private static final class Tokens {
        private final byte[] text = new byte[TEXT_MOST];
        int fed = 0;
        private int length = 0;
        private int after = 0;
        int kind = END;
        int place = 0;
        int value = 0;
        int digits = 0;

        void addFour(int four) {
            for (int shift = 24; shift >= 0; shift -= 8) {
                if (fed < TEXT_MOST) {
                    text[fed] = (byte) (four >> shift);
                    fed++;
                }
            }
        }

        void begin(int bytes) {
            length = Math.min(bytes, TEXT_MOST);
            after = 0;
            next();
        }

        void next() {
            while (after < length && isBlank(text[after])) {
                after++;
            }
            place = after;
            if (after >= length) {
                kind = END;
            } else if (isLetter(text[after])) {
                passLetters();
                kind = wordKind();
            } else if (isDigit(text[after])) {
                readNumber();
            } else {
                kind = isSign(text[after]) ? text[after] : NO_TOKEN;
                after++;
            }
        }

        boolean isWord() {
            return kind >= UNKNOWN_WORD;
        }

        private static boolean isBlank(int sign) {
            return sign == ' ' || sign == '\n';
        }

        private static boolean isLetter(int sign) {
            return sign >= 'a' && sign <= 'z';
        }

        private static boolean isDigit(int sign) {
            return sign >= '0' && sign <= '9';
        }

        private static boolean isSign(int sign) {
            switch (sign) {
                case ';': case '(': case ')': case '+': case '-':
                case '*': case '/': case '<': case '=':
                    return true;
                default:
                    return false;
            }
        }

        private void readNumber() {
            kind = NUMBER;
            value = 0;
            digits = 0;
            while (after < length && isDigit(text[after])) {
                digits++;
                if (digits <= NUMBER_DIGITS) {
                    value = value * 10 + text[after] - '0';
                }
                after++;
            }
        }

        private void passLetters() {
            while (after < length && isLetter(text[after])) {
                after++;
            }
        }

        private int wordKind() {
            if (spells("elder")) { return ELDER; }
            if (spells("child")) { return CHILD; }
            if (spells("deaf")) { return DEAF; }
            if (spells("spy")) { return SPY; }
            if (spells("feud")) { return FEUD; }
            if (spells("other")) { return OTHER; }
            if (spells("sings")) { return SINGS; }
            if (spells("or")) { return OR; }
            if (spells("and")) { return AND; }
            if (spells("not")) { return NOT; }
            if (spells("key")) { return KEY; }
            if (spells("year")) { return YEAR; }
            if (spells("base")) { return BASE; }
            if (spells("last")) { return LAST; }
            if (spells("house")) { return HOUSE; }
            if (spells("kind")) { return KIND; }
            if (spells("sung")) { return SUNG; }
            return UNKNOWN_WORD;
        }

        private boolean spells(String word) {
            if (after - place != word.length()) {
                return false;
            }
            for (int i = 0; i < word.length(); i++) {
                if (text[place + i] != word.charAt(i)) {
                    return false;
                }
            }
            return true;
        }
    }

    /** Reads a text up to the first fault. */
    private static final class Reader {
        // A text with a fault must leave the town as it is, so it is read into another one.
        Town town = new Town();
        final Tokens tokens = new Tokens();
        private int reason = 0;
        int faultPlace = NONE;
        private boolean hasKey = false;
        private boolean hasOther = false;
        private boolean hasSings = false;
        // Operators whose right side is still being read, and open parentheses.
        // In each of seven expressions at most twelve wait: or, and, six nots, < + * and (.
        private final int[] open = new int[7 * 12];
        private int openSize = 0;
        private int nested = 0;

        int read(int bytes) {
            town.clear();
            reason = 0;
            faultPlace = NONE;
            hasKey = false;
            hasOther = false;
            hasSings = false;
            tokens.begin(bytes);
            for (int i = 0; i < TEXT_MOST && reason == 0 && tokens.kind != END; i++) {
                readLine();
            }
            town.sortByBirthdays();
            return reason;
        }

        /** Answers false, so that who reads on stops in the same statement. */
        private boolean refuse(int why) {
            reason = why;
            faultPlace = tokens.place;
            return false;
        }

        private boolean readLine() {
            int word = tokens.kind;
            if (word >= ELDER && word <= SPY) {
                return readPerson(word - ELDER) && readEnd();
            }
            switch (word) {
                case KEY: return readKey() && readEnd();
                case FEUD: return readFeud() && readEnd();
                case OTHER: return readOther() && readEnd();
                case SINGS: return readSings() && readEnd();
                default: return refuse(CANNOT_STAND);
            }
        }

        private boolean readEnd() {
            if (tokens.kind != ';') {
                return refuse(CANNOT_STAND);
            }
            tokens.next();
            return true;
        }

        private boolean isNumber(int least, int most) {
            if (tokens.kind != NUMBER) {
                return refuse(CANNOT_STAND);
            }
            if (tokens.digits > NUMBER_DIGITS || tokens.value < least || tokens.value > most) {
                return refuse(TOO_MUCH);
            }
            return true;
        }

        private boolean readPerson(int kind) {
            if (town.people >= PEOPLE_MOST) {
                return refuse(TOO_MUCH);
            }
            tokens.next();
            if (!isNumber(0, HOUSES - 1)) {
                return false;
            }
            int house = tokens.value;
            tokens.next();
            if (!isNumber(1, 365)) {
                return false;
            }
            int birthday = tokens.value;
            if (town.hasBirthday(birthday)) {
                return refuse(TAKEN);
            }
            tokens.next();
            if (!isNumber(0, OCTAVE - 1)) {
                return false;
            }
            town.add(kind, house, birthday, tokens.value);
            tokens.next();
            return true;
        }

        private boolean readKey() {
            if (hasKey) {
                return refuse(SECOND_ONE);
            }
            hasKey = true;
            tokens.next();
            if (!isNumber(0, OCTAVE - 1)) {
                return false;
            }
            town.key = tokens.value;
            tokens.next();
            return true;
        }

        private boolean isToldPerson() {
            if (!isNumber(0, NUMBER_MOST)) {
                return false;
            }
            return tokens.value < town.people || refuse(NOT_TOLD);
        }

        private boolean readFeud() {
            if (town.feuds.size >= FEUDS_MOST) {
                return refuse(TOO_MUCH);
            }
            tokens.next();
            if (!isToldPerson()) {
                return false;
            }
            int first = tokens.value;
            tokens.next();
            if (!isToldPerson()) {
                return false;
            }
            int second = tokens.value;
            if (first == second || town.feuds.between(first, second)) {
                return refuse(TAKEN);
            }
            town.feuds.insert(town.feuds.size, first, second);
            tokens.next();
            return true;
        }

        private boolean readOther() {
            if (hasOther) {
                return refuse(SECOND_ONE);
            }
            hasOther = true;
            tokens.next();
            for (int i = 0; i <= OTHER_MOST && (i == 0 || tokens.kind == NUMBER); i++) {
                if (!isNumber(0, SIGNS - 1)) {
                    return false;
                }
                if (i == OTHER_MOST) {
                    return refuse(TOO_MUCH);
                }
                town.other[i] = tokens.value;
                town.otherLength = i + 1;
                tokens.next();
            }
            return true;
        }

        private boolean readSings() {
            if (hasSings) {
                return refuse(SECOND_ONE);
            }
            hasSings = true;
            openSize = 0;
            nested = 0;
            boolean wanted = true;
            tokens.next();
            for (int i = 0; i < TEXT_MOST && (wanted || !isRuleEnd()); i++) {
                int kind = tokens.kind;
                if (!(wanted ? takePart() : takeOperator())) {
                    return false;
                }
                boolean isPart = kind == NUMBER || kind >= KEY || kind == ')';
                wanted = !isPart;
                tokens.next();
            }
            closeDownTo(0);
            return true;
        }

        private boolean isRuleEnd() {
            return nested == 0 && tokens.kind == ';';
        }

        private int lastOpen() {
            return openSize > 0 ? open[openSize - 1] : '(';
        }

        private void pushOpen(int operator) {
            if (openSize < open.length) {
                open[openSize] = operator;
                openSize++;
            }
        }

        /** Where a part must stand, or the 'not's and parentheses ahead of it. */
        private boolean takePart() {
            int kind = tokens.kind;
            if (kind != NUMBER && kind != '(' && !tokens.isWord()) {
                return refuse(CANNOT_STAND);
            }
            if (lastOpen() == '(' && nested > NESTED_MOST) {
                return refuse(TOO_MUCH);
            }
            if (kind == NUMBER) {
                return isNumber(0, NUMBER_MOST) && town.rule.put(tokens.value);
            }
            if (kind == '(') {
                nested++;
                pushOpen('(');
                return true;
            }
            if (kind == NOT && mayBeNot()) {
                return takeNot();
            }
            return kind >= KEY ? town.rule.put(-kind) : refuse(NOT_TOLD);
        }

        private boolean mayBeNot() {
            int ahead = lastOpen();
            return ahead == '(' || ahead == OR || ahead == AND || ahead == NOT;
        }

        private boolean takeNot() {
            int nots = 0;
            for (int i = openSize - 1; i >= 0 && open[i] == NOT; i--) {
                nots++;
            }
            if (nots >= NOTS_MOST) {
                return refuse(TOO_MUCH);
            }
            pushOpen(NOT);
            return true;
        }

        /** Behind a part: what binds it to the next one, or closes a parenthesis. */
        private boolean takeOperator() {
            int kind = tokens.kind;
            if (kind == ')' && nested > 0) {
                closeDownTo(0);
                nested--;
                openSize = Math.max(0, openSize - 1);
                return true;
            }
            int binds = binding(kind);
            if (binds == 0 || kind == NOT) {
                return refuse(CANNOT_STAND);
            }
            boolean isTest = kind == '<' || kind == '=';
            closeDownTo(isTest ? binds + 1 : binds);
            // A test is of two sums: it can't go on with a second one.
            if (isTest && (lastOpen() == '<' || lastOpen() == '=')) {
                return refuse(CANNOT_STAND);
            }
            pushOpen(kind);
            return true;
        }

        /** Puts down the open operators that bind at least so, back to a parenthesis. */
        private void closeDownTo(int binds) {
            while (openSize > 0 && open[openSize - 1] != '(' && binding(open[openSize - 1]) >= binds) {
                openSize--;
                town.rule.put(-open[openSize]);
            }
        }

        private static int binding(int operator) {
            switch (operator) {
                case OR: return 1;
                case AND: return 2;
                case NOT: return 3;
                case '<': case '=': return 4;
                case '+': case '-': return 5;
                case '*': case '/': return 6;
                default: return 0;
            }
        }
    }

    /** What people sing: numbers, and tokens below 0, each behind the values it works on. */
    private static final class Rule {
        private final int[] code = new int[TEXT_MOST];
        int size = 0;
        // Five left sides may wait in each of seven expressions, one within the other.
        private final int[] stack = new int[64];

        /** Answers true, so that it can end a statement of the reader's. */
        boolean put(int part) {
            if (size < code.length) {
                code[size] = part;
                size++;
            }
            return true;
        }

        int worth(Town town, Life life, int person) {
            int top = 0;
            for (int i = 0; i < size; i++) {
                int part = code[i];
                if (part >= 0 || -part >= KEY) {
                    if (top < stack.length) {
                        stack[top] = part >= 0 ? part : life.valueOf(-part, town, person);
                        top++;
                    }
                } else if (part == -NOT) {
                    if (top > 0) {
                        stack[top - 1] = stack[top - 1] == 0 ? 1 : 0;
                    }
                } else if (top > 1) {
                    top--;
                    stack[top - 1] = apply(-part, stack[top - 1], stack[top]);
                }
            }
            return top > 0 ? stack[0] : 0;
        }

        private static int apply(int operator, int left, int right) {
            switch (operator) {
                case OR: return left != 0 || right != 0 ? 1 : 0;
                case AND: return left != 0 && right != 0 ? 1 : 0;
                case '<': return left < right ? 1 : 0;
                case '=': return left == right ? 1 : 0;
                case '+': return left + right;
                case '-': return left - right;
                case '*': return left * right;
                default: return right == 0 ? 0 : left / right;
            }
        }
    }

    /** Feuds in the order of their numbers. */
    private static final class Feuds {
        final int[] first = new int[FEUDS_MOST];
        final int[] second = new int[FEUDS_MOST];
        int size = 0;

        boolean has(int feud) {
            return feud >= 0 && feud < size;
        }

        boolean between(int person, int other) {
            for (int i = 0; i < size; i++) {
                if (first[i] == person && second[i] == other) {
                    return true;
                }
                if (first[i] == other && second[i] == person) {
                    return true;
                }
            }
            return false;
        }

        int of(int person) {
            int many = 0;
            for (int i = 0; i < size; i++) {
                if (first[i] == person || second[i] == person) {
                    many++;
                }
            }
            return many;
        }

        void insert(int feud, int person, int other) {
            if (size >= FEUDS_MOST || feud < 0 || feud > size) {
                return;
            }
            for (int i = size; i > feud; i--) {
                first[i] = first[i - 1];
                second[i] = second[i - 1];
            }
            first[feud] = person;
            second[feud] = other;
            size++;
        }

        void remove(int feud) {
            if (!has(feud)) {
                return;
            }
            size--;
            for (int i = feud; i < size; i++) {
                first[i] = first[i + 1];
                second[i] = second[i + 1];
            }
        }

        void copy(Feuds from) {
            size = from.size;
            System.arraycopy(from.first, 0, first, 0, size);
            System.arraycopy(from.second, 0, second, 0, size);
        }
    }

    /** What a text tells: nothing of it changes but by another text. */
    private static final class Town {
        int people = 0;
        final int[] kind = new int[PEOPLE_MOST];
        final int[] house = new int[PEOPLE_MOST];
        final int[] birthday = new int[PEOPLE_MOST];
        final int[] base = new int[PEOPLE_MOST];
        final int[] byBirthday = new int[PEOPLE_MOST];
        int key = 0;
        final Feuds feuds = new Feuds();
        final int[] other = new int[OTHER_MOST];
        int otherLength = 0;
        final Rule rule = new Rule();

        void clear() {
            people = 0;
            key = 0;
            feuds.size = 0;
            otherLength = 0;
            rule.size = 0;
        }

        void add(int itsKind, int itsHouse, int itsBirthday, int itsBase) {
            if (people < PEOPLE_MOST) {
                kind[people] = itsKind;
                house[people] = itsHouse;
                birthday[people] = itsBirthday;
                base[people] = itsBase;
                people++;
            }
        }

        boolean hasBirthday(int day) {
            for (int i = 0; i < people; i++) {
                if (birthday[i] == day) {
                    return true;
                }
            }
            return false;
        }

        int rank(int person) {
            int ahead = 0;
            for (int i = 0; i < people; i++) {
                if (birthday[i] < birthday[person]) {
                    ahead++;
                }
            }
            return ahead;
        }

        void sortByBirthdays() {
            for (int person = 0; person < people; person++) {
                byBirthday[rank(person)] = person;
            }
        }
    }

    /** The tune, and all else that acts change or that one only supposes to be changed. */
    private static final class Life {
        final int[] signs = new int[TUNE_MOST];
        final int[] whose = new int[TUNE_MOST];
        final int[] sungIn = new int[TUNE_MOST];
        int length = 0;
        int year = 0;
        int key = 0;
        int away = 0;
        int dead = 0;
        int married = 0;
        // Who sings 1 less: those who are told as spies, but for suspicions.
        int lower = 0;
        // The latest note that is no rest.
        private int last = NONE;
        final int[] house = new int[PEOPLE_MOST];
        private final int[] base = new int[PEOPLE_MOST];
        final int[] sung = new int[PEOPLE_MOST];
        final Feuds feuds = new Feuds();

        void begin(Town town) {
            length = 0;
            year = 0;
            key = town.key;
            away = 0;
            dead = 0;
            married = 0;
            lower = 0;
            last = NONE;
            for (int person = 0; person < PEOPLE_MOST; person++) {
                house[person] = town.house[person];
                base[person] = town.base[person];
                sung[person] = 0;
                if (person < town.people && town.kind[person] == SPY_KIND) {
                    lower |= 1 << person;
                }
            }
            feuds.copy(town.feuds);
        }

        void copyTune(Life from) {
            System.arraycopy(from.signs, 0, signs, 0, from.length);
            System.arraycopy(from.whose, 0, whose, 0, from.length);
            System.arraycopy(from.sungIn, 0, sungIn, 0, from.length);
        }

        /** All but the tune's signs: while this one only adds to them, they need no second copy. */
        void copyRest(Life from) {
            length = from.length;
            year = from.year;
            key = from.key;
            away = from.away;
            dead = from.dead;
            married = from.married;
            lower = from.lower;
            last = from.last;
            System.arraycopy(from.house, 0, house, 0, PEOPLE_MOST);
            System.arraycopy(from.base, 0, base, 0, PEOPLE_MOST);
            System.arraycopy(from.sung, 0, sung, 0, PEOPLE_MOST);
            feuds.copy(from.feuds);
        }

        void passYear(Town town) {
            for (int i = 0; i < town.people && length < TUNE_MOST; i++) {
                int person = town.byBirthday[i];
                if (!isIn(dead, person)) {
                    add(person, nextSign(town, person));
                }
            }
            year++;
        }

        /** Lets years pass till the tune has this place, or as many as one may look ahead. */
        void passYearsTo(Town town, int place) {
            for (int i = 0; i < YEARS_MOST && length <= place; i++) {
                passYear(town);
            }
        }

        private void add(int person, int sign) {
            if (length < TUNE_MOST) {
                signs[length] = sign;
                whose[length] = person;
                sungIn[length] = year;
                length++;
                sung[person]++;
                last = sign == REST ? last : sign;
            }
        }

        private int nextSign(Town town, int person) {
            if (isIn(away, person)) {
                return REST;
            }
            if (length > 0) {
                int ahead = signs[length - 1];
                if (ahead != REST && feuds.between(person, whose[length - 1])) {
                    return (ahead + TRITONE) % OCTAVE;
                }
            }
            int note = base[person];
            if (town.kind[person] != DEAF_KIND) {
                note = town.rule.size == 0 ? note + key : town.rule.worth(town, this, person);
            }
            note = Math.floorMod(note, OCTAVE);
            if (town.kind[person] == CHILD_KIND) {
                note += FIFTH;
            }
            if (isIn(lower, person)) {
                note += OCTAVE - 1;
            }
            return note % OCTAVE;
        }

        /** What a word of the rule is worth to this person now. */
        int valueOf(int word, Town town, int person) {
            switch (word) {
                case KEY: return key;
                case YEAR: return year;
                case BASE: return base[person];
                case LAST: return last == NONE ? key : last;
                case HOUSE: return house[person];
                case KIND: return town.kind[person];
                case SUNG: return sung[person];
                default: return 0;
            }
        }

        boolean mayMarry(int person, int other) {
            int not = away | dead | married;
            return !isIn(not, person) && !isIn(not, other) && house[person] != house[other];
        }

        void wed(int person, int other) {
            key = (key + FIFTH) % OCTAVE;
            house[other] = house[person];
            married |= 1 << person | 1 << other;
        }

        private void part(int person, int other, int oldHouse) {
            key = (key + OCTAVE - FIFTH) % OCTAVE;
            house[other] = oldHouse;
            married &= ~(1 << person | 1 << other);
        }

        /** What a century brings to one. */
        void befall(int person, int fate) {
            if (isIn(dead, person)) {
                return;
            }
            switch (fate) {
                case 0:
                    away ^= 1 << person;
                    break;
                case 1:
                    dead |= 1 << person;
                    break;
                case 2:
                    base[person] = (base[person] + 1) % OCTAVE;
                    break;
                default:
                    break;
            }
        }

        void takeBack(Acts acts, int act) {
            int one = acts.one(act);
            int two = acts.two(act);
            switch (acts.kind(act)) {
                case YEARS_ACT:
                    cut(one, two);
                    break;
                case AWAY_ACT:
                    away ^= 1 << one;
                    break;
                case DEATH_ACT:
                    dead ^= 1 << one;
                    break;
                case MARRIAGE_ACT:
                    part(one, two, acts.three(act));
                    break;
                case QUARREL_ACT:
                    feuds.remove(feuds.size - 1);
                    break;
                case PEACE_ACT:
                    feuds.insert(one, two, acts.three(act));
                    break;
                default:
                    break;
            }
        }

        private void cut(int oldLength, int oldYear) {
            for (int place = length - 1; place >= oldLength; place--) {
                sung[whose[place]]--;
            }
            length = oldLength;
            year = oldYear;
            last = NONE;
            for (int place = length - 1; place >= 0 && last == NONE; place--) {
                last = signs[place] == REST ? NONE : signs[place];
            }
        }

        int rests() {
            return times(REST, 0);
        }

        int times(int sign, int from) {
            int many = 0;
            for (int place = from; place < length; place++) {
                if (signs[place] == sign) {
                    many++;
                }
            }
            return many;
        }

        /** At how many places, from one on, a note is so much above the note right ahead of it. */
        int risesFrom(int from, int up) {
            int many = 0;
            for (int place = Math.max(1, from); place < length; place++) {
                int ahead = signs[place - 1];
                if (ahead != REST && signs[place] != REST && (ahead + up) % OCTAVE == signs[place]) {
                    many++;
                }
            }
            return many;
        }

        boolean hasAt(int place, int[] phrase, int many) {
            if (place < 0 || many > phrase.length || place + many > length) {
                return false;
            }
            for (int i = 0; i < many; i++) {
                if (signs[place + i] != phrase[i]) {
                    return false;
                }
            }
            return true;
        }

        int firstFrom(int from, int[] phrase, int many) {
            for (int place = from; place < length; place++) {
                if (hasAt(place, phrase, many)) {
                    return place;
                }
            }
            return NONE;
        }

        /** How long the longest palindrome is whose middle, one sign or two, is this. */
        int mirrored(int left, int right) {
            int begin = left;
            int end = right;
            while (begin >= 0 && end < length && signs[begin] == signs[end]) {
                begin--;
                end++;
            }
            return end - begin - 1;
        }
    }

    /** The latest acts, each with what is needed to undo it. */
    private static final class Acts {
        private static final int CELLS = 4;
        private final int[] cells = new int[CELLS * ACTS_MOST];
        int size = 0;

        void keep(int kind, int one, int two, int three) {
            if (size >= ACTS_MOST) {
                System.arraycopy(cells, CELLS, cells, 0, CELLS * (ACTS_MOST - 1));
                size = ACTS_MOST - 1;
            }
            int at = CELLS * size;
            cells[at] = kind;
            cells[at + 1] = one;
            cells[at + 2] = two;
            cells[at + 3] = three;
            size++;
        }

        private int cell(int act, int which) {
            return act >= 0 && act < ACTS_MOST ? cells[CELLS * act + which] : 0;
        }

        int kind(int act) {
            return cell(act, 0);
        }

        int one(int act) {
            return cell(act, 1);
        }

        int two(int act) {
            return cell(act, 2);
        }

        int three(int act) {
            return cell(act, 3);
        }

        void copy(Acts from) {
            size = from.size;
            System.arraycopy(from.cells, 0, cells, 0, CELLS * size);
        }
    }

    /** What was heard of signs at places. */
    private static final class Heard {
        private final int[] places = new int[HEARD_MOST];
        private final int[] signs = new int[HEARD_MOST];
        int size = 0;

        void add(int place, int sign) {
            if (size < HEARD_MOST) {
                places[size] = place;
                signs[size] = sign;
                size++;
            }
        }

        int furthest() {
            int place = NONE;
            for (int i = 0; i < size; i++) {
                place = Math.max(place, places[i]);
            }
            return place;
        }

        boolean allIn(Life life) {
            for (int i = 0; i < size; i++) {
                if (places[i] >= life.length || life.signs[places[i]] != signs[i]) {
                    return false;
                }
            }
            return true;
        }

        void copy(Heard from) {
            size = from.size;
            System.arraycopy(from.places, 0, places, 0, size);
            System.arraycopy(from.signs, 0, signs, 0, size);
        }
    }

    /** All that an image keeps. */
    private static final class Image {
        boolean isThere = false;
        final Life life = new Life();
        final Acts acts = new Acts();
        final Heard heard = new Heard();
        final int[] status = new int[STATUS_MOST];
    }

    /** How like a tune and the next town's are. */
    private static final class Likeness {
        // Cell i: the answer for the tune so far and the other tune's first i signs.
        private final int[] row = new int[OTHER_MOST + 1];
        private final int[] keptRow = new int[OTHER_MOST + 1];

        int whole(Town town, Life life) {
            clear();
            takeFrom(0, town, life);
            return row[town.otherLength];
        }

        /** Keeps the row of a tune that others go on from. */
        void keep(Town town, Life life) {
            whole(town, life);
            System.arraycopy(row, 0, keptRow, 0, OTHER_MOST + 1);
        }

        int further(Town town, Life life, int from) {
            System.arraycopy(keptRow, 0, row, 0, OTHER_MOST + 1);
            takeFrom(from, town, life);
            return row[town.otherLength];
        }

        private void clear() {
            for (int i = 0; i <= OTHER_MOST; i++) {
                row[i] = 0;
            }
        }

        private void takeFrom(int from, Town town, Life life) {
            for (int place = from; place < life.length; place++) {
                int corner = 0;
                for (int i = 1; i <= town.otherLength; i++) {
                    int above = row[i];
                    boolean same = town.other[i - 1] == life.signs[place];
                    row[i] = same ? corner + 1 : Math.max(above, row[i - 1]);
                    corner = above;
                }
            }
        }

        int apart(Town town, Life life) {
            for (int i = 0; i <= OTHER_MOST; i++) {
                row[i] = i;
            }
            for (int place = Math.max(0, life.length - town.otherLength); place < life.length; place++) {
                int corner = row[0];
                row[0]++;
                for (int i = 1; i <= town.otherLength; i++) {
                    int above = row[i];
                    int changed = town.other[i - 1] == life.signs[place] ? corner : corner + 1;
                    row[i] = Math.min(changed, Math.min(above, row[i - 1]) + 1);
                    corner = above;
                }
            }
            return row[town.otherLength];
        }
    }

    /** Two houses, each of which sends one away for a year, or nobody. */
    private static final class Game {
        private static final int MOST = PEOPLE_MOST + 1;
        private final int[] sends = new int[MOST];
        private final int[] otherSends = new int[MOST];
        private int many = 0;
        private int otherMany = 0;
        private final int[] gains = new int[MOST * MOST];
        private final int[] otherGains = new int[MOST * MOST];

        void gather(Town town, Life now, int house, int otherHouse) {
            many = gatherOf(town, now, house, sends);
            otherMany = gatherOf(town, now, otherHouse, otherSends);
        }

        private static int gatherOf(Town town, Life now, int house, int[] into) {
            into[0] = NONE;
            int size = 1;
            for (int person = 0; person < town.people && size < MOST; person++) {
                if (now.house[person] == house && !isIn(now.away | now.dead, person)) {
                    into[size] = person;
                    size++;
                }
            }
            return size;
        }

        void tryAll(Town town, Life now, Life future) {
            future.copyTune(now);
            int fifth = (now.key + FIFTH) % OCTAVE;
            for (int i = 0; i < many; i++) {
                for (int j = 0; j < otherMany; j++) {
                    future.copyRest(now);
                    future.away |= bit(sends[i]) | bit(otherSends[j]);
                    future.passYear(town);
                    gains[MOST * i + j] = future.times(now.key, now.length)
                            + future.times(fifth, now.length);
                    otherGains[MOST * i + j] = future.risesFrom(now.length, TRITONE);
                }
            }
        }

        private static int bit(int person) {
            return person >= 0 ? 1 << person : 0;
        }

        private boolean isResting(int i, int j) {
            int gain = gains[MOST * i + j];
            for (int k = 0; k < many; k++) {
                if (gains[MOST * k + j] > gain) {
                    return false;
                }
            }
            int otherGain = otherGains[MOST * i + j];
            for (int k = 0; k < otherMany; k++) {
                if (otherGains[MOST * i + k] > otherGain) {
                    return false;
                }
            }
            return true;
        }

        int resting() {
            int couples = 0;
            for (int i = 0; i < many; i++) {
                for (int j = 0; j < otherMany; j++) {
                    if (isResting(i, j)) {
                        couples++;
                    }
                }
            }
            return couples;
        }

        int firstResting() {
            for (int i = 0; i < many; i++) {
                for (int j = 0; j < otherMany; j++) {
                    if (isResting(i, j)) {
                        return 10 * (sends[i] + 1) + otherSends[j] + 1;
                    }
                }
            }
            return NONE;
        }
    }
}
