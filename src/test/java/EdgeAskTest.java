import java.io.IOException;

/** The boundary cases of what is asked of THE TUNE, and of years to come: promises 17 to 29. */
final class EdgeAskTest extends Edge {
    private static final int[] THIRTEENS = {1, 13, 169, 2197, 28561, 371293, 4826809, 62748517};
    /** Sings 0, 1 .. 11, 0 .. */
    private static final String SCALE = "elder 0 1 0;sings year;";

    private EdgeAskTest() {
    }

    public static void main(String[] args) throws IOException {
        foundWhat();
        noPhrase();
        foundPlaces();
        againWhat();
        againPlaces();
        againLater();
        fullOfOneNote();
        tritones();
        intervals();
        own();
        breath();
        palindromes();
        tonic();
        likeWhat();
        like();
        apart();
        thenPlaces();
        twentyYearsOn();
        thenFull();
        whenNoPhrase();
        whenYears();
        whenAcrossYears();
        quietYears();
        quietFirstAndLast();
        quietWho();
        quietFull();
        matchMore();
        matchWho();
        matchYears();
        matchFirst();
        nothingChanges();
        end("EdgeAskTest", args);
    }

    private static void foundWhat() {
        says(17, "NoSuchElementException: another what. IllegalArgumentException (behind that): no PHRASE");
        TownTune x = song("505");
        due("0", 2, () -> x.found(5, 1, 0));
        due("1", 0, () -> x.found(5, 1, 1));
        for (int what : new int[] {MIN, -1, 2, MAX}) {
            stays("what " + what, x, NOTHING, NO_SUCH, () -> x.found(5, 1, what));
            due("what " + what + " of no PHRASE", NO_SUCH, () -> x.found(-1, 1, what));
            due("what " + what + " of none", NO_SUCH, () -> x.found(0, 0, what));
        }
    }

    private static void noPhrase() {
        says(17, "no PHRASE (not 1 to 7, a number below 0 or with more digits)");
        TownTune x = song("505");
        for (int what = 0; what < 2; what++) {
            int w = what;
            for (int many : new int[] {MIN, -1, 0, 8, 9, MAX}) {
                due("many " + many, ILLEGAL, () -> x.found(0, many, w));
            }
            for (int many = 1; many <= 7; many++) {
                int m = many;
                due("the greatest of " + m, w == 0 ? 0 : NONE, () -> x.found(THIRTEENS[m] - 1, m, w));
                due("one more of " + m, ILLEGAL, () -> x.found(THIRTEENS[m], m, w));
                due("the most of all of " + m, ILLEGAL, () -> x.found(MAX, m, w));
                due("below 0 of " + m, ILLEGAL, () -> x.found(-1, m, w));
                due("the least of " + m, ILLEGAL, () -> x.found(MIN, m, w));
            }
        }
        due("0 of 1 is a PHRASE", 1, () -> x.found(0, 1, 0));
        due("0 of 7 is one", 0, () -> x.found(0, 7, 0));
        stays("refused", x, NOTHING, ILLEGAL, () -> x.found(13, 1, 0));

        says(17, "PHRASES are 1 to 7 of THE TUNE's signs (0 to 12)");
        due("seven rests", 1, () -> song(".......").found(THIRTEENS[7] - 1, 7, 0));
        due("seven of eight rests", 2, () -> song("........").found(THIRTEENS[7] - 1, 7, 0));
        due("seven of six rests", 0, () -> song("......").found(THIRTEENS[7] - 1, 7, 0));
        due("seven zeros", 1, () -> song("0000000").found(0, 7, 0));
        says(17, "told as a number by thirteens (the first one the highest digit) and how many there are");
        due("zeros ahead count", 1, () -> song("05005").found(phrase("005"), 3, 0));
        due("the first is the highest digit", 1, () -> song("123").found(169 + 2 * 13 + 3, 3, 0));
        due("not the lowest", 0, () -> song("123").found(3 * 169 + 2 * 13 + 1, 3, 0));
    }

    private static void foundPlaces() {
        says(17, "FOUND: at how many places of THE TUNE a PHRASE begins; the first; none.");
        TownTune x = song("1212121");
        due("one over the other", 3, () -> x.found(phrase("121"), 3, 0));
        due("the first of them", 0, () -> x.found(phrase("121"), 3, 1));
        due("at the second place", 1, () -> x.found(phrase("21"), 2, 1));
        due("the whole tune", 1, () -> x.found(phrase("1212121"), 7, 0));
        due("its place", 0, () -> x.found(phrase("1212121"), 7, 1));
        due("a sign more than the end has", 0, () -> song("12").found(phrase("121"), 3, 0));
        due("a sign more, none", NONE, () -> song("12").found(phrase("121"), 3, 1));
        due("at the very end", 4, () -> song("00001").found(1, 1, 1));
        due("two at the very end", 3, () -> song("00012").found(phrase("12"), 2, 1));
        due("begun at the end", 0, () -> song("00012").found(phrase("20"), 2, 0));
        due("the last of 400", 399, () -> of("elder 0 1 0;sings year=399;", 400).found(1, 1, 1));
        due("begun at the last of 400", NONE, () -> of("elder 0 1 0;sings year=399;", 400).found(13, 2, 1));
        due("in an empty tune", 0, () -> of(SCALE).found(0, 1, 0));
        due("in an empty tune, none", NONE, () -> of(SCALE).found(0, 1, 1));
        due("400 places", 400, () -> of("deaf 0 1 5;", 400).found(5, 1, 0));
        due("394 places", 394, () -> of("deaf 0 1 5;", 400).found(phrase("5555555"), 7, 0));
    }

    private static void againWhat() {
        says(18, "AGAIN: how long (what 0; 0: nothing comes again), where (1; NONE). "
                + "NoSuchElementException: another what.");
        TownTune x = song("505");
        due("how long", 1, () -> x.again(0));
        due("where", 0, () -> x.again(1));
        for (int what : new int[] {MIN, -1, 2, MAX}) {
            stays("what " + what, x, NOTHING, NO_SUCH, () -> x.again(what));
        }
        again("", 0, NONE);
        again("5", 0, NONE);
        again("50", 0, NONE);
        again("0123456789ab.", 0, NONE);
        again("0123456789ab.0", 1, 0);
    }

    private static void again(String tune, int length, int where) {
        TownTune x = song(tune);
        due("how long in " + tune, length, () -> x.again(0));
        due("where in " + tune, where, () -> x.again(1));
    }

    private static void againPlaces() {
        says(18, "AGAIN: the longest row of signs that THE TUNE has at two places (they may lie one over the other)");
        again("55", 1, 0);
        again("555", 2, 0);
        again("5555", 3, 0);
        again("1212", 2, 0);
        again("12121", 3, 0);
        again("121212", 4, 0);
        again("0121213", 3, 1);
        again("12312", 2, 0);
        again("123123", 3, 0);
        again("..", 1, 0);
        again("1.1.", 2, 0);
        again("4.1.1", 2, 1);

        says(18, "where it begins first (of like ones)");
        again("0110", 1, 0);
        again("1001", 1, 0);
        again("3405612712", 2, 5);
        again("1203451267348", 2, 0);
        again("3401251263478", 2, 0);
        again("9123812371236", 3, 1);
        again("7112113", 2, 1);
    }

    private static void againLater() {
        says(18, "0: nothing comes again");
        TownTune x = of("deaf 0 1 5;", 80);
        due("79 of 80", 79, () -> x.again(0));
        for (int i = 0; i < 4; i++) {
            x.undo();
        }
        due("all is undone", 0, () -> x.again(0));
        x.years(1);
        due("one sign", 0, () -> x.again(0));
        x.years(1);
        due("two signs", 1, () -> x.again(0));
        x.listen(0);
        due("two signs behind what was listened for", 1, () -> x.again(0));
    }

    private static void fullOfOneNote() {
        says(18, "they may lie one over the other");
        TownTune x = of("deaf 0 1 5;", 400);
        due("399 of 400", 399, () -> x.again(0));
        due("at 0", 0, () -> x.again(1));
        says(23, "A PALINDROME: how long the longest one is.");
        due("all 400", 400, x::palindrome);
        says(22, "The longest row of signs of THE TUNE without a REST: how long (what 0)");
        due("all 400", 400, () -> x.breath(0));
        due("from 0 on", 0, () -> x.breath(1));
        says(20, "At how many places of THE TUNE a NOTE is so much (0 to 11, MOD 12) above the sign ahead");
        due("399 of 400", 399, () -> x.interval(0));
        says(19, "TRITONES: how many.");
        due("none", 0, x::tritones);
        TownTune six = of("deaf 0 1 5;deaf 0 2 11;", 200);
        due("399 of 400", 399, six::tritones);
    }

    private static void tritones(String tune, int many) {
        TownTune x = song(tune);
        due(tune, many, x::tritones);
    }

    private static void tritones() {
        says(19, "TRITONES: places at which a NOTE is 6 from the one ahead (no RESTS between; both NOTES).");
        tritones("", 0);
        tritones("6", 0);
        for (int note = 0; note < 12; note++) {
            char[] digits = "0123456789ab".toCharArray();
            for (int next = 0; next < 12; next++) {
                boolean is = next == (note + 6) % 12;
                tritones("" + digits[note] + digits[next], is ? 1 : 0);
            }
        }
        tritones("060", 2);
        tritones("0606", 3);
        tritones("0660", 2);
        tritones("0.6", 0);
        tritones("0..6", 0);
        tritones("6.", 0);
        tritones(".6", 0);
        tritones(".6.", 0);
        tritones("..", 0);
        tritones(".06.", 1);
        tritones("506", 1);
    }

    private static void intervals() {
        says(20, "IllegalArgumentException: another number.");
        TownTune x = song("506b0");
        for (int up : new int[] {MIN, -12, -6, -1, 12, 13, MAX}) {
            stays("up " + up, x, NOTHING, ILLEGAL, () -> x.interval(up));
        }

        says(20, "At how many places of THE TUNE a NOTE is so much (0 to 11, MOD 12) above the sign ahead, "
                + "that is a NOTE.");
        char[] digits = "0123456789ab".toCharArray();
        for (int note : new int[] {0, 5, 11}) {
            for (int up = 0; up < 12; up++) {
                int u = up;
                TownTune two = song("" + digits[note] + digits[(note + up) % 12]);
                due("up " + u + " from " + note, 1, () -> two.interval(u));
                due("not up " + (u + 1) % 12, 0, () -> two.interval((u + 1) % 12));
            }
        }
        for (String rests : new String[] {"", "5", "6.", ".6", "0.", ".0", "..", "0.0", "0.6"}) {
            TownTune y = song(rests);
            for (int up = 0; up < 12; up++) {
                int u = up;
                due("up " + u + " in " + rests, 0, () -> y.interval(u));
            }
        }
    }

    private static void own() {
        says(21, "The i-th sign of a PERSON in THE TUNE (0 on). NoSuchElementException: also there is none.");
        TownTune x = of("elder 0 1 0;child 0 2 0;sings year;");
        due("an empty tune", NO_SUCH, () -> x.own(0, 0));
        x.years(2);
        x.away(0, true);
        x.years(1);
        due("the first", 0, () -> x.own(0, 0));
        due("the second", 1, () -> x.own(0, 1));
        due("the last, a rest", 12, () -> x.own(0, 2));
        due("the other one's first", 7, () -> x.own(1, 0));
        due("the other one's last", 9, () -> x.own(1, 2));
        for (int i : new int[] {MIN, -1, 3, 4, MAX}) {
            stays("i " + i, x, NOTHING, NO_SUCH, () -> x.own(1, i));
        }
        TownTune dead = of("elder 0 1 0;elder 0 2 0;");
        dead.dies(1);
        dead.years(1);
        due("who never sang", NO_SUCH, () -> dead.own(1, 0));
        TownTune full = of("elder 0 1 0;sings year;", 400);
        due("the 400th", 3, () -> full.own(0, 399));
        due("no 401st", NO_SUCH, () -> full.own(0, 400));
    }

    private static void breath(String tune, int length, int where) {
        TownTune x = song(tune);
        due("how long in " + tune, length, () -> x.breath(0));
        due("where in " + tune, where, () -> x.breath(1));
    }

    private static void breath() {
        says(22, "how long (what 0), where it begins first (1; NONE: none). NoSuchElementException: another what.");
        TownTune x = song("505");
        for (int what : new int[] {MIN, -1, 2, MAX}) {
            stays("what " + what, x, NOTHING, NO_SUCH, () -> x.breath(what));
        }
        breath("", 0, NONE);
        breath(".", 0, NONE);
        breath("..", 0, NONE);
        breath("5", 1, 0);
        breath(".5", 1, 1);
        breath("5.", 1, 0);
        breath("5.5", 1, 0);
        breath("5.56", 2, 2);
        breath("56.5", 2, 0);
        breath("56.56", 2, 0);
        breath(".56..567.56", 3, 5);
        breath("0..0", 1, 0);
    }

    private static void palindromes() {
        says(23, "A PALINDROME (0: THE TUNE is empty).");
        String[] tunes = {"", "5", ".", "56", "55", "..", "565", "566", "5665", "5666", "56765", "567765", "567865",
            "1232", "2321", "12.21", ".5.", "0120", "11211", "1121"};
        int[] longest = {0, 1, 1, 1, 2, 2, 3, 2, 4, 3, 5, 6, 1, 3, 3, 5, 3, 1, 5, 3};
        for (int i = 0; i < tunes.length; i++) {
            TownTune x = song(tunes[i]);
            due("in " + tunes[i], longest[i], x::palindrome);
        }
        due("of a full tune of two", 399, of("elder 0 1 1;elder 0 2 2;", 200)::palindrome);
    }

    private static void tonic() {
        says(24, "THE TONIC; NONE: no NOTES.");
        String[] tunes = {"", ".", "...", "0", "b", "..5", "...55", "50", "05", "550", "0bb", "0b", "b0", "010b", "aab"};
        int[] notes = {NONE, NONE, NONE, 0, 11, 5, 5, 0, 0, 5, 11, 0, 0, 0, 10};
        for (int i = 0; i < tunes.length; i++) {
            TownTune x = song(tunes[i]);
            due("in " + tunes[i], notes[i], x::tonic);
        }
        says(24, "THE TONIC: the NOTE that is sung most (of like ones the least); none.");
        due("two like", 3, song("7373")::tonic);
        due("two like, behind one that is less", 3, song("07373")::tonic);
        due("one more", 7, song("73737")::tonic);
    }

    private static void likeWhat() {
        says(25, "LIKE (what 0), APART (1). NoSuchElementException: another what.");
        TownTune x = song("123", "other 1 3;");
        due("like", 2, () -> x.like(0));
        due("apart", 1, () -> x.like(1));
        due("apart again", 1, () -> x.like(1));
        due("like behind that", 2, () -> x.like(0));
        for (int what : new int[] {MIN, -1, 2, MAX}) {
            stays("what " + what, x, NOTHING, NO_SUCH, () -> x.like(what));
        }
    }

    private static void like() {
        says(25, "the longest row of signs which both THE TUNE and THE OTHER TUNE have in this order "
                + "(others may be between): how long.");
        due("both empty", 0, () -> of(SCALE).like(0));
        due("no tune", 0, () -> of(SCALE + "other 1 2;").like(0));
        due("no other tune", 0, () -> of(SCALE, 5).like(0));
        due("none in common", 0, () -> song("111", "other 2 3;").like(0));
        due("one", 1, () -> song("1", "other 1;").like(0));
        due("not in this order", 1, () -> song("12", "other 2 1;").like(0));
        due("in this order", 2, () -> song("12", "other 1 2;").like(0));
        due("others between in the tune", 2, () -> song("1332", "other 1 2;").like(0));
        due("others between in the other", 2, () -> song("12", "other 1 3 3 2;").like(0));
        due("a sign counts once", 1, () -> song("1", "other 1 1 1;").like(0));
        due("a sign of the other counts once", 1, () -> song("111", "other 1;").like(0));
        due("rests too", 2, () -> song(".1.", "other 12 12;").like(0));
        String all = "other" + " 7".repeat(24) + ";";
        due("23 of 24", 23, () -> of("deaf 0 1 7;" + all, 23).like(0));
        due("24 of 24", 24, () -> of("deaf 0 1 7;" + all, 24).like(0));
        due("24 of more", 24, () -> of("deaf 0 1 7;" + all, 25).like(0));
        due("in 400", 24, () -> of("deaf 0 1 7;" + all, 400).like(0));
        TownTune less = of("deaf 0 1 7;" + all, 24);
        due("24", 24, () -> less.like(0));
        less.undo();
        due("20, when four are undone", 20, () -> less.like(0));
        less.undo();
        due("0, when all is undone", 0, () -> less.like(0));
        due("from the first to the 400th", 3,
                () -> of("elder 0 1 0;sings (year=0)+2*(year=399);other 1 0 2;", 400).like(0));
    }

    private static void apart() {
        says(25, "the last signs of THE TUNE (as many as THE OTHER TUNE has, or all, if there are fewer)");
        due("none of either", 0, () -> of(SCALE).like(1));
        due("no other tune", 0, () -> of(SCALE, 5).like(1));
        due("no tune", 3, () -> of(SCALE + "other 1 2 3;").like(1));
        due("no tune of 24", 24, () -> of(SCALE + "other" + " 1".repeat(24) + ";").like(1));
        due("one fewer", 1, () -> song("12", "other 1 2 3;").like(1));
        due("as many", 0, () -> song("123", "other 1 2 3;").like(1));
        due("one more", 2, () -> song("1234", "other 1 2 3;").like(1));
        due("one more ahead", 0, () -> song("4123", "other 1 2 3;").like(1));
        due("many more ahead", 0, () -> of(SCALE + "other 1 2 3;", 16).like(1));
        due("a year later", 2, () -> of(SCALE + "other 1 2 3;", 17).like(1));
        due("24 of 400", 24, () -> of("deaf 0 1 7;other" + " 6".repeat(24) + ";", 400).like(1));

        says(25, "APART: the fewest signs that must be lost, come in, or be others");
        due("be another", 1, () -> song("143", "other 1 2 3;").like(1));
        due("come in ahead", 1, () -> song("23", "other 1 2 3;").like(1));
        due("come in between", 1, () -> song("13", "other 1 2 3;").like(1));
        due("come in ahead, lost at the end", 2, () -> song("234", "other 1 2 3;").like(1));
        due("lost ahead, come in at the end", 2, () -> song("412", "other 1 2 3;").like(1));
        due("all others", 3, () -> song("456", "other 1 2 3;").like(1));
        due("rests are signs", 1, () -> song("1.3", "other 1 2 3;").like(1));
        due("a rest is a rest", 0, () -> song("1.3", "other 1 12 3;").like(1));
    }

    private static void thenPlaces() {
        says(26, "THEN; NONE: none. IllegalArgumentException: not 0 to 399.");
        TownTune x = of(SCALE, 3);
        for (int place : new int[] {MIN, -2, -1, 400, 401, MAX}) {
            stays("place " + place, x, NOTHING, ILLEGAL, () -> x.then(place));
        }
        stays("place 0", x, NOTHING, 0, () -> x.then(0));
        stays("place 399", x, NOTHING, NONE, () -> x.then(399));
        due("the last that is sung", 2, () -> x.then(2));
        due("the first to come", 3, () -> x.then(3));
        TownTune foes = of("deaf 0 1 1;deaf 0 2 2;deaf 0 3 3;feud 0 2;", 1);
        due("the first to come behind a foe's", 9, () -> foes.then(3));
    }

    private static void twentyYearsOn() {
        says(26, "as far as 20 YEARS lead");
        TownTune x = of(SCALE);
        due("the 19th", 6, () -> x.then(18));
        due("the 20th", 7, () -> x.then(19));
        due("no 21st", NONE, () -> x.then(20));
        TownTune later = of(SCALE, 5);
        due("the 20th from now", 0, () -> later.then(24));
        due("no 21st from now", NONE, () -> later.then(25));
        TownTune eight = of(elders(8));
        due("the last one's in 20 years", 0, () -> eight.then(159));
        due("no more", NONE, () -> eight.then(160));
        eight.dies(0);
        due("seven's", 0, () -> eight.then(139));
        due("no more of seven", NONE, () -> eight.then(140));
        TownTune dead = of("elder 0 1 0;", 2);
        dead.dies(0);
        due("sung already", 0, () -> dead.then(1));
        due("the dead sing no more", NONE, () -> dead.then(2));
    }

    private static void thenFull() {
        says(26, "the sign that THE TUNE will have at a place (0 to 399; as far as 20 YEARS lead); none.");
        String seven = elders(6) + "deaf 0 7 9;";
        TownTune before = of(seven, 37);
        due("259 signs and 20 years: the 399th", 9, () -> before.then(398));
        due("no 400th", NONE, () -> before.then(399));
        TownTune behind = of(seven, 38);
        due("266 signs: the 399th", 9, () -> behind.then(398));
        due("266 signs: the 400th", 0, () -> behind.then(399));
        TownTune full = of(SCALE, 400);
        due("a full tune's last", 3, () -> full.then(399));
        TownTune nearly = of(SCALE, 399);
        due("the one that is missing", 3, () -> nearly.then(399));
        TownTune end = of(SCALE, 999);
        due("in the year 999", 3, () -> end.then(399));
    }

    private static void whenNoPhrase() {
        says(27, "WHEN; NONE: none. IllegalArgumentException: no PHRASE.");
        TownTune x = of(SCALE, 3);
        for (int many : new int[] {MIN, -1, 0, 8, MAX}) {
            due("many " + many, ILLEGAL, () -> x.when(0, many));
        }
        for (int many = 1; many <= 7; many++) {
            int m = many;
            due("the greatest of " + m, NONE, () -> x.when(THIRTEENS[m] - 1, m));
            due("one more of " + m, ILLEGAL, () -> x.when(THIRTEENS[m], m));
            due("below 0 of " + m, ILLEGAL, () -> x.when(-1, m));
            due("the least of " + m, ILLEGAL, () -> x.when(MIN, m));
            due("the most of all of " + m, ILLEGAL, () -> x.when(MAX, m));
        }
        stays("refused", x, NOTHING, ILLEGAL, () -> x.when(13, 1));
        stays("none", x, NOTHING, NONE, () -> x.when(12, 1));
    }

    private static void whenYears() {
        says(27, "WHEN a PHRASE is FOUND first at the end of a YEAR: in how many YEARS (0 to 20); none.");
        for (int year : new int[] {0, 1, 18, 19}) {
            due("sung in the year " + year, year + 1, () -> of("elder 0 1 0;sings year=" + year + ";").when(1, 1));
            due("asked a year later", year, () -> of("elder 0 1 0;sings year=" + year + ";", 1).when(1, 1));
        }
        due("sung in the year 20", NONE, () -> of("elder 0 1 0;sings year=20;").when(1, 1));
        due("sung in the year 20, asked a year later", 20, () -> of("elder 0 1 0;sings year=20;", 1).when(1, 1));
        due("sung in the year 21, asked a year later", NONE, () -> of("elder 0 1 0;sings year=21;", 1).when(1, 1));
        due("an empty tune, nobody", NONE, () -> new TownTune().when(0, 1));
        due("sung long ago", 0, () -> of("elder 0 1 0;sings year=0;", 300).when(1, 1));
        due("a full tune", NONE, () -> of("elder 0 1 0;sings year=400;", 400).when(1, 1));
        due("the 400th sign", 1, () -> of("elder 0 1 0;sings year=399;", 399).when(1, 1));
        due("the 401st sign", NONE, () -> of("elder 0 1 0;sings year=400;", 399).when(1, 1));
    }

    private static void whenAcrossYears() {
        says(27, "is FOUND first at the end of a YEAR");
        int seven = phrase("0123456");
        for (int sung = 0; sung <= 8; sung++) {
            int s = sung;
            due("of seven, sung " + s, Math.max(0, 7 - s), () -> of(SCALE, s).when(seven, 7));
        }
        TownTune two = of("deaf 0 1 1;deaf 0 2 2;");
        due("within the first year", 1, () -> two.when(phrase("12"), 2));
        due("across two", 2, () -> two.when(phrase("21"), 2));
        due("across three", 3, () -> two.when(phrase("2121"), 4));
        due("seven of them", 4, () -> two.when(phrase("1212121"), 7));
        due("seven others", 4, () -> two.when(phrase("2121212"), 7));
        two.years(1);
        due("a year later", 0, () -> two.when(phrase("12"), 2));
        due("its first sign is sung", 1, () -> two.when(phrase("21"), 2));
    }

    private static void quietYears() {
        says(28, "QUIET, as bits; NONE: none. IllegalArgumentException: not 1 to 10.");
        TownTune x = of("deaf 0 1 0;deaf 0 2 6;");
        for (int years : new int[] {MIN, -1, 0, 11, 12, MAX}) {
            stays("years " + years, x, NOTHING, ILLEGAL, () -> x.quiet(years));
        }
        for (int years = 1; years <= 10; years++) {
            int y = years;
            due("years " + y, 1, () -> x.quiet(y));
        }
        due("nobody", 0, () -> new TownTune().quiet(10));
    }

    private static void quietFirstAndLast() {
        says(28, "so that in so many YEARS (1 to 10) no TRITONE more is sung");
        for (int year = 1; year <= 9; year++) {
            TownTune x = of("elder 0 1 0;sings (year=" + year + ")*6;");
            int y = year;
            due("sung in the year " + y + ", asked for so many", 0, () -> x.quiet(y));
            due("asked for one more", 1, () -> x.quiet(y + 1));
        }
        TownTune tenth = of("elder 0 1 0;sings (year=10)*6;");
        due("sung in the year 10", 0, () -> tenth.quiet(10));

        says(28, "(one also counts, if its NOTE ahead is in THE TUNE now)");
        TownTune now = of("elder 0 1 0;sings (0<year)*6;", 1);
        due("0, and 6 next", 1, () -> now.quiet(1));
        now.years(1);
        due("0 6, and 6 next: what is sung doesn't count", 0, () -> now.quiet(10));
        due("though it is one", 1, now::tritones);
        TownTune rest = of("elder 0 1 0;sings (0<year)*6;", 1);
        rest.away(0, true);
        rest.years(1);
        rest.away(0, false);
        due("a rest is ahead", 0, () -> rest.quiet(1));
        due("an empty tune", 0, () -> of("elder 0 1 0;sings 6;").quiet(10));
    }

    private static void quietWho() {
        says(28, "the fewest of PEOPLE (not DEAD, not AWAY) who must be AWAY from now on");
        // Each sings 6 more than the note ahead, so no two may sing side by side.
        TownTune all = of(elders(8) + "sings last+6;");
        due("every other one", 85, () -> all.quiet(1));
        due("also around the year", 85, () -> all.quiet(2));
        due("seven, and around the year", 43, () -> of(elders(7) + "sings last+6;").quiet(2));
        due("seven in one year", 42, () -> of(elders(7) + "sings last+6;").quiet(1));
        due("one in two years", 1, () -> of("elder 0 1 0;sings last+6;").quiet(2));
        TownTune gone = of("deaf 0 1 0;deaf 0 2 6;deaf 0 3 0;");
        due("the one in the middle", 2, () -> gone.quiet(3));
        gone.away(1, true);
        due("who is away already", 0, () -> gone.quiet(3));
        gone.away(1, false);
        gone.dies(1);
        due("the dead", 0, () -> gone.quiet(3));

        says(28, "of as few the least as bits");
        due("either of two", 1, () -> of("deaf 0 1 0;deaf 0 2 6;").quiet(1));
        due("by number, not by birthday", 1, () -> of("deaf 0 2 0;deaf 0 1 6;").quiet(1));
        due("the fewest first", 4, () -> of("deaf 0 1 0;deaf 0 3 0;deaf 0 2 6;").quiet(2));
        due("the eighth", 128, () -> of("deaf 0 1 0;deaf 0 3 0;deaf 0 4 1;deaf 0 5 1;deaf 0 6 1;deaf 0 7 1;"
                + "deaf 0 8 1;deaf 0 2 6;").quiet(2));
    }

    private static void quietFull() {
        says(28, "no TRITONE more is sung");
        due("a full tune", 0, () -> of("deaf 0 1 0;deaf 0 2 6;", 200).quiet(10));
        due("two signs are missing", 1, () -> of("deaf 0 1 0;deaf 0 2 6;", 199).quiet(10));
        TownTune seven = of("deaf 0 1 0;deaf 0 2 6;deaf 0 3 1;deaf 0 4 1;deaf 0 5 1;deaf 0 6 1;deaf 0 7 1;", 57);
        due("one sign is missing", 0, () -> seven.quiet(10));
    }

    private static void matchMore() {
        says(29, "LIKE is most in 5 YEARS, if more than without");
        String two = "elder 0 1 0;elder 1 2 0;";
        due("more", 1, of(two + "other 7;")::match);
        due("as much", NONE, of(two + "other 5;")::match);
        due("as much, for it is in the tune already", NONE, of(two + "other 0;", 1)::match);
        due("less", NONE, of(two + "other 0;")::match);
        due("no other tune", NONE, of(two)::match);
        due("nobody", NONE, new TownTune()::match);
        due("one more of 24", 1, of(two + "other" + " 0".repeat(23) + " 7;", 12)::match);
        due("all 24 already, the last one a 7", NONE,
                of(two + "other" + " 0".repeat(23) + " 7;sings (year=12)*(7-key)+key;", 13)::match);
        due("one more of 24 either way", NONE,
                of(two + "other" + " 0".repeat(22) + " 5 7;sings (10<year)*(5+(key=7)*2);", 11)::match);
        due("all 24 already", NONE, of(two + "other" + " 0".repeat(24) + ";", 12)::match);
        due("a full tune", NONE, of(two + "other 7;", 200)::match);
        due("a sign is missing", 1, of("elder 0 2 0;elder 1 1 0;elder 0 3 0;other 7;", 133)::match);
    }

    private static void matchWho() {
        says(29, "10 by the one and the other; none");
        due("none", NONE, of("elder 0 1 0;other 7;")::match);
        due("0 and 1", 1, of("elder 0 1 0;elder 1 2 0;other 7;")::match);
        says(29, "of couples who may MARRY (each either way round)");
        String two = "elder 0 1 0;elder 1 2 0;other 7;";
        due("of one house", NONE, of("elder 1 1 0;elder 1 2 0;other 7;")::match);
        TownTune away = of(two);
        away.away(0, true);
        due("away", NONE, away::match);
        away.away(0, false);
        due("at home again", 1, away::match);
        TownTune dead = of(two + "elder 1 3 0;");
        dead.dies(0);
        due("dead", NONE, dead::match);
        TownTune married = of("elder 0 1 0;elder 1 2 0;other 2 2;");
        married.marry(0, 1);
        due("married", NONE, married::match);
        TownTune third = of("elder 0 1 0;elder 1 2 0;elder 2 3 0;other 2;");
        third.marry(0, 1);
        due("one is left, both others are married", NONE, third::match);
        TownTune fourth = of("elder 0 1 0;elder 1 2 0;elder 2 3 0;elder 3 4 0;other 2;");
        fourth.marry(0, 1);
        due("two are left", 23, fourth::match);
        due("the other way round", 10,
                of("elder 0 1 0;elder 1 2 0;other 1 1 1 1 1 1 1 1 1 1;sings house;")::match);
        due("the last one and the last but one", 76, of(elders(6)
                + "elder 0 7 5;elder 1 8 0;other 1 1 1;sings (house=1)*(base=5);")::match);
        due("the last but one and the last one", 67, of("elder 1 1 0;elder 1 2 0;elder 1 3 0;elder 1 4 0;"
                + "elder 1 5 0;elder 1 6 0;elder 2 7 0;elder 1 8 5;other 1;sings (house=2)*(base=5);")::match);
    }

    private static void matchYears() {
        says(29, "did they now, LIKE is most in 5 YEARS");
        String two = "elder 0 1 0;elder 1 2 0;other 7;sings key*(year=";
        for (int year = 0; year <= 4; year++) {
            due("in the year " + year, 1, of(two + year + ");")::match);
        }
        due("in the year 5", NONE, of(two + "5);")::match);
        due("in the year 7 from the year 3 on", 1, of(two + "7);", 3)::match);
        due("in the year 8 from the year 3 on", NONE, of(two + "8);", 3)::match);
        due("in the year 2, that is over", NONE, of(two + "2);", 3)::match);
        // 0 6 now; foes sing 0 6 on, whatever the KEY is.
        due("behind the foe who ends the tune", NONE, of("elder 0 1 0;elder 1 2 0;feud 0 1;other 7 1;", 1)::match);
        due("without a tune", 1, of("elder 0 1 0;elder 1 2 0;feud 0 1;other 7 1;")::match);
    }

    private static void matchFirst() {
        says(29, "the first by which, did they now, LIKE is most");
        String three = "elder 0 1 0;elder 1 2 0;elder 2 3 0;";
        due("all alike", 1, of(three + "other 7;")::match);
        due("the first two are of one house", 2, of("elder 0 1 0;elder 0 2 0;elder 2 3 0;other 7;")::match);
        due("a later one brings more", 12, of("elder 0 1 3;elder 1 2 0;elder 2 3 5;other 1 1 1;"
                + "sings (house=1)*((base=5)+(base=3)*(year=2));")::match);
        due("of three that bring as much", 10, of(three + "other 1 1 1 1 1 1 1 1 1 1;sings house=1;")::match);
        due("0 and 2 ahead of 1 and 0", 2, of("elder 0 1 0;elder 1 2 1;elder 2 3 2;other 5;"
                + "sings 5*((base=0)*(house=1)+(base=2)*(house=0));")::match);
        due("two bring as much", 20, of(three + "other 2 2 2 2 2 2 2 2 2 2;sings house;")::match);
    }

    private static void nothingChanges() {
        says(26, "(If only YEARS go by, from now on:)");
        TownTune x = of("elder 0 1 0;child 1 2 3;spy 2 3 9;feud 0 2;key 4;other 1 2 3;sings last+sung;", 4);
        x.away(1, true);
        stays("then", x, NOTHING, x.then(30), () -> x.then(30));
        stays("when", x, NOTHING, x.when(7, 1), () -> x.when(7, 1));
        stays("quiet", x, NOTHING, x.quiet(3), () -> x.quiet(3));
        stays("match", x, NOTHING, x.match(), x::match);
        due("a house", 1, () -> x.person(1, 1));
        due("signs of one", 4, () -> x.person(2, 4));
        String before = Check.tune(x);
        x.quiet(10);
        x.match();
        dueTune("the tune", before, x);
    }
}
