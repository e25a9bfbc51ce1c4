/** Each promise by cases worked out by hand: ordinary ones, the document's edges, wrong inputs. */
final class PromiseTest {
    private static final long NO_SUCH = Check.NO_SUCH;
    private static final long ILLEGAL = Check.ILLEGAL;
    private static final int NONE = TownTune.NONE;

    /** Sings 0 4 7 each year. */
    private static final String CHORD = "elder 0 10 0;elder 1 20 4;elder 2 30 7;";
    /** One who sings 0, 1, 2 .. 11, 0 .. */
    private static final String SCALE = "elder 0 1 0;sings year;";

    private PromiseTest() {
    }

    public static void main(String[] args) {
        newObject();
        feeding();
        faultsOfLines();
        faultsOfRules();
        whatTownChanges();
        counting();
        peopleAndFeuds();
        signsAndOther();
        singing();
        rules();
        yearsGoBy();
        comingAndGoing();
        marrying();
        quarrels();
        undoing();
        finding();
        repeating();
        tritonesAndIntervals();
        ownAndBreath();
        palindromes();
        likeness();
        thenAndWhen();
        quiet();
        match();
        hearingAndSpies();
        listening();
        voting();
        games();
        centuries();
        images();
        Check.end("PromiseTest");
    }

    private static void due(String what, long want, Check.Call call) {
        Check.due(what, want, call);
    }

    private static TownTune of(String text) {
        return Check.of(text);
    }

    private static TownTune of(String text, int years) {
        TownTune x = of(text);
        for (int left = years; left > 0; left -= 20) {
            x.years(Math.min(20, left));
        }
        return x;
    }

    private static void newObject() {
        TownTune x = new TownTune();
        for (int what = 0; what <= 15; what++) {
            int w = what;
            due("1 count " + w, 0, () -> x.count(w));
        }
        due("1 fault", NONE, x::fault);
        due("1 nobody", NO_SUCH, () -> x.person(0, 0));
        due("1 NONE", -1, () -> TownTune.NONE);
        due("1 years", 3, () -> x.years(3));
        due("1 an empty tune", 0, () -> x.count(4));
    }

    private static void feeding() {
        TownTune x = new TownTune();
        due("2 first", 20, () -> x.feed(0x6b657920, 0x353b2020, 0x20202020, 0x20202020, 0x20202020));
        due("2 second", 40, () -> x.feed(0x20202020, 0x20202020, 0x20202020, 0x20202020, 0x2020200a));
        due("2 on the tape", 40, () -> x.count(12));
        due("2 the highest byte first", 0, () -> x.town(40));
        due("2 told", 5, () -> x.count(2));
        for (int i = 1; i <= 30; i++) {
            int all = 20 * i;
            due("2 more", all, () -> x.feed(0x20202020, 0x20202020, 0x20202020, 0x20202020, 0x20202021));
        }
        due("2 too much", NONE, () -> x.feed(0, 0, 0, 0, 0));
        due("2 none came", 600, () -> x.count(12));
        due("2 the first twenty's last byte", 1, () -> x.town(600));
        due("2 its place", 19, x::fault);
        TownTune high = new TownTune();
        high.feed(-1, -1, -1, -1, -1);
        due("2 bytes of 255", 1, () -> high.town(20));
    }

    private static void fault(String text, int number, int place) {
        TownTune x = new TownTune();
        due("3 " + text, number, () -> Check.tell(x, text));
        due("4 " + text, place, x::fault);
        due("3 STATUS of " + text, number == 0 ? 0 : 1, () -> x.count(13));
        due("3 the tape behind " + text, 0, () -> x.count(12));
    }

    private static void faultsOfLines() {
        fault("", 0, NONE);
        fault(" \n ", 0, NONE);
        fault("x", 1, 0);
        fault(" \n;", 1, 2);
        fault("year 1;", 1, 0);
        fault("Key 1;", 1, 0);
        fault("key\t1;", 1, 3);
        fault("key 1;\377", 1, 6);
        fault("keys 1;", 1, 0);
        fault("\0", 1, 0);
        fault("key 1;\0key 1;", 1, 6);
        fault("key \1;", 1, 4);
        fault("key \2;", 1, 4);
        fault("key `;", 1, 4);
        fault("key {;", 1, 4);
        fault("key :;", 1, 4);
        fault("elder", 1, 5);
        fault("elder  ", 1, 7);
        fault("elder 0 1 0", 1, 11);
        fault("elder 0 1 0 0;", 1, 12);
        fault("elder 0 1;", 1, 9);
        fault("elder0\n1 0;child3 365 11 ;", 0, NONE);
        fault("elder 4 1 0;", 2, 6);
        fault("elder 0 0 0;", 2, 8);
        fault("elder 0 366 0;", 2, 8);
        fault("elder 0 1 12;", 2, 10);
        fault("elder 00000 1 0;", 2, 6);
        fault("elder 0000 0001 0000;", 0, NONE);
        fault("elder 0 1 0;child 1 1 2;", 4, 20);
        fault("elder 0 1 0;child 9 1 2;", 2, 18);
        fault("key 0;", 0, NONE);
        fault("key 11;", 0, NONE);
        fault("key 12;", 2, 4);
        fault("key x;", 1, 4);
        fault("key;", 1, 3);
        fault("key 1;key 2;", 5, 6);
        fault("key 1;key", 5, 6);
        fault("feud 0 1;", 3, 5);
        fault("feud 9999 1;", 3, 5);
        fault("feud 10000 1;", 2, 5);
        fault("feud x 1;", 1, 5);
        fault("elder 0 1 0;feud 0 1;", 3, 19);
        fault("elder 0 1 0;feud 0 0;", 4, 19);
        fault("elder 0 1 0;deaf 0 2 0;feud 0 1;", 0, NONE);
        fault("elder 0 1 0;deaf 0 2 0;feud 0 1;feud 0 1;", 4, 39);
        fault("elder 0 1 0;deaf 0 2 0;feud 0 1;feud 1 0;", 4, 39);
        fault("elder 0 1 0;deaf 0 2 0;feud 0 1;feud 1 2;", 3, 39);
        fault("other;", 1, 5);
        fault("other 0 12;", 0, NONE);
        fault("other 13;", 2, 6);
        fault("other 1 x;", 1, 8);
        fault("other 1;other 2;", 5, 8);
        fault("other" + " 1".repeat(24) + ";", 0, NONE);
        fault("other" + " 1".repeat(25) + ";", 2, 54);
        fault("other" + " 1".repeat(24) + " x;", 1, 54);
        StringBuilder people = new StringBuilder();
        for (int i = 1; i <= 8; i++) {
            people.append("spy 0 ").append(i).append(" 0;");
        }
        fault(people.toString(), 0, NONE);
        fault(people + "key 1;elder", 2, 86);
        String feuds = "feud 0 1;feud 0 2;feud 0 3;feud 0 4;feud 0 5;feud 0 6;";
        fault(people + feuds, 0, NONE);
        fault(people + feuds + "feud 0 7;", 2, 134);
        fault(people + feuds + "feud x", 2, 134);
    }

    private static void faultsOfRules() {
        fault("sings;", 1, 5);
        fault("sings", 1, 5);
        fault("sings 1", 1, 7);
        fault("sings 9999;", 0, NONE);
        fault("sings 10000;", 2, 6);
        fault("sings 1;sings 2;", 5, 8);
        fault("sings x;", 3, 6);
        fault("sings a;", 3, 6);
        fault("sings z;", 3, 6);
        fault("sings or;", 3, 6);
        fault("sings elder;", 3, 6);
        fault("sings 1 or;", 1, 10);
        fault("sings 1 or and 1;", 3, 11);
        fault("sings 1 x;", 1, 8);
        fault("sings 1 not 1;", 1, 8);
        fault("sings 1 2;", 1, 8);
        fault("sings 1 20000;", 1, 8);
        fault("sings -1;", 1, 6);
        fault("sings 1 + not 1;", 3, 10);
        fault("sings 1 < not 1;", 3, 10);
        fault("sings 1 and not 1 or not key;", 0, NONE);
        fault("sings 1 < 2 < 3;", 1, 12);
        fault("sings 1 < 2 = 3;", 1, 12);
        fault("sings 1 = 2 + 1 = 3;", 1, 16);
        fault("sings not 1 < 2 < 3;", 1, 16);
        fault("sings (1 < 2) < 3;", 0, NONE);
        fault("sings 1 < 2 and 3 = 4 or 5 < 6;", 0, NONE);
        fault("sings " + "not ".repeat(6) + "1;", 0, NONE);
        fault("sings " + "not ".repeat(7) + "1;", 2, 30);
        fault("sings " + "not ".repeat(6) + "(" + "not ".repeat(6) + "1);", 0, NONE);
        fault("sings " + "not ".repeat(6) + "1 and " + "not ".repeat(7) + "1;", 2, 60);
        fault("sings ((((( 1 )))));", 0, NONE);
        fault("sings (((((( 1 ))))));", 2, 13);
        fault("sings ((((((;", 1, 12);
        fault("sings ((((((", 1, 12);
        fault("sings (((((()", 1, 12);
        fault("sings ((((((x", 2, 12);
        fault("sings ((((((not", 2, 12);
        fault("sings ((((((12345", 2, 12);
        fault("sings (((((((", 2, 12);
        fault("sings (((((1)))))+(((((2)))));", 0, NONE);
        fault("sings 1);", 1, 7);
        fault("sings (1;", 1, 8);
        fault("sings ();", 1, 7);
        fault("sings (1))", 1, 9);
        fault("sings year+base-last*key/house<kind=sung;", 1, 35);
        fault("sings year+base-last*key/house<kind and sung;", 0, NONE);
    }

    private static void whatTownChanges() {
        TownTune x = of(CHORD + "key 2;other 1 2;");
        x.years(2);
        x.away(0, true);
        x.hear(3, 4);
        x.image();
        Check.feed(x, "key 3;");
        due("3 not so many", ILLEGAL, () -> x.town(21));
        due("3 below 0", ILLEGAL, () -> x.town(-1));
        due("3 nothing changes", 20, () -> x.count(12));
        due("3 a fault", 1, () -> x.town(2));
        due("3 the tape is empty then", 0, () -> x.count(12));
        due("4 its place", 0, x::fault);
        due("3 the people stay", 3, () -> x.count(0));
        due("3 the tune stays", 6, () -> x.count(4));
        due("3 acts stay", 2, () -> x.count(10));
        due("3 what is heard stays", 1, () -> x.count(11));
        due("3 the image stays", 1, () -> x.restore() ? 1 : 0);
        due("3 STATUS is as in the image", 0, () -> x.count(13));
        x.years(0);
        x.hear(400, 0);
        Check.tell(x, "zzz");
        due("3 another town", 0, () -> Check.tell(x, "deaf 3 9 8;"));
        due("4 none", NONE, x::fault);
        due("3 one", 1, () -> x.count(0));
        due("3 no key", 0, () -> x.count(2));
        due("3 no other tune", 0, () -> x.count(5));
        due("3 an empty tune", 0, () -> x.count(4));
        due("3 the year", 0, () -> x.count(3));
        due("3 at home", 0, () -> x.count(7));
        due("3 no acts", 0, () -> x.count(10));
        due("3 nothing heard", 0, () -> x.count(11));
        due("3 no image", 0, () -> x.restore() ? 1 : 0);
        due("3 STATUS 0 stays", 1, () -> x.count(13));
        due("3 STATUS 1 stays", 1, () -> x.count(14));
        due("3 STATUS 2 stays", 1, () -> x.count(15));
        due("3 only the first bytes", 0, () -> {
            Check.feed(x, "key 4;zzz");
            return x.town(6);
        });
        due("3 told", 4, () -> x.count(2));
        due("3 nobody any more", NO_SUCH, () -> x.person(0, 0));
        due("3 an empty text", 0, () -> x.town(0));
        TownTune twice = of("elder 0 1 0;sings last + 1;", 3);
        Check.tell(twice, "elder 0 1 0;sings last + 1;key 7;");
        due("3 the tune is empty: no last note", 8, () -> twice.then(0));
    }

    private static void counting() {
        TownTune x = of(CHORD + "key 5;feud 0 2;other 1 12;");
        x.away(1, true);
        x.years(2);
        x.dies(2);
        x.away(1, false);
        x.marry(0, 1);
        x.hear(0, 0);
        x.hear(0, 13);
        x.peace(9);
        x.years(21);
        Check.tell(x, "k");
        Check.feed(x, "key");
        long[] want = {3, 1, 0, 2, 6, 2, 2, 0, 4, 3, 5, 1, 20, 1, 2, 1};
        for (int i = 0; i < want.length; i++) {
            int what = i;
            due("5 count " + what, want[i], () -> x.count(what));
        }
        due("5 below", NO_SUCH, () -> x.count(-1));
        due("5 above", NO_SUCH, () -> x.count(16));
    }

    private static void peopleAndFeuds() {
        TownTune x = of("spy 3 200 11;child 2 100 5;deaf 1 365 0;feud 2 0;feud 0 1;", 3);
        long[][] want = {{3, 3, 200, 11, 3, 1, 2}, {1, 2, 100, 5, 3, 0, 1}, {2, 1, 365, 0, 3, 2, 1}};
        for (int i = 0; i < 3; i++) {
            for (int j = 0; j < 7; j++) {
                int p = i;
                int what = j;
                due("6 person " + p + " " + what, want[i][j], () -> x.person(p, what));
            }
        }
        due("6 what", NO_SUCH, () -> x.person(0, 7));
        due("6 what below", NO_SUCH, () -> x.person(0, -1));
        due("6 nobody", NO_SUCH, () -> x.person(3, 0));
        due("6 nobody below", NO_SUCH, () -> x.person(-1, 0));
        due("7 first", 2, () -> x.feud(0, 0));
        due("7 second", 0, () -> x.feud(0, 1));
        due("7 the next one", 1, () -> x.feud(1, 1));
        due("7 what", NO_SUCH, () -> x.feud(0, 2));
        due("7 what below", NO_SUCH, () -> x.feud(0, -1));
        due("7 none", NO_SUCH, () -> x.feud(2, 0));
        due("7 none below", NO_SUCH, () -> x.feud(-1, 0));
    }

    private static void signsAndOther() {
        TownTune x = of("elder 0 20 3;elder 1 10 4;other 12 0 7;", 2);
        due("8 the sign", 4, () -> x.sign(2, 0));
        due("8 whose", 1, () -> x.sign(2, 1));
        due("8 the year", 1, () -> x.sign(2, 2));
        due("8 the first year", 0, () -> x.sign(1, 2));
        due("8 no place", NO_SUCH, () -> x.sign(4, 0));
        due("8 no place below", NO_SUCH, () -> x.sign(-1, 0));
        due("8 what", NO_SUCH, () -> x.sign(0, 3));
        due("8 what below", NO_SUCH, () -> x.sign(0, -1));
        due("9 a rest", 12, () -> x.other(0));
        due("9 the last", 7, () -> x.other(2));
        due("9 none", NO_SUCH, () -> x.other(3));
        due("9 none below", NO_SUCH, () -> x.other(-1));
    }

    private static void singing() {
        Check.dueTune("base and key", "91", of("elder 0 1 2;elder 0 2 6;key 7;", 1));
        Check.dueTune("the deaf don't hear the key", "6", of("deaf 0 1 6;key 7;", 1));
        Check.dueTune("a child", "8", of("child 0 1 6;key 7;", 1));
        Check.dueTune("a spy", "0", of("spy 0 1 6;key 7;", 1));
        Check.dueTune("a spy below 0", "b", of("spy 0 1 0;", 1));
        Check.dueTune("in order of birthdays", "721", of("elder 0 3 1;elder 0 2 2;elder 0 1 7;", 1));
        Check.dueTune("foes", "066", of("elder 0 1 0;elder 0 2 3;elder 0 3 6;feud 0 1;", 1));
        TownTune x = of("elder 0 1 0;child 0 2 5;spy 0 3 5;feud 2 0;", 2);
        Check.dueTune("a foe who ended the year before", "004a04", x);
        TownTune rest = of("elder 0 1 0;elder 0 2 3;feud 0 1;");
        rest.away(0, true);
        rest.years(1);
        Check.dueTune("no tritone behind a rest", ".3", rest);
        rest.dies(1);
        rest.away(0, false);
        rest.years(1);
        Check.dueTune("a tritone behind a dead foe's note", ".39", rest);
    }

    private static void rule(String expr, int note) {
        Check.dueTune(expr, "" + "0123456789ab".charAt(note), of("elder 2 1 5;key 3;sings " + expr + ";", 1));
    }

    private static void rules() {
        rule("1 + 2 * 3", 7);
        rule("(1 + 2) * 3", 9);
        rule("10 - 3 - 2", 5);
        rule("0 - 1", 11);
        rule("0 - 25", 11);
        rule("7 / 2", 3);
        rule("(0 - 7) / 2", 9);
        rule("8 / 2 / 2 * 3", 6);
        rule("5 / 0", 0);
        rule("1 < 2", 1);
        rule("2 < 1", 0);
        rule("2 < 2", 0);
        rule("2 = 1 + 1", 1);
        rule("not 5", 0);
        rule("not not 5", 1);
        rule("not 1 < 0", 1);
        rule("not 0 + 5", 0);
        rule("3 and 4", 1);
        rule("3 and 0", 0);
        rule("0 or 9", 1);
        rule("0 or 0", 0);
        rule("1 or 1 and 0", 1);
        rule("(1 or 1) and 0", 0);
        rule("not 0 and 0", 0);
        rule("4 + (2 and 3)", 5);
        rule("base", 5);
        rule("key", 3);
        rule("house", 2);
        rule("kind", 0);
        rule("last", 3);
        rule("year + sung", 0);
        int wrapped = 9999 * 9999;
        wrapped = wrapped * 9999 * 9999;
        rule("9999*9999*9999*9999", Math.floorMod(wrapped, 12));
        Check.dueTune("year", "0123", of(SCALE, 4));
        Check.dueTune("sung counts rests", "0.2", sungWithRest());
        Check.dueTune("last is the note ahead", "1234", of("elder 0 1 0;elder 0 2 0;sings last + 1;", 2));
        Check.dueTune("last goes over rests", "1.2.3.", lastWithRests());
        Check.dueTune("kinds", "0852",
                of("elder 0 1 5;child 0 2 5;deaf 0 3 5;spy 0 4 5;sings kind;", 1));
    }

    private static TownTune sungWithRest() {
        TownTune x = of("elder 0 1 0;sings sung;", 1);
        x.away(0, true);
        x.years(1);
        x.away(0, false);
        x.years(1);
        return x;
    }

    private static TownTune lastWithRests() {
        TownTune x = of("elder 0 1 0;elder 0 2 0;sings last + 1;");
        x.away(1, true);
        x.years(3);
        return x;
    }

    private static void yearsGoBy() {
        TownTune x = of(CHORD);
        due("10 one", 1, () -> x.years(1));
        due("10 twenty", 21, () -> x.years(20));
        due("10 signs", 63, () -> x.count(4));
        due("10 none", NONE, () -> x.years(0));
        due("10 below", NONE, () -> x.years(-1));
        due("10 too many", NONE, () -> x.years(21));
        due("10 the most", NONE, () -> x.years(Integer.MAX_VALUE));
        due("10 refused", 4, () -> x.count(14));
        due("10 the year stays", 21, () -> x.count(3));
        for (int i = 0; i < 48; i++) {
            x.years(20);
        }
        due("10 the year", 981, () -> x.count(3));
        due("10 above 999", NONE, () -> x.years(19));
        due("10 the last", 999, () -> x.years(18));
        due("10 no more", NONE, () -> x.years(1));
        due("10 a full tune", 400, () -> x.count(4));
        due("10 its last sign", 0, () -> x.sign(399, 0));
        due("10 of the first one", 0, () -> x.sign(399, 1));
        due("10 in that year", 133, () -> x.sign(399, 2));
        due("10 signs of the first", 134, () -> x.person(0, 4));
        due("10 signs of the second", 133, () -> x.person(1, 4));
    }

    private static void comingAndGoing() {
        TownTune x = of(CHORD);
        due("11 goes", 1, () -> x.away(1, true) ? 1 : 0);
        due("11 is so already", 0, () -> x.away(1, true) ? 1 : 0);
        due("11 bits", 2, () -> x.count(7));
        x.years(1);
        Check.dueTune("11 a rest", "0.7", x);
        due("11 comes home", 1, () -> x.away(1, false) ? 1 : 0);
        due("11 is at home", 0, () -> x.away(0, false) ? 1 : 0);
        due("11 nobody", NO_SUCH, () -> x.away(3, true) ? 1 : 0);
        due("11 nobody below", NO_SUCH, () -> x.away(-1, true) ? 1 : 0);
        due("11 refused", 2, () -> x.count(14));
        x.away(2, true);
        due("12 dies", 1, () -> x.dies(2) ? 1 : 0);
        due("12 stays away", 4, () -> x.count(7));
        due("12 bits", 4, () -> x.count(8));
        due("12 dead already", 0, () -> x.dies(2) ? 1 : 0);
        due("11 the dead don't come home", 0, () -> x.away(2, false) ? 1 : 0);
        due("12 nobody", NO_SUCH, () -> x.dies(3) ? 1 : 0);
        due("12 refused", 4, () -> x.count(14));
        x.years(1);
        Check.dueTune("12 nothing of the dead", "0.704", x);
        due("11 acts", 6, () -> x.count(10));
    }

    private static void marrying() {
        TownTune x = of("elder 0 1 0;elder 1 2 0;elder 1 3 0;elder 2 4 0;elder 3 5 0;elder 0 6 0;key 8;");
        due("13 one and the same", NONE, () -> x.marry(0, 0));
        due("13 of one house", NONE, () -> x.marry(1, 2));
        due("13 the key", 3, () -> x.marry(1, 0));
        due("13 the first one's house stays", 1, () -> x.person(1, 1));
        due("13 the second one's is the first one's", 1, () -> x.person(0, 1));
        due("13 bits", 3, () -> x.count(9));
        due("13 married", NONE, () -> x.marry(3, 0));
        due("13 married too", NONE, () -> x.marry(1, 3));
        x.away(2, true);
        due("13 away", NONE, () -> x.marry(2, 3));
        due("13 away too", NONE, () -> x.marry(3, 2));
        x.dies(4);
        due("13 dead", NONE, () -> x.marry(4, 3));
        due("13 dead too", NONE, () -> x.marry(3, 4));
        due("13 refused", 8, () -> x.count(14));
        due("13 nobody", NO_SUCH, () -> x.marry(6, 0));
        due("13 nobody too", NO_SUCH, () -> x.marry(0, -1));
        due("13 nobody twice", NO_SUCH, () -> x.marry(7, 7));
        due("13 again", 10, () -> x.marry(3, 5));
        due("13 its house", 2, () -> x.person(5, 1));
        x.years(1);
        due("13 sung in the new key", 10, () -> x.sign(0, 0));
    }

    private static void quarrels() {
        TownTune x = of("elder 0 1 0;elder 1 2 0;elder 2 3 0;elder 3 4 0;feud 0 1;");
        due("14 one", NONE, () -> x.quarrel(2, 2));
        due("14 they have one", NONE, () -> x.quarrel(0, 1));
        due("14 either way", NONE, () -> x.quarrel(1, 0));
        due("14 its number", 1, () -> x.quarrel(2, 0));
        due("14 first", 2, () -> x.feud(1, 0));
        due("14 second", 0, () -> x.feud(1, 1));
        x.dies(3);
        due("14 with the dead", 2, () -> x.quarrel(3, 2));
        x.quarrel(0, 3);
        x.quarrel(1, 2);
        due("14 the sixth", 5, () -> x.quarrel(1, 3));
        due("14 nobody", NO_SUCH, () -> x.quarrel(4, 0));
        due("14 nobody too", NO_SUCH, () -> x.quarrel(0, -1));
        due("15 none", 0, () -> x.peace(6) ? 1 : 0);
        due("15 none below", 0, () -> x.peace(-1) ? 1 : 0);
        due("14 refused", 5, () -> x.count(14));
        due("15 ends", 1, () -> x.peace(1) ? 1 : 0);
        due("15 one less", 5, () -> x.count(1));
        due("15 numbers behind", 3, () -> x.feud(1, 0));
        due("15 the last", 1, () -> x.feud(4, 0));
        due("15 of one", 2, () -> x.person(0, 6));
        TownTune full = of("elder 0 1 0;elder 1 2 0;elder 2 3 0;elder 3 4 0;elder 3 5 0;"
                + "feud 0 1;feud 0 2;feud 0 3;feud 1 2;feud 1 3;feud 2 3;");
        due("14 there are six", NONE, () -> full.quarrel(4, 0));
    }

    private static void undoing() {
        TownTune x = of("elder 0 1 0;elder 1 2 4;elder 2 3 7;key 3;feud 0 1;feud 0 2;feud 1 2;");
        due("16 none", NONE, x::undo);
        due("16 isn't refused", 0, () -> x.count(14));
        x.years(2);
        String tune = Check.tune(x);
        x.away(1, true);
        x.years(3);
        x.away(1, false);
        x.marry(2, 0);
        x.peace(1);
        x.quarrel(2, 0);
        x.dies(2);
        due("16 acts", 8, () -> x.count(10));
        due("16 a death", 7, x::undo);
        due("16 lives", 0, () -> x.count(8));
        due("16 a quarrel", 6, x::undo);
        due("16 a feud less", 2, () -> x.count(1));
        due("16 a peace", 5, x::undo);
        due("16 a feud more", 3, () -> x.count(1));
        due("16 at its place", 2, () -> x.feud(1, 1));
        due("16 those behind", 1, () -> x.feud(2, 0));
        due("16 a marriage", 4, x::undo);
        due("16 the key", 3, () -> x.count(2));
        due("16 the house", 0, () -> x.person(0, 1));
        due("16 unmarried", 0, () -> x.count(9));
        due("16 home", 3, x::undo);
        due("16 away", 2, () -> x.count(7));
        due("16 years", 2, x::undo);
        due("16 the year", 2, () -> x.count(3));
        due("16 one's signs", 2, () -> x.person(0, 4));
        due("16 rests", 0, () -> x.count(6));
        Check.dueTune("16 the tune", tune, x);
        due("16 away", 1, x::undo);
        due("16 home again", 0, () -> x.count(7));
        due("16 years", 0, x::undo);
        due("16 no tune", 0, () -> x.count(4));
        due("16 none", NONE, x::undo);
        TownTune many = of(CHORD);
        for (int i = 0; i < 45; i++) {
            many.away(0, i % 2 == 0);
        }
        due("16 at most 40 are kept", 40, () -> many.count(10));
        for (int i = 39; i >= 0; i--) {
            int left = i;
            due("16 the latest ones", left, many::undo);
        }
        due("16 the older ones stay", 1, () -> many.count(7));
        due("16 no more", NONE, many::undo);
        TownTune unlike = of("elder 0 1 0;elder 1 2 4;elder 2 3 7;elder 3 4 0;feud 0 1;feud 0 2;feud 3 0;");
        unlike.years(1);
        for (int i = 0; i < 20; i++) {
            unlike.away(i % 3, i % 6 < 3);
            unlike.years(1);
        }
        unlike.peace(0);
        unlike.undo();
        due("16 first ones", 3, () -> unlike.feud(2, 0));
        due("16 second ones", 2, () -> unlike.feud(1, 1));
        due("16 those behind", 0, () -> unlike.feud(2, 1));
        for (int i = 0; i < 39; i++) {
            unlike.undo();
        }
        due("16 no more are kept", NONE, unlike::undo);
        due("16 the two oldest of 42 stay: a year", 1, () -> unlike.count(3));
        due("16 its signs", 4, () -> unlike.count(4));
        due("16 and one who went", 1, () -> unlike.count(7));
        TownTune one = of("elder 0 1 0;sings last + 2;key 1;", 1);
        one.years(1);
        one.undo();
        due("16 last is the tune's first note", 5, () -> one.then(1));
        TownTune last = of("elder 0 1 0;sings last + 2;key 1;", 2);
        last.years(2);
        last.undo();
        due("16 last is as it was", 7, () -> last.then(2));
    }

    private static void finding() {
        TownTune x = of(CHORD, 3);
        due("17 many", 3, () -> x.found(4, 1, 0));
        due("17 first", 1, () -> x.found(4, 1, 1));
        due("17 two", 3, () -> x.found(4 * 13 + 7, 2, 0));
        due("17 across years", 2, () -> x.found(7 * 13, 2, 0));
        due("17 its place", 2, () -> x.found(7 * 13, 2, 1));
        int seven = 0;
        for (int sign : new int[] {0, 4, 7, 0, 4, 7, 0}) {
            seven = seven * 13 + sign;
        }
        int phrase = seven;
        due("17 seven", 1, () -> x.found(phrase, 7, 0));
        due("17 none", 0, () -> x.found(12, 1, 0));
        due("17 no first", NONE, () -> x.found(12, 1, 1));
        due("17 what", NO_SUCH, () -> x.found(0, 1, 2));
        due("17 what below", NO_SUCH, () -> x.found(0, 1, -1));
        due("17 what ahead of the phrase", NO_SUCH, () -> x.found(0, 0, 2));
        due("17 none of them", ILLEGAL, () -> x.found(0, 0, 0));
        due("17 eight", ILLEGAL, () -> x.found(0, 8, 0));
        due("17 below 0", ILLEGAL, () -> x.found(-1, 1, 0));
        due("17 more digits", ILLEGAL, () -> x.found(13, 1, 0));
        due("17 more digits of seven", ILLEGAL, () -> x.found(62748517, 7, 0));
        due("17 the most of seven", 0, () -> x.found(62748516, 7, 0));
        due("17 one over the other", 3, () -> of("deaf 0 1 0;", 5).found(0, 3, 0));
        x.away(0, true);
        x.years(1);
        due("17 rests too", 9, () -> x.found(12 * 13 + 4, 2, 1));
    }

    private static void repeating() {
        TownTune x = of(CHORD, 3);
        due("18 how long", 6, () -> x.again(0));
        due("18 where", 0, () -> x.again(1));
        due("18 what", NO_SUCH, () -> x.again(2));
        due("18 what below", NO_SUCH, () -> x.again(-1));
        TownTune once = of(CHORD, 1);
        due("18 nothing", 0, () -> once.again(0));
        due("18 nowhere", NONE, () -> once.again(1));
        TownTune alike = of("deaf 0 1 0;", 5);
        due("18 one over the other", 4, () -> alike.again(0));
        // 0 0 4 0 5 0 6: a 0 alone comes again, first at 0.
        TownTune single = of("elder 0 1 0;sings (year=2)*4 + (year=4)*5 + (year=6)*6;", 7);
        due("18 one sign", 1, () -> single.again(0));
        due("18 the first one", 0, () -> single.again(1));
        // 3 1 2 5 1 2 6: 1 2 at 1 and 4.
        TownTune pair = of("elder 0 1 0;sings (year=0)*3+(year=1)+(year=2)*2+(year=3)*5+(year=4)+(year=5)*2"
                + "+(year=6)*6;", 7);
        Check.dueTune("18 a tune", "3125126", pair);
        due("18 a pair", 2, () -> pair.again(0));
        due("18 its place", 1, () -> pair.again(1));
    }

    private static void tritonesAndIntervals() {
        TownTune x = of("elder 0 1 0;elder 0 2 6;elder 0 3 1;", 2);
        // 0 6 1 0 6 1
        due("19 two", 2, x::tritones);
        due("20 six", 2, () -> x.interval(6));
        due("20 five down is seven up", 2, () -> x.interval(7));
        due("20 one down is eleven up", 1, () -> x.interval(11));
        due("20 none", 0, () -> x.interval(0));
        due("20 above", ILLEGAL, () -> x.interval(12));
        due("20 below", ILLEGAL, () -> x.interval(-1));
        due("20 likes", 3, () -> of("deaf 0 1 4;", 4).interval(0));
        due("19 six down", 1, of("elder 0 1 9;elder 0 2 3;", 1)::tritones);
        // 6 . 0 6: a rest (12) is 6 from nothing.
        TownTune rest = of("elder 0 1 6;elder 0 2 0;elder 0 3 0;");
        rest.away(1, true);
        rest.years(1);
        Check.dueTune("19 a rest between", "6.0", rest);
        due("19 no rests", 0, rest::tritones);
        due("20 no rests", 0, () -> rest.interval(0));
        due("20 no rests at six", 0, () -> rest.interval(6));
    }

    private static void ownAndBreath() {
        TownTune x = of("elder 0 1 0;child 1 2 2;sings year;");
        x.years(2);
        x.away(1, true);
        x.years(1);
        x.away(1, false);
        x.years(2);
        Check.dueTune("21 the tune", "07182.3a4b", x);
        due("21 the first", 7, () -> x.own(1, 0));
        due("21 a rest", 12, () -> x.own(1, 2));
        due("21 the last", 11, () -> x.own(1, 4));
        due("21 none", NO_SUCH, () -> x.own(1, 5));
        due("21 below", NO_SUCH, () -> x.own(1, -1));
        due("21 nobody", NO_SUCH, () -> x.own(2, 0));
        due("21 nobody below", NO_SUCH, () -> x.own(-1, 0));
        due("22 how long", 5, () -> x.breath(0));
        due("22 where", 0, () -> x.breath(1));
        due("22 what", NO_SUCH, () -> x.breath(2));
        due("22 what below", NO_SUCH, () -> x.breath(-1));
        x.years(1);
        due("22 longer", 6, () -> x.breath(0));
        due("22 behind the rest", 6, () -> x.breath(1));
        TownTune still = of("elder 0 1 0;");
        still.away(0, true);
        still.years(4);
        due("22 only rests", 0, () -> still.breath(0));
        due("22 nowhere", NONE, () -> still.breath(1));
    }

    private static void palindromes() {
        due("23 one", 1, of(SCALE, 12)::palindrome);
        due("23 none", 0, of(SCALE)::palindrome);
        due("23 even", 4, of("deaf 0 1 0;", 4)::palindrome);
        due("23 odd", 7, of("elder 0 1 1;elder 0 2 2;", 4)::palindrome);
        TownTune rest = of("elder 0 1 1;elder 0 2 2;elder 0 3 1;");
        rest.away(1, true);
        rest.years(1);
        due("23 rests too", 3, rest::palindrome);
        due("24 none", NONE, of(SCALE)::tonic);
        due("24 of like ones the least", 0, of(SCALE, 12)::tonic);
        due("24 most", 3, of("deaf 0 1 1;deaf 0 2 3;deaf 0 3 3;", 1)::tonic);
        TownTune still = of("elder 0 1 0;");
        still.away(0, true);
        still.years(2);
        due("24 rests are no notes", NONE, still::tonic);
    }

    private static void likeness() {
        TownTune x = of(CHORD + "other 4 0 5 7;", 2);
        // 0 4 7 0 4 7 and 4 0 5 7
        due("25 like", 3, () -> x.like(0));
        // 7 0 4 7: 4 0 5 7 by changing two.
        due("25 apart", 2, () -> x.like(1));
        due("25 what", NO_SUCH, () -> x.like(2));
        due("25 what below", NO_SUCH, () -> x.like(-1));
        TownTune none = of(CHORD, 2);
        due("25 no other", 0, () -> none.like(0));
        due("25 no other", 0, () -> none.like(1));
        TownTune fresh = of(CHORD + "other 1 2 3;");
        due("25 no tune", 0, () -> fresh.like(0));
        due("25 all must come in", 3, () -> fresh.like(1));
        TownTune less = of("deaf 0 1 0;other 5 0 5 0;", 1);
        due("25 fewer", 3, () -> less.like(1));
        due("25 fewer like", 1, () -> less.like(0));
        // 1 2 3 to 2 3 4: one is lost, one comes in.
        TownTune shift = of("deaf 0 1 1;deaf 0 2 2;deaf 0 3 3;other 2 3 4;", 1);
        due("25 lost and come in", 2, () -> shift.like(1));
    }

    private static void thenAndWhen() {
        TownTune x = of(SCALE, 3);
        due("26 now", 2, () -> x.then(2));
        due("26 to come", 10, () -> x.then(22));
        due("26 beyond 20 years", NONE, () -> x.then(23));
        due("26 the last place", NONE, () -> x.then(399));
        due("26 above", ILLEGAL, () -> x.then(400));
        due("26 below", ILLEGAL, () -> x.then(-1));
        due("26 nothing changes", 3, () -> x.count(3));
        due("27 now", 0, () -> x.when(1 * 13 + 2, 2));
        due("27 to come", 1, () -> x.when(2 * 13 + 3, 2));
        due("27 later", 10, () -> x.when(11 * 13, 2));
        due("27 never", NONE, () -> x.when(12, 1));
        due("27 none", ILLEGAL, () -> x.when(0, 0));
        due("27 eight", ILLEGAL, () -> x.when(0, 8));
        due("27 below", ILLEGAL, () -> x.when(-1, 2));
        due("27 more digits", ILLEGAL, () -> x.when(169, 2));
        TownTune late = of("elder 0 1 0;sings (year = 19) + 2 * (year = 20);");
        due("27 in 20 years", 20, () -> late.when(1, 1));
        due("27 in 21", NONE, () -> late.when(2, 1));
        TownTune full = of(CHORD, 140);
        due("26 a full tune", 0, () -> full.then(399));
        due("27 a full tune", NONE, () -> full.when(0, 2));
        x.away(0, true);
        due("26 who is away rests", 12, () -> x.then(3));
    }

    private static void quiet() {
        TownTune x = of("elder 0 1 0;elder 0 2 6;elder 0 3 0;");
        due("28 the middle one", 2, () -> x.quiet(1));
        due("28 below", ILLEGAL, () -> x.quiet(0));
        due("28 above", ILLEGAL, () -> x.quiet(11));
        due("28 nothing changes", 0, () -> x.count(7));
        TownTune pair = of("elder 0 1 0;elder 0 2 6;");
        due("28 of as few the least", 1, () -> pair.quiet(10));
        TownTune calm = of(CHORD);
        due("28 nobody must", 0, () -> calm.quiet(10));
        // A year ends on 6, the next begins on 0: only one behind the end of the tune.
        TownTune ahead = of("elder 0 1 0;elder 0 2 3;elder 0 3 6;");
        due("28 one year", 0, () -> ahead.quiet(1));
        due("28 two years", 1, () -> ahead.quiet(2));
        ahead.years(1);
        due("28 the note ahead is in the tune", 1, () -> ahead.quiet(1));
        // Each is a foe of the next, so two of the three must go.
        TownTune foes = of("elder 0 1 0;elder 0 2 0;elder 0 3 0;feud 0 1;feud 1 2;feud 0 2;");
        due("28 two of three", 3, () -> foes.quiet(3));
        TownTune third = of("elder 0 1 0;elder 0 3 0;elder 0 2 6;");
        due("28 one, though two would be less as bits", 4, () -> third.quiet(2));
        foes.dies(0);
        due("28 the dead need not", 2, () -> foes.quiet(3));
        foes.away(1, true);
        due("28 those away need not", 0, () -> foes.quiet(3));
    }

    private static void match() {
        // The key is 7 in all years by the marriage: 7 7 .. in place of 0 0 ..
        TownTune x = of("elder 0 1 0;elder 1 2 0;other 7 7 7;");
        due("29 the first couple", 1, x::match);
        due("29 nothing changes", 0, () -> x.count(2));
        TownTune same = of("elder 0 1 0;elder 1 2 0;other 0 0 0;");
        due("29 not more than without", NONE, same::match);
        // By house: 0 sings 0, 1 sings 1: the second one must be of the first one's.
        TownTune way = of("elder 0 1 0;elder 1 2 0;other 1 1 1 1 1 1 1 1 1 1;sings house;");
        due("29 the other way round", 10, way::match);
        TownTune later = of("elder 0 1 0;elder 1 2 0;elder 2 3 0;other 2 2 2 2 2 2 2 2 2 2;sings house;");
        due("29 the most", 20, later::match);
        later.away(2, true);
        due("29 away", NONE, later::match);
        TownTune one = of("elder 0 1 0;elder 0 2 0;other 7;");
        due("29 of one house", NONE, one::match);
        // Behind the foe's 6 comes 0, and 6 again, whatever the key is.
        TownTune foes = of("elder 0 1 0;elder 1 2 0;feud 0 1;other 7 7 7 7;", 1);
        due("29 foes sing on from the tune", NONE, foes::match);
        TownTune full = of("elder 0 1 0;elder 1 2 0;other" + " 0".repeat(20) + " 7 7 7 7;", 10);
        due("29 24 signs of the other tune", 1, full::match);
        // Five years bring ten signs, not twelve.
        TownTune five = of("elder 0 1 0;elder 1 2 0;other 0 7;sings (year=5)*key;");
        due("29 five years", NONE, five::match);
        TownTune four = of("elder 0 1 0;elder 1 2 0;other 0 7;sings (year=4)*key;");
        due("29 within five years", 1, four::match);
    }

    private static void hearingAndSpies() {
        TownTune x = of(CHORD);
        due("31 without any heard", 3, () -> x.spy(0));
        due("31 the first", 0, () -> x.spy(1));
        due("31 it is so", 1, () -> x.spy(2));
        due("30 first", 1, () -> x.hear(4, 3));
        due("31 the second one", 1, () -> x.spy(0));
        due("31 who it is", 1, () -> x.spy(1));
        due("31 not without", 0, () -> x.spy(2));
        due("30 no place", NONE, () -> x.hear(400, 0));
        due("30 no place below", NONE, () -> x.hear(-1, 0));
        due("30 no sign", NONE, () -> x.hear(0, 13));
        due("30 no sign below", NONE, () -> x.hear(0, -1));
        due("30 refused", 4, () -> x.count(15));
        due("30 what can't be", 2, () -> x.hear(0, 11));
        due("31 nobody", 0, () -> x.spy(0));
        due("31 no first", NONE, () -> x.spy(1));
        due("31 what", NO_SUCH, () -> x.spy(3));
        due("31 what below", NO_SUCH, () -> x.spy(-1));
        x.forget();
        due("33 forgotten", 0, () -> x.count(11));
        for (int i = 1; i <= 8; i++) {
            int many = i;
            due("30 one more", many, () -> x.hear(399, 12));
        }
        due("30 eight are heard", NONE, () -> x.hear(0, 0));
        due("31 never led to", 0, () -> x.spy(0));
        x.forget();
        due("30 the last place of 20 years", 1, () -> x.hear(59, 7));
        due("31 all but the third", 2, () -> x.spy(0));
        x.forget();
        x.hear(60, 0);
        due("31 not beyond", 0, () -> x.spy(0));
        x.forget();
        x.years(1);
        x.hear(1, 4);
        due("31 what was sung stays", 3, () -> x.spy(0));
        TownTune told = of("spy 0 1 5;child 0 2 5;deaf 0 3 5;elder 0 4 0;feud 2 3;");
        told.hear(0, 5);
        due("31 one told as a spy is none", 1, () -> told.spy(0));
        due("31 that one", 0, () -> told.spy(1));
        told.forget();
        told.hear(1, 11);
        due("31 a child", 1, () -> told.spy(1));
        told.forget();
        told.hear(2, 4);
        due("31 a deaf one", 2, () -> told.spy(1));
        told.hear(3, 10);
        due("31 behind a foe: 6 more than his", 2, () -> told.spy(1));
        told.forget();
        told.hear(3, 11);
        due("31 not 1 less behind a foe", 3, () -> told.spy(0));
    }

    private static void listening() {
        TownTune x = of(CHORD);
        due("32 place", 0, () -> x.listen(0));
        due("32 how many", 2, () -> x.listen(1));
        due("32 what", NO_SUCH, () -> x.listen(2));
        due("32 what below", NO_SUCH, () -> x.listen(-1));
        x.years(1);
        x.hear(3, 0);
        due("32 from the end of the tune on", 4, () -> x.listen(0));
        x.hear(4, 4);
        due("32 the third alone is left", 3, () -> x.listen(0));
        due("32 one sign", 1, () -> x.listen(1));
        x.hear(5, 9);
        due("32 nobody", NONE, () -> x.listen(0));
        due("32 none", 0, () -> x.listen(1));
        // 1 3 7 ..; by the first one 0 1 .., by the second 1 2 .., by the third 1 3 ..
        TownTune chain = of("elder 0 1 0;elder 0 2 0;elder 0 3 0;sings last * 2 + 1;");
        due("32 three unlike", 3, () -> chain.listen(1));
        due("32 where", 1, () -> chain.listen(0));
        TownTune full = of(CHORD, 140);
        due("32 no place left", NONE, () -> full.listen(0));
        due("32 none there", 0, () -> full.listen(1));
        TownTune dead = of("deaf 0 1 5;", 2);
        dead.dies(0);
        due("32 none counts as a sign", 1, () -> dead.listen(1));
        due("32 at the first place", 2, () -> dead.listen(0));
        // In the year 7 the bearer of this base (the 60th, or the 61st place) heeds the one ahead.
        StringBuilder eight = new StringBuilder();
        for (int i = 0; i < 8; i++) {
            eight.append("elder 0 ").append(i + 1).append(' ').append(i).append(';');
        }
        TownTune near = of(eight + "sings (year = 7) * (base = 3) * last * 3;");
        due("32 three at the 60th place", 3, () -> near.listen(1));
        due("32 that place", 59, () -> near.listen(0));
        TownTune far = of(eight + "sings (year = 7) * (base = 4) * last * 3;");
        due("32 60 places at most", 2, () -> far.listen(1));
        due("32 the first with two", 0, () -> far.listen(0));
    }

    private static void voting() {
        due("34 without deaf ones", 0, of(CHORD, 2)::vote);
        due("34 for", 1, of("deaf 0 1 5;", 1)::vote);
        due("34 without a tune", -1, of("deaf 0 1 5;")::vote);
        due("34 as many of both", -2, of("deaf 0 1 5;deaf 0 2 11;", 1)::vote);
        TownTune x = of("deaf 0 1 5;elder 0 2 5;deaf 0 3 11;", 2);
        due("34 for and against", 0, x::vote);
        x.away(0, true);
        due("34 away", -1, x::vote);
        x.dies(2);
        due("34 dead", 0, x::vote);
        // 5 0 0 | 5 0: two not dead, so the last two signs: 5 0.
        TownTune few = of("deaf 0 1 5;deaf 1 2 0;elder 0 3 0;", 1);
        few.dies(2);
        few.years(1);
        Check.dueTune("34 the tune", "50050", few);
        due("34 the last signs", 2, few::vote);
        TownTune one = of("deaf 0 1 5;deaf 1 2 0;", 1);
        one.dies(1);
        due("34 only the last sign", -1, one::vote);
        TownTune two = of("deaf 0 1 5;deaf 1 2 0;", 1);
        two.away(1, true);
        due("34 those away count among the people", 1, two::vote);
    }

    private static void games() {
        TownTune x = of("elder 0 1 0;elder 1 2 7;");
        // The first one gains 2 if nobody goes; no tritones, so the second one never gains.
        due("35 couples", 2, () -> x.game(0, 1, 0));
        due("35 nobody", 0, () -> x.game(0, 1, 1));
        due("35 what", NO_SUCH, () -> x.game(0, 1, 2));
        due("35 what below", NO_SUCH, () -> x.game(0, 1, -1));
        due("35 what ahead of houses", NO_SUCH, () -> x.game(0, 0, 2));
        due("35 one house", ILLEGAL, () -> x.game(2, 2, 0));
        due("35 above", ILLEGAL, () -> x.game(0, 4, 0));
        due("35 above too", ILLEGAL, () -> x.game(4, 0, 0));
        due("35 below", ILLEGAL, () -> x.game(-1, 0, 0));
        due("35 below too", ILLEGAL, () -> x.game(0, -1, 0));
        due("35 empty houses", 1, () -> x.game(2, 3, 0));
        due("35 an empty house", 1, () -> x.game(0, 2, 0));
        // 0 6 0: the tritones go, if the second or the third is sent; a 0 goes with the first.
        TownTune three = of("elder 0 1 0;elder 0 2 6;elder 1 3 0;");
        due("35 three couples", 3, () -> three.game(0, 1, 0));
        due("35 the other way round", 1, () -> three.game(1, 0, 0));
        // 3 9 gains nothing for the first one; with its own one away . 0 gains 1.
        TownTune sent = of("elder 0 1 3;elder 1 2 0;feud 0 1;");
        due("35 two couples", 2, () -> sent.game(0, 1, 0));
        due("35 the first one's is sent", 10, () -> sent.game(0, 1, 1));
        // The note ahead of the year's first tritone is in the tune now.
        TownTune ahead = of("elder 0 1 0;elder 1 2 3;elder 2 3 6;", 1);
        due("35 nobody of house 0 may be missed", 2, () -> ahead.game(1, 0, 0));
        due("35 without a tune any may", 4, () -> of("elder 0 1 0;elder 1 2 3;elder 2 3 6;").game(2, 1, 0));
        StringBuilder eight = new StringBuilder();
        for (int i = 1; i <= 8; i++) {
            eight.append("elder 3 ").append(i).append(" 1;");
        }
        due("35 all of one house", 9, () -> of(eight.toString()).game(3, 0, 0));
        due("35 of the other one", 9, () -> of(eight.toString()).game(0, 3, 0));
        TownTune eighth = of(eight.toString().replace("elder 3 8 1", "elder 3 8 0") + "key 11;sings base;");
        due("35 none gains", 9, () -> eighth.game(3, 0, 0));
        TownTune gone = of("elder 0 1 0;elder 1 2 7;");
        gone.away(0, true);
        due("35 who is away can't be sent", 2, () -> gone.game(0, 1, 0));
        gone.dies(1);
        due("35 nor the dead", 1, () -> gone.game(0, 1, 0));
        due("35 nothing changes", 0, () -> x.count(4));
    }

    private static void centuries() {
        TownTune x = of("elder 0 1 0;elder 1 2 3;other 0 4 1 4;", 1);
        TownTune y = of("elder 0 1 0;elder 1 2 3;other 4;", 1);
        due("36 no year", 2, () -> x.century(7, 0, 0));
        due("36 no rests", 0, () -> x.century(7, 0, 1));
        due("36 like", 1, () -> x.century(7, 0, 2));
        due("36 what", NO_SUCH, () -> x.century(7, 0, 3));
        due("36 what below", NO_SUCH, () -> x.century(7, 0, -1));
        due("36 what ahead of n", NO_SUCH, () -> x.century(7, 21, 3));
        due("36 above", ILLEGAL, () -> x.century(7, 21, 0));
        due("36 below", ILLEGAL, () -> x.century(7, -1, 0));
        for (int seed = -3; seed < 40; seed++) {
            int s = seed;
            int next = s * 1103515245 + 12345;
            int fate = ((next * 1103515245 + 12345) >>> 16 & 32767) % 5;
            due("36 signs by " + s, fate == 1 ? 3 : 4, () -> x.century(s, 1, 0));
            due("36 rests by " + s, fate == 0 ? 1 : 0, () -> x.century(s, 1, 1));
            // 0 3 1 3 or 0 3 0 4 for 0 3 0 3, each of which has two of 0 4 1 4.
            int person = (next >>> 16 & 32767) % 2;
            due("36 whose base it is by " + s, fate == 2 && person == 1 ? 1 : 0, () -> y.century(s, 1, 2));
            due("36 like by " + s, fate == 2 ? 2 : 1, () -> x.century(s, 1, 2));
        }
        due("36 nothing changes", 2, () -> x.count(4));
        due("36 the base too", 3, () -> x.person(1, 3));
        TownTune nobody = new TownTune();
        due("36 without people", 0, () -> nobody.century(1, 20, 0));
    }

    private static void images() {
        TownTune x = of(CHORD + "key 2;feud 0 1;");
        due("38 none", 0, () -> x.restore() ? 1 : 0);
        x.years(2);
        x.hear(7, 7);
        x.years(0);
        x.hear(-1, 0);
        String tune = Check.tune(x);
        x.image();
        x.away(0, true);
        x.years(2);
        x.dies(0);
        x.marry(1, 2);
        x.quarrel(1, 2);
        x.peace(0);
        x.forget();
        x.hear(-1, 0);
        x.peace(9);
        Check.tell(x, "?");
        Check.feed(x, "key 1;");
        due("38 there is one", 1, () -> x.restore() ? 1 : 0);
        Check.dueTune("38 the tune", tune, x);
        long[] want = {3, 1, 2, 2, 6, 0, 0, 0, 0, 0, 1, 1, 20, 0, 1, 1};
        for (int i = 0; i < want.length; i++) {
            int what = i;
            due("38 count " + what, want[i], () -> x.count(what));
        }
        due("38 a house", 2, () -> x.person(2, 1));
        due("38 a feud", 1, () -> x.feud(0, 1));
        due("38 what is heard", 0, () -> x.spy(2));
        due("38 the fault's place is no part of it", 0, x::fault);
        due("38 acts", 0, x::undo);
        due("38 undone", 0, () -> x.count(4));
        due("38 it is still there", 1, () -> x.restore() ? 1 : 0);
        due("38 once more", 1, () -> x.count(10));
        x.years(1);
        x.image();
        x.years(1);
        x.restore();
        due("37 in place of another", 3, () -> x.count(3));
        due("37 acts too", 2, () -> x.count(10));
        TownTune y = of("elder 0 1 0;elder 1 2 5;sings year + base;", 3);
        y.image();
        for (int i = 0; i < 3; i++) {
            y.undo();
        }
        y.dies(0);
        y.years(7);
        y.restore();
        Check.dueTune("38 all signs", "051627", y);
        due("38 whose", 0, () -> y.sign(2, 1));
        due("38 in which year", 1, () -> y.sign(2, 2));
        due("38 the last one's year", 2, () -> y.sign(5, 2));
    }
}
