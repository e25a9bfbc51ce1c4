import java.io.IOException;

/** The boundary cases of a YEAR, of what is sung in it, and of ACTS: promises 10 to 16. */
final class EdgeTuneTest extends Edge {
    private static final String HOUSES = "elder 0 1 0;elder 1 2 0;elder 2 3 0;elder 3 4 0;";

    private EdgeTuneTest() {
    }

    public static void main(String[] args) throws IOException {
        atFirst();
        orderOfBirthdays();
        fullTune();
        fullTuneUndone();
        modTwelve();
        kinds();
        foes();
        restsAndFoes();
        arithmetic();
        truth();
        lastNote();
        sung();
        howManyYears();
        lastYear();
        comingAndGoing();
        dying();
        marrying();
        keyByMarriage();
        quarrelling();
        sixFeuds();
        peace();
        numbersOfOne();
        undoing();
        actsKept();
        oldestActs();
        actsUndoneInOrder();
        undoneOneByOne();
        refusedActs();
        end("EdgeTuneTest", args);
    }

    private static void atFirst() {
        says(10, "THE TUNE is empty, the YEAR 0 at first, all are at home.");
        TownTune x = of(HOUSES + "key 3;");
        due("the tune", 0, () -> x.count(4));
        due("the year", 0, () -> x.count(3));
        due("away", 0, () -> x.count(7));
        due("dead", 0, () -> x.count(8));
        due("married", 0, () -> x.count(9));
        due("acts", 0, () -> x.count(10));
        x.years(1);
        due("a year later", 1, () -> x.count(3));
        due("a sign of each", 4, () -> x.count(4));
        due("sung in the year 0", 0, () -> x.sign(3, 2));

        says(10, "The YEAR is one more then.");
        due("nobody sings, and yet", 1, () -> new TownTune().years(1));
        due("in its year all is sung", 1, () -> of("elder 0 1 0;elder 0 2 0;sings year;", 2).sign(3, 0));
        due("the next one's is one more", 2, () -> of("elder 0 1 0;elder 0 2 0;sings year;", 3).sign(4, 0));
    }

    private static void orderOfBirthdays() {
        says(10, "in order of BIRTHDAYS each of PEOPLE who isn't DEAD adds one to THE TUNE");
        TownTune x = of("deaf 0 365 1;deaf 0 1 2;deaf 0 364 3;deaf 0 2 4;deaf 0 100 5;deaf 0 99 6;deaf 0 9 7;"
                + "deaf 0 10 8;");
        x.years(1);
        dueTune("eight", "24786531", x);
        x.dies(1);
        x.dies(0);
        x.years(1);
        dueTune("without the first and the last", "24786531478653", x);
        for (int person = 2; person < 8; person++) {
            x.dies(person);
        }
        x.years(1);
        due("all are dead", 14, () -> x.count(4));
        due("the year goes by", 3, () -> x.count(3));
    }

    private static void fullTune() {
        says(10, "(that has 400 at most: what is more isn't sung)");
        TownTune x = of("deaf 0 7 6;deaf 0 6 5;deaf 0 5 4;deaf 0 4 3;deaf 0 3 2;deaf 0 2 1;deaf 0 1 0;", 57);
        due("399", 399, () -> x.count(4));
        due("no 400th yet", NO_SUCH, () -> x.sign(399, 0));
        due("the next year", 58, () -> x.years(1));
        due("400", 400, () -> x.count(4));
        due("the first one's is the 400th", 0, () -> x.sign(399, 0));
        due("whose it is", 6, () -> x.sign(399, 1));
        due("its year", 57, () -> x.sign(399, 2));
        due("none is behind it", NO_SUCH, () -> x.sign(400, 0));
        due("the first one's signs", 58, () -> x.person(6, 4));
        due("the second one's", 57, () -> x.person(5, 4));
        due("the last one's", 57, () -> x.person(0, 4));
        due("a year that brings nothing", 59, () -> x.years(1));
        due("still 400", 400, () -> x.count(4));
        due("still so many of one's", 58, () -> x.person(6, 4));
        due("its 58th", 0, () -> x.own(6, 57));
        due("no 59th", NO_SUCH, () -> x.own(6, 58));
        due("it is an ACT all the same", 5, () -> x.count(10));
        due("even years", 400, () -> of(elders(8), 50).count(4));
        due("a year less", 392, () -> of(elders(8), 49).count(4));
        due("a year more", 400, () -> of(elders(8), 51).count(4));
        due("one alone", 400, () -> of("elder 0 1 0;", 400).count(4));
        due("one alone a year less", 399, () -> of("elder 0 1 0;", 399).count(4));
        due("one alone a year more", 400, () -> of("elder 0 1 0;", 401).count(4));
    }

    private static void fullTuneUndone() {
        says(16, "The last ACT is UNDONE: how many are left.");
        TownTune x = of(elders(7), 57);
        x.years(20);
        due("full", 400, () -> x.count(4));
        due("undone", 3, x::undo);
        due("as it was", 399, () -> x.count(4));
        due("the year", 57, () -> x.count(3));
        due("one's signs", 57, () -> x.person(0, 4));
        x.years(1);
        x.years(1);
        due("a year that brought nothing", 4, x::undo);
        due("takes nothing", 400, () -> x.count(4));
        due("its year", 58, () -> x.count(3));
        due("the year that brought one", 3, x::undo);
        due("takes one", 399, () -> x.count(4));
    }

    private static void sings(String expr, int note) {
        TownTune x = of("elder 2 1 5;key 3;sings " + expr + ";");
        due(expr, note, () -> x.then(0));
    }

    private static void modTwelve() {
        says(10, "MOD 12 (0 to 11: 12 more, if below 0)");
        sings("0", 0);
        sings("11", 11);
        sings("12", 0);
        sings("13", 1);
        sings("23", 11);
        sings("24", 0);
        sings("0-1", 11);
        sings("0-11", 1);
        sings("0-12", 0);
        sings("0-13", 11);
        sings("0-24", 0);
        sings("0-9999", 9);

        says(10, "(without one BASE and KEY)");
        int[][] sums = {{0, 0, 0}, {5, 6, 11}, {6, 6, 0}, {11, 1, 0}, {11, 0, 11}, {0, 11, 11}, {11, 11, 10}};
        for (int[] sum : sums) {
            due("base " + sum[0] + " key " + sum[1], sum[2],
                    () -> of("elder 0 1 " + sum[0] + ";key " + sum[1] + ";").then(0));
        }
    }

    private static void kinds() {
        says(10, "of a child 7 more, of a spy 1 less (MOD 12 both)");
        for (int note = 0; note < 12; note++) {
            int n = note;
            due("a child of " + n, (n + 7) % 12, () -> of("child 0 1 0;sings " + n + ";").then(0));
            due("a spy of " + n, n == 0 ? 11 : n - 1, () -> of("spy 0 1 0;sings " + n + ";").then(0));
            due("a child of 12 less", (n + 7) % 12, () -> of("child 0 1 0;sings " + n + "-12;").then(0));
            due("a spy of 12 more", (n + 11) % 12, () -> of("spy 0 1 0;sings " + n + "+12;").then(0));
        }
        due("a child without SINGS", 0, () -> of("child 0 1 4;key 1;").then(0));
        due("a spy without SINGS", 11, () -> of("spy 0 1 11;key 1;").then(0));

        says(10, "of a deaf one BASE");
        for (int base = 0; base < 12; base += 11) {
            int b = base;
            due("with SINGS", b, () -> of("deaf 0 1 " + b + ";key 1;sings 5;").then(0));
            due("with a KEY", b, () -> of("deaf 0 1 " + b + ";key 1;").then(0));
        }
    }

    private static void foes() {
        says(10, "it is 6 more than that (MOD 12)");
        for (int note = 0; note < 12; note++) {
            int n = note;
            String ahead = "deaf 0 1 " + n + ";";
            for (String kind : new String[] {"elder", "child", "deaf", "spy"}) {
                due(kind + " behind " + n, (n + 6) % 12,
                        () -> of(ahead + kind + " 0 2 1;feud 0 1;sings 8;").then(1));
            }
            due("told the other way round", (n + 6) % 12,
                    () -> of(ahead + "elder 0 2 1;feud 1 0;").then(1));
        }

        says(10, "but if the sign ahead in THE TUNE is a NOTE, and of somebody with whom there is a FEUD");
        String three = "deaf 0 1 1;deaf 0 2 2;deaf 0 3 3;";
        dueTune("right behind", "173", of(three + "feud 0 1;", 1));
        dueTune("one is between", "123", of(three + "feud 0 2;", 1));
        dueTune("the first sign has none ahead", "171717", of(three + "feud 0 1;feud 0 2;feud 1 2;", 2));
        dueTune("across the end of a year", "123923923", of(three + "feud 0 2;", 3));
        dueTune("one alone sings behind oneself", "111", of("deaf 0 1 1;", 3));
        TownTune peace = of(three + "feud 0 1;", 1);
        peace.peace(0);
        peace.years(1);
        dueTune("no more when it has ended", "173123", peace);
        TownTune begun = of(three, 1);
        begun.quarrel(2, 1);
        begun.years(1);
        dueTune("from its beginning on", "123128", begun);
        TownTune dead = of(three + "feud 0 2;", 1);
        dead.dies(2);
        dead.years(2);
        dueTune("behind a dead foe's note", "1239212", dead);
    }

    private static void restsAndFoes() {
        says(10, "a REST, if AWAY");
        String[] kinds = {"elder", "child", "deaf", "spy"};
        int[] own = {3, 10, 5, 2};
        for (int i = 0; i < 4; i++) {
            String kind = kinds[i];
            int note = own[i];
            TownTune x = of("deaf 0 1 1;" + kind + " 0 2 5;feud 0 1;sings 3;");
            x.away(1, true);
            due(kind + " behind a foe", 12, () -> x.then(1));
            x.away(0, true);
            due(kind + " behind a rest", 12, () -> x.then(1));
            x.away(1, false);
            due(kind + " sings, if a foe's REST is ahead", note, () -> x.then(1));
        }
        TownTune dead = of("elder 0 1 5;elder 0 2 6;");
        dead.away(0, true);
        dead.dies(0);
        dead.years(1);
        dueTune("the dead leave no rest", "6", dead);
    }

    private static void arithmetic() {
        says(10, "ints that wrap, / cut down to 0, by 0 gives 0");
        // 9999 * 9999 * 21 is 2099580021, below 2^31 by 47903627.
        sings("9999*9999*21", Math.floorMod(2099580021, 12));
        sings("9999*9999*21+4790*9999+8416", Math.floorMod(MAX, 12));
        sings("9999*9999*21+4790*9999+8417", Math.floorMod(MIN, 12));
        sings("9999*9999*21+4790*9999+8417<0", 1);
        sings("9999*9999*21+4790*9999+8416<0", 0);
        sings("9999*9999*22<0", 1);
        sings("0-9999*9999*21-4790*9999-8417", Math.floorMod(MIN, 12));
        sings("0-9999*9999*21-4790*9999-8418", Math.floorMod(MAX, 12));
        sings("(9999*9999*21+4790*9999+8417)/(0-1)<0", 1);
        sings("(9999*9999*21+4790*9999+8417)/(0-1)", Math.floorMod(MIN, 12));
        sings("7/2", 3);
        sings("(0-7)/2", 9);
        sings("7/(0-2)", 9);
        sings("(0-7)/(0-2)", 3);
        sings("1/2", 0);
        sings("(0-1)/2", 0);
        sings("2/2", 1);
        sings("0/5", 0);
        sings("5/0", 0);
        sings("(0-5)/0", 0);
        sings("0/0", 0);
        sings("1+5/0", 1);
        sings("5/0+2", 2);
        sings("5/(3-3)*4+7", 7);

        says(10, "From the left");
        sings("10-4-3", 3);
        sings("10-(4-3)", 9);
        sings("8/4/2", 1);
        sings("8/(4/2)", 4);
        sings("2*7/4", 3);
        sings("7/4*2", 2);
        sings("7-4+2", 5);
        sings("2+3*3", 11);
        sings("10-2*3-1", 3);
        sings("9-8/4+1", 8);
    }

    private static void truth() {
        says(10, "tests, not, and, or are 1 or 0 (what isn't 0 holds)");
        sings("1<2", 1);
        sings("2<2", 0);
        sings("3<2", 0);
        sings("0-1<0", 1);
        sings("0<0-1", 0);
        sings("1=2", 0);
        sings("2=2", 1);
        sings("3=2", 0);
        sings("not 0", 1);
        sings("not 1", 0);
        sings("not 7", 0);
        sings("not (0-1)", 0);
        sings("0-1 and 0-2", 1);
        sings("0-1 or 0", 1);
        sings("0 or 0-1", 1);
        sings("5 and 7", 1);
        sings("5 and 0", 0);
        sings("0 and 5", 0);
        sings("0 and 0", 0);
        sings("5 or 7", 1);
        sings("0 or 0", 0);
        sings("1 or 0 and 0", 1);
        sings("0 and 0 or 1", 1);
        sings("0 and (0 or 1)", 0);
        sings("not 0 or 1", 1);
        sings("not (0 or 1)", 0);
        sings("not 1 and 0", 0);
        sings("not (1 and 0)", 1);
        sings("not 1 = 2", 1);
        sings("(not 1) = 0", 1);
        sings("not 3 + 4", 0);
        sings("1 + 1 < 3", 1);
        sings("1 < 1 + 1", 1);
        sings("1 + (1 < 3)", 2);
    }

    private static void lastNote() {
        says(10, "'last' (the NOTE ahead in the tune, that is no REST; the KEY, if there is none)");
        TownTune x = of("elder 0 1 0;elder 0 2 0;sings last+1;key 4;");
        due("none ahead", 5, () -> x.then(0));
        due("one ahead", 6, () -> x.then(1));
        x.away(0, true);
        due("a rest alone ahead", 5, () -> x.then(1));
        due("a note ahead of the rest", 6, () -> x.then(3));
        x.years(1);
        x.away(1, true);
        x.years(1);
        x.away(1, false);
        dueTune("rests", ".5..", x);
        due("three rests between", 6, () -> x.then(5));
        x.undo();
        x.undo();
        x.undo();
        x.undo();
        due("undone: none ahead again", 5, () -> x.then(1));
        TownTune undone = of("elder 0 1 0;sings last+2;key 4;", 1);
        undone.years(1);
        due("two notes: 6 8", 10, () -> undone.then(2));
        undone.undo();
        due("the second one is undone", 8, () -> undone.then(1));
        undone.away(0, true);
        undone.years(2);
        undone.years(1);
        undone.undo();
        undone.away(0, false);
        due("rests, of which one is undone", 8, () -> undone.then(3));
        TownTune married = of("elder 0 1 0;elder 1 2 0;sings last;key 4;");
        married.marry(0, 1);
        due("the KEY as it is now", 11, () -> married.then(0));
        due("0 is a NOTE", 0, () -> of("deaf 0 1 0;elder 0 2 0;sings last;key 4;").then(1));
    }

    private static void sung() {
        says(10, "'sung' (how many NOTES this PERSON has in the tune, RESTS too)");
        TownTune x = of("elder 0 1 0;elder 0 2 0;sings sung*(base+1);");
        due("none", 0, () -> x.then(0));
        due("one", 1, () -> x.then(2));
        due("not those of others", 1, () -> x.then(3));
        x.away(0, true);
        x.years(3);
        x.away(0, false);
        due("three rests", 3, () -> x.then(6));
        x.undo();
        x.undo();
        x.undo();
        due("undone", 0, () -> x.then(0));
    }

    private static void howManyYears() {
        says(10, "NONE (STATUS 1): not 1 to 20, it would be above 999.");
        TownTune x = of(HOUSES);
        for (int many : new int[] {MIN, -20, -1, 0, 21, 22, MAX}) {
            stays(many + " years", x, ACTS_REFUSED, NONE, () -> x.years(many));
        }
        due("1", 1, () -> x.years(1));
        due("2", 3, () -> x.years(2));
        due("19", 22, () -> x.years(19));
        due("20", 42, () -> x.years(20));
        due("four acts", 4, () -> x.count(10));
    }

    private static void lastYear() {
        says(10, "YEARS go by (1 to 20)");
        for (int many = 1; many <= 20; many++) {
            int m = many;
            TownTune some = of("deaf 0 1 5;");
            due(m + " go by", m, () -> some.years(m));
            due(m + " signs", m, () -> some.count(4));
        }
        says(10, "it would be above 999");
        TownTune x = of("elder 0 1 0;", 979);
        due("20 up to 999", 999, () -> x.years(20));
        stays("1 above", x, ACTS_REFUSED, NONE, () -> x.years(1));
        stays("20 above", x, ACTS_REFUSED, NONE, () -> x.years(20));
        x.undo();
        due("1 up to 980", 980, () -> x.years(1));
        stays("20 up to 1000", x, ACTS_REFUSED, NONE, () -> x.years(20));
        due("19 up to 999", 999, () -> x.years(19));
        x.undo();
        due("18 up to 998", 998, () -> x.years(18));
        stays("2 up to 1000", x, ACTS_REFUSED, NONE, () -> x.years(2));
        due("1 up to 999", 999, () -> x.years(1));
        TownTune nobody = pass(new TownTune(), 999);
        due("nobody's 999 years", 999, () -> nobody.count(3));
        due("no more of them", NONE, () -> nobody.years(1));
    }

    private static void comingAndGoing() {
        says(11, "False (STATUS 1): it is so already, DEAD.");
        TownTune x = of(HOUSES);
        stays("at home already", x, ACTS_REFUSED, 0, () -> is(x.away(0, false)));
        due("goes", 1, () -> is(x.away(0, true)));
        due("is away", 1, () -> x.count(7));
        stays("away already", x, ACTS_REFUSED, 0, () -> is(x.away(0, true)));
        due("comes home", 1, () -> is(x.away(0, false)));
        due("is at home", 0, () -> x.count(7));
        stays("at home again", x, ACTS_REFUSED, 0, () -> is(x.away(0, false)));
        x.dies(1);
        stays("dead at home", x, ACTS_REFUSED, 0, () -> is(x.away(1, true)));
        stays("dead at home, home", x, ACTS_REFUSED, 0, () -> is(x.away(1, false)));
        x.away(2, true);
        x.dies(2);
        stays("dead away", x, ACTS_REFUSED, 0, () -> is(x.away(2, false)));
        stays("dead away, away", x, ACTS_REFUSED, 0, () -> is(x.away(2, true)));
        due("five acts", 5, () -> x.count(10));
        x.marry(0, 3);
        due("the married too", 1, () -> is(x.away(0, true)));
    }

    private static void dying() {
        says(12, "False (STATUS 1): DEAD already.");
        TownTune x = of(HOUSES);
        due("dies", 1, () -> is(x.dies(0)));
        stays("dead", x, ACTS_REFUSED, 0, () -> is(x.dies(0)));
        x.away(1, true);
        due("away one dies", 1, () -> is(x.dies(1)));
        stays("dead and away", x, ACTS_REFUSED, 0, () -> is(x.dies(1)));
        x.undo();
        due("undone, and again", 1, () -> is(x.dies(1)));
        x.marry(2, 3);
        due("the married too", 1, () -> is(x.dies(2)));
        due("and stay so", 12, () -> x.count(9));
    }

    private static void marrying() {
        says(13, "NONE (STATUS 1): both are one, they may not.");
        TownTune x = of(HOUSES + "elder 0 5 0;");
        stays("one", x, ACTS_REFUSED, NONE, () -> x.marry(0, 0));
        says(13, "two MARRY (PEOPLE at home, not DEAD, of unlike HOUSES, each unmarried)");
        stays("of one house", x, ACTS_REFUSED, NONE, () -> x.marry(0, 4));
        stays("of one house, the other way round", x, ACTS_REFUSED, NONE, () -> x.marry(4, 0));
        x.away(1, true);
        stays("the first is away", x, ACTS_REFUSED, NONE, () -> x.marry(1, 0));
        stays("the second is away", x, ACTS_REFUSED, NONE, () -> x.marry(0, 1));
        x.away(1, false);
        x.dies(2);
        stays("the first is dead", x, ACTS_REFUSED, NONE, () -> x.marry(2, 0));
        stays("the second is dead", x, ACTS_REFUSED, NONE, () -> x.marry(0, 2));
        due("they may", 7, () -> x.marry(0, 1));
        stays("both are married", x, ACTS_REFUSED, NONE, () -> x.marry(0, 1));
        TownTune y = of(HOUSES + "elder 0 5 0;");
        y.marry(0, 1);
        stays("the first is married", y, ACTS_REFUSED, NONE, () -> y.marry(0, 2));
        stays("the second is married", y, ACTS_REFUSED, NONE, () -> y.marry(2, 0));
        y.dies(0);
        stays("a widow stays married", y, ACTS_REFUSED, NONE, () -> y.marry(2, 1));
        due("two others may", 2, () -> y.marry(3, 2));
        due("all but one are married", 15, () -> y.count(9));
        TownTune foes = of("elder 0 1 0;elder 1 2 0;feud 0 1;");
        due("foes may", 7, () -> foes.marry(0, 1));
        TownTune undone = of(HOUSES);
        undone.marry(2, 3);
        undone.marry(0, 1);
        undone.undo();
        due("the others stay married", 12, () -> undone.count(9));
        due("whose marriage is UNDONE may again", 2, () -> undone.marry(1, 0));

        says(13, "the second one is of the first one's HOUSE");
        TownTune houses = of(HOUSES);
        houses.marry(2, 1);
        due("the first one's stays", 2, () -> houses.person(2, 1));
        due("the second one's", 2, () -> houses.person(1, 1));
        houses.marry(0, 3);
        due("0 too", 0, () -> houses.person(3, 1));
        TownTune moved = of("elder 0 1 0;elder 1 2 0;elder 1 3 0;elder 0 4 0;");
        moved.marry(0, 1);
        due("others of that house don't move", 1, () -> moved.person(2, 1));
    }

    private static void keyByMarriage() {
        says(13, "KEY is 7 more (MOD 12)");
        for (int key = 0; key < 12; key++) {
            int k = key;
            TownTune x = of("elder 0 1 0;elder 1 2 0;key " + k + ";");
            due("from " + k, (k + 7) % 12, () -> x.marry(0, 1));
            due("it is so", (k + 7) % 12, () -> x.count(2));
            x.undo();
            due("undone", k, () -> x.count(2));
        }
        TownTune four = of("elder 0 1 0;elder 1 2 0;elder 2 3 0;elder 3 4 0;elder 0 5 0;elder 1 6 0;elder 2 7 0;"
                + "elder 3 8 0;");
        int[] keys = {7, 2, 9, 4};
        for (int i = 0; i < 4; i++) {
            int one = 2 * i;
            due("the couple " + i, keys[i], () -> four.marry(one, one + 1));
        }
    }

    private static void quarrelling() {
        says(14, "NONE (STATUS 1): both are one, they have one, there are 6.");
        TownTune x = of(HOUSES + "feud 0 1;");
        stays("one", x, ACTS_REFUSED, NONE, () -> x.quarrel(2, 2));
        stays("they have one", x, ACTS_REFUSED, NONE, () -> x.quarrel(0, 1));
        stays("either way round", x, ACTS_REFUSED, NONE, () -> x.quarrel(1, 0));
        says(14, "a FEUD begins (its number is the next one)");
        due("its number is the next one", 1, () -> x.quarrel(2, 1));
        due("the first one of it", 2, () -> x.feud(1, 0));
        due("the second one of it", 1, () -> x.feud(1, 1));
        stays("a begun one", x, ACTS_REFUSED, NONE, () -> x.quarrel(1, 2));
        x.peace(0);
        due("they have none any more", 1, () -> x.quarrel(1, 0));
        x.dies(3);
        x.away(2, true);
        due("the dead and those away may", 2, () -> x.quarrel(3, 2));
        TownTune none = of(HOUSES);
        due("the first of all", 0, () -> none.quarrel(3, 0));
    }

    private static void sixFeuds() {
        says(14, "there are 6");
        TownTune x = of(HOUSES + "elder 0 5 0;feud 0 1;feud 0 2;feud 0 3;feud 1 2;");
        due("the 5th", 4, () -> x.quarrel(1, 3));
        due("the 6th", 5, () -> x.quarrel(2, 3));
        due("six", 6, () -> x.count(1));
        stays("no 7th", x, ACTS_REFUSED, NONE, () -> x.quarrel(4, 0));
        x.peace(5);
        due("the 6th again", 5, () -> x.quarrel(4, 0));
        x.undo();
        due("undone, and again", 5, () -> x.quarrel(0, 4));
        due("of one", 4, () -> x.person(0, 6));
    }

    private static void peace() {
        says(15, "False (STATUS 1): there is no such one.");
        TownTune x = of(HOUSES + "feud 0 1;feud 2 3;feud 1 2;");
        for (int feud : new int[] {MIN, -1, 3, 6, MAX}) {
            stays("feud " + feud, x, ACTS_REFUSED, 0, () -> is(x.peace(feud)));
        }
        due("the last", 1, () -> is(x.peace(2)));
        stays("it is no more", x, ACTS_REFUSED, 0, () -> is(x.peace(2)));
        due("the first", 1, () -> is(x.peace(0)));
        due("the other one is the first", 2, () -> x.feud(0, 0));
        due("the first again", 1, () -> is(x.peace(0)));
        stays("none is left", x, ACTS_REFUSED, 0, () -> is(x.peace(0)));
        due("none", 0, () -> x.count(1));

        for (int ended = 0; ended < 6; ended++) {
            numbersBehind(ended);
        }
    }

    private static void numbersBehind(int ended) {
        says(15, "(numbers behind it are one less)");
        int[][] six = {{0, 7}, {6, 1}, {2, 3}, {4, 5}, {7, 2}, {5, 0}};
        StringBuilder text = new StringBuilder(elders(8));
        for (int[] feud : six) {
            text.append("feud ").append(feud[0]).append(' ').append(feud[1]).append(';');
        }
        TownTune x = of(text.toString());
        x.peace(ended);
        for (int i = 0; i < 5; i++) {
            int feud = i;
            int[] told = six[i < ended ? i : i + 1];
            due(ended + " ended, the first one of " + feud, told[0], () -> x.feud(feud, 0));
            due(ended + " ended, the second one of " + feud, told[1], () -> x.feud(feud, 1));
        }
        due("no sixth", NO_SUCH, () -> x.feud(5, 0));
        x.undo();
        for (int i = 0; i < 6; i++) {
            int feud = i;
            due(ended + " UNDONE, the first one of " + feud, six[i][0], () -> x.feud(feud, 0));
            due(ended + " UNDONE, the second one of " + feud, six[i][1], () -> x.feud(feud, 1));
        }
    }

    private static void numbersOfOne() {
        says(15, "(numbers behind it are one less)");
        TownTune y = of(elders(7) + "feud 0 1;feud 0 2;feud 0 3;feud 0 4;feud 0 5;feud 0 6;");
        y.peace(2);
        int[] seconds = {1, 2, 4, 5, 6};
        for (int i = 0; i < 5; i++) {
            int feud = i;
            due("feud " + feud, seconds[feud], () -> y.feud(feud, 1));
        }
        due("no 6th", NO_SUCH, () -> y.feud(5, 1));
    }

    private static void undoing() {
        says(16, "NONE: there is none.");
        TownTune x = of(HOUSES);
        stays("none yet", x, NOTHING, NONE, x::undo);
        x.years(0);
        stays("a refused one is none", x, NOTHING, NONE, x::undo);
        x.away(0, true);
        x.years(1);
        due("two", 1, x::undo);
        due("one", 0, x::undo);
        stays("none any more", x, NOTHING, NONE, x::undo);
        x.years(1);
        Check.tell(x, HOUSES);
        stays("a new town has none", x, NOTHING, NONE, x::undo);
    }

    private static void actsKept() {
        says(16, "ACTS (at most 40 are kept, the latest ones)");
        TownTune x = of("elder 0 1 0;");
        for (int i = 1; i <= 39; i++) {
            x.away(0, i % 2 == 1);
        }
        due("39", 39, () -> x.count(10));
        x.away(0, false);
        due("40", 40, () -> x.count(10));
        x.years(1);
        due("the 41st", 40, () -> x.count(10));
        x.years(1);
        due("the 42nd", 40, () -> x.count(10));
        due("it is UNDONE", 39, x::undo);
        due("its year", 1, () -> x.count(3));
        x.years(1);
        due("full again", 40, () -> x.count(10));
        for (int left = 39; left >= 0; left--) {
            int due = left;
            due("left", due, x::undo);
        }
        stays("the first two aren't kept", x, NOTHING, NONE, x::undo);
        due("they came to nothing", 0, () -> x.count(7));
        TownTune forty = of("elder 0 1 0;");
        for (int i = 1; i <= 40; i++) {
            forty.away(0, i % 2 == 1);
        }
        for (int i = 1; i <= 40; i++) {
            forty.undo();
        }
        due("40 of 40 are UNDONE", 0, () -> forty.count(7));
        due("and no more", NONE, forty::undo);
    }

    /** Forty acts that leave nothing but themselves: then each is undone. */
    private static void fortyMore(TownTune x, int person) {
        for (int i = 0; i < 40; i++) {
            x.away(person, i % 2 == 0);
        }
        for (int i = 0; i < 40; i++) {
            x.undo();
        }
        due("none is left", NONE, x::undo);
    }

    private static void oldestActs() {
        says(16, "the latest ones");
        TownTune years = of(HOUSES);
        years.years(2);
        fortyMore(years, 3);
        due("the years stay", 2, () -> years.count(3));
        due("the signs too", 8, () -> years.count(4));
        TownTune away = of(HOUSES);
        away.away(1, true);
        fortyMore(away, 3);
        due("one stays away", 2, () -> away.count(7));
        TownTune dead = of(HOUSES);
        dead.dies(1);
        fortyMore(dead, 3);
        due("one stays dead", 2, () -> dead.count(8));
        TownTune married = of(HOUSES);
        married.marry(0, 1);
        fortyMore(married, 3);
        due("two stay married", 3, () -> married.count(9));
        due("in their key", 7, () -> married.count(2));
        TownTune feud = of(HOUSES);
        feud.quarrel(0, 1);
        fortyMore(feud, 3);
        due("the feud stays", 1, () -> feud.count(1));
        TownTune peace = of(HOUSES + "feud 0 1;");
        peace.peace(0);
        fortyMore(peace, 3);
        due("the peace stays", 0, () -> peace.count(1));
    }

    private static void actsUndoneInOrder() {
        says(16, "They are UNDONE, the last one first.");
        TownTune x = of(HOUSES + "key 9;feud 0 1;feud 1 2;feud 2 3;sings base+key+house;", 1);
        x.peace(1);
        x.peace(0);
        x.quarrel(3, 0);
        x.marry(3, 1);
        x.years(1);
        x.away(2, true);
        x.dies(2);
        due("the death", 7, x::undo);
        due("is away", 4, () -> x.count(7));
        due("lives", 0, () -> x.count(8));
        due("the going", 6, x::undo);
        due("is at home", 0, () -> x.count(7));
        due("the year", 5, x::undo);
        due("four signs", 4, () -> x.count(4));
        due("the marriage", 4, x::undo);
        due("the house", 1, () -> x.person(1, 1));
        due("the key", 9, () -> x.count(2));
        due("unmarried", 0, () -> x.count(9));
        due("the feud", 3, x::undo);
        due("one is left", 1, () -> x.count(1));
        due("that of 2 and 3", 2, () -> x.feud(0, 0));
        due("the second peace", 2, x::undo);
        due("the first feud is back", 1, () -> x.feud(0, 1));
        due("the other one is behind it", 2, () -> x.feud(1, 0));
        due("the first peace", 1, x::undo);
        due("between them", 1, () -> x.feud(1, 0));
        due("its second", 2, () -> x.feud(1, 1));
        due("the last", 3, () -> x.feud(2, 1));
        due("the first year", 0, x::undo);
        due("no signs", 0, () -> x.count(4));
        due("nor of one", 0, () -> x.person(3, 4));
    }

    /** All that ACTS change. */
    private static String all(TownTune x) {
        StringBuilder b = new StringBuilder(Check.tune(x));
        for (int what = 0; what < 10; what++) {
            b.append(' ').append(x.count(what));
        }
        for (int person = 0; person < x.count(0); person++) {
            b.append(' ').append(x.person(person, 1)).append(' ').append(x.person(person, 4));
        }
        for (int feud = 0; feud < x.count(1); feud++) {
            b.append(' ').append(x.feud(feud, 0)).append(' ').append(x.feud(feud, 1));
        }
        return b.toString();
    }

    private interface Act {
        long on(TownTune x);
    }

    private static void undoneAlone(String at, Act act) {
        for (int years = 0; years < 3; years++) {
            TownTune x = of(HOUSES + "elder 1 5 3;feud 0 1;feud 2 3;key 6;sings last+sung;", years);
            x.away(2, true);
            x.marry(0, 1);
            int kept = x.count(10);
            String before = all(x);
            act.on(x);
            String between = all(x);
            due(at + ", how many are left", kept, x::undo);
            String after = all(x);
            due(at + " changes something", 0, () -> is(before.equals(between)));
            due(at + " leaves " + after + " for " + before, 1, () -> is(before.equals(after)));
        }
    }

    private static void undoneOneByOne() {
        says(16, "The last ACT is UNDONE");
        undoneAlone("a year", x -> x.years(1));
        undoneAlone("twenty years", x -> x.years(20));
        undoneAlone("going", x -> is(x.away(3, true)));
        undoneAlone("coming home", x -> is(x.away(2, false)));
        undoneAlone("a death", x -> is(x.dies(3)));
        undoneAlone("a death away", x -> is(x.dies(2)));
        undoneAlone("a marriage", x -> x.marry(3, 4));
        undoneAlone("a marriage the other way round", x -> x.marry(4, 3));
        undoneAlone("a quarrel", x -> x.quarrel(4, 0));
        undoneAlone("a peace", x -> is(x.peace(0)));
        undoneAlone("the last peace", x -> is(x.peace(1)));
    }

    private static void refusedActs() {
        says(5, "STATUS: how many calls were refused: 0 TEXTS with a FAULT, 1 ACTS, 2 what is HEARD.");
        TownTune x = of(HOUSES);
        Check.Call[] acts = {() -> x.years(0), () -> is(x.away(0, false)), () -> x.marry(0, 0),
            () -> x.quarrel(0, 0), () -> is(x.peace(0))};
        for (int i = 0; i < acts.length; i++) {
            int refused = i + 1;
            acts[i].get();
            due("acts", refused, () -> x.count(ACTS_REFUSED));
        }
        x.dies(0);
        x.dies(0);
        due("a death", 6, () -> x.count(ACTS_REFUSED));
        x.hear(-1, 0);
        x.hear(0, 13);
        due("what is heard", 2, () -> x.count(HEARD_REFUSED));
        Check.tell(x, "?");
        Check.tell(x, "?");
        Check.tell(x, "?");
        due("texts", 3, () -> x.count(TEXTS_REFUSED));
        due("acts still", 6, () -> x.count(ACTS_REFUSED));
        x.town(0);
        due("a good text is none of them", 3, () -> x.count(TEXTS_REFUSED));
        due("and keeps the others", 6, () -> x.count(ACTS_REFUSED));
        due("all of them", 2, () -> x.count(HEARD_REFUSED));
    }
}
