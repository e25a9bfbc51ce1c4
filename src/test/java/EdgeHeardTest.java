import java.io.IOException;

/** The boundary cases of what is HEARD, of votes, games, centuries and images: promises 30 to 38. */
final class EdgeHeardTest extends Edge {
    /** 0 4 7 each year. */
    private static final String CHORD = "deaf 0 1 0;deaf 1 2 4;deaf 2 3 7;";

    private EdgeHeardTest() {
    }

    public static void main(String[] args) throws IOException {
        hearing();
        eightHeard();
        forgetting();
        spyWhat();
        spyPlaces();
        spyYears();
        spyKinds();
        spyBehindFoes();
        spyOfAll();
        listenWhat();
        listenPlaces();
        listenFull();
        listenMost();
        votes();
        voteSigns();
        voteNotes();
        gameWhat();
        gameHouses();
        gameChoices();
        gameGains();
        gameFull();
        gameFirst();
        centuryWhat();
        centuryYears();
        centuryOfOne();
        centuryOfEight();
        centuryFull();
        imageAndRestore();
        imageKeeps();
        imageOfAnotherTune();
        imageGone();
        end("EdgeHeardTest", args);
    }

    private static void hearing() {
        says(30, "NONE (STATUS 2): there are 8, no such place, sign.");
        TownTune x = of(CHORD);
        for (int place : new int[] {MIN, -1, 400, MAX}) {
            stays("place " + place, x, HEARD_REFUSED, NONE, () -> x.hear(place, 0));
        }
        for (int sign : new int[] {MIN, -1, 13, MAX}) {
            stays("sign " + sign, x, HEARD_REFUSED, NONE, () -> x.hear(0, sign));
        }
        stays("both", x, HEARD_REFUSED, NONE, () -> x.hear(-1, -1));
        due("the first place, the least sign", 1, () -> x.hear(0, 0));
        due("the last place, the greatest sign", 2, () -> x.hear(399, 12));
        due("the greatest note", 3, () -> x.hear(398, 11));
        due("so much", 3, () -> x.count(11));
    }

    private static void eightHeard() {
        says(30, "that the sign at a place (0 to 399)");
        TownTune ends = of("deaf 0 1 0;", 399);
        ends.hear(0, 0);
        ends.hear(399, 0);
        due("both ends are so", 1, () -> ends.spy(2));
        says(30, "NOTES are 0 to 11, a REST is 12.");
        for (int sign = 0; sign <= 12; sign++) {
            TownTune sung = song("" + "0123456789ab.".charAt(sign));
            int s = sign;
            due("heard " + s, 1, () -> sung.hear(0, s));
            due("it is so " + s, 1, () -> sung.spy(2));
            sung.forget();
            sung.hear(0, (s + 1) % 13);
            due("it isn't the next one " + s, 0, () -> sung.spy(2));
        }
        says(30, "HEARD (at most 8)");
        TownTune x = of(CHORD);
        for (int i = 1; i <= 8; i++) {
            int many = i;
            due("heard", many, () -> x.hear(0, 0));
        }
        due("8", 8, () -> x.count(11));
        stays("the 9th", x, HEARD_REFUSED, NONE, () -> x.hear(0, 0));
        stays("the 9th that could not be either", x, HEARD_REFUSED, NONE, () -> x.hear(400, 13));
        due("all are so", 1, () -> x.spy(2));
        x.forget();
        for (int i = 0; i < 7; i++) {
            x.hear(0, 0);
        }
        x.hear(1, 5);
        due("the 8th counts", 0, () -> x.spy(2));
        TownTune first = of(CHORD);
        first.hear(1, 5);
        for (int i = 0; i < 7; i++) {
            first.hear(0, 0);
        }
        due("the first counts", 0, () -> first.spy(2));
        due("no ACT", 0, () -> first.count(10));
    }

    private static void forgetting() {
        says(33, "All that is HEARD is forgotten.");
        TownTune x = of(CHORD);
        x.forget();
        due("nothing", 0, () -> x.count(11));
        x.hear(0, 9);
        due("not so", 0, () -> x.spy(2));
        x.forget();
        due("forgotten", 0, () -> x.count(11));
        due("so again", 1, () -> x.spy(2));
        for (int i = 0; i < 9; i++) {
            x.hear(0, 0);
        }
        x.forget();
        due("eight forgotten", 0, () -> x.count(11));
        due("the next one is the first", 1, () -> x.hear(0, 0));
        due("what was refused is not forgotten", 1, () -> x.count(HEARD_REFUSED));
    }

    private static void spies(String at, TownTune x, int many, int first, int without) {
        due(at + ": how many", many, () -> x.spy(0));
        due(at + ": the first", first, () -> x.spy(1));
        due(at + ": without", without, () -> x.spy(2));
    }

    private static void spyWhat() {
        says(31, "how many (what 0), the first (1; NONE: none), whether without (2). "
                + "NoSuchElementException: another what.");
        TownTune x = of(CHORD);
        for (int what : new int[] {MIN, -1, 3, MAX}) {
            stays("what " + what, x, NOTHING, NO_SUCH, () -> x.spy(what));
        }
        spies("nothing heard", x, 3, 0, 1);
        x.hear(2, 6);
        spies("the third one", x, 1, 2, 0);
        x.hear(1, 3);
        spies("two of them can't be", x, 0, NONE, 0);
        spies("nobody", new TownTune(), 0, NONE, 1);
        TownTune nobody = new TownTune();
        nobody.hear(0, 0);
        spies("nobody, and something heard", nobody, 0, NONE, 0);
        TownTune others = of(CHORD);
        others.hear(0, 0);
        spies("all but the first", others, 2, 1, 1);
        stays("nothing changes", others, NOTHING, 2, () -> others.spy(0));
    }

    private static void spyPlaces() {
        says(31, "were that one a spy besides what one is (1 less, but behind foes");
        TownTune x = of(CHORD, 2);
        x.hear(5, 7);
        spies("the last sign sung", x, 3, 0, 1);
        x.forget();
        x.hear(5, 6);
        spies("what is sung stays: from now on", x, 0, NONE, 0);
        x.forget();
        x.hear(6, 11);
        spies("the first to come", x, 1, 0, 0);
        x.forget();
        x.hear(0, 0);
        x.hear(6, 11);
        spies("one is sung, one is to come", x, 1, 0, 0);
    }

    private static void spyYears() {
        says(31, "in how many YEARS it leads to (20 at most)");
        TownTune x = of(CHORD);
        x.hear(59, 7);
        spies("the last sign in 20 years", x, 2, 0, 1);
        x.forget();
        x.hear(60, 0);
        spies("the first sign in 21", x, 0, NONE, 0);
        TownTune later = of(CHORD, 3);
        later.hear(68, 6);
        spies("the last sign in 20 years from now", later, 1, 2, 0);
        later.forget();
        later.hear(69, 0);
        spies("the first sign in 21 from now", later, 0, NONE, 0);
        TownTune full = of("deaf 0 1 5;", 399);
        full.hear(399, 4);
        spies("the 400th sign", full, 1, 0, 0);
        full.years(1);
        spies("it is sung", full, 0, NONE, 0);
        TownTune dead = of(CHORD);
        dead.dies(0);
        dead.dies(1);
        dead.hear(19, 7);
        spies("one lives: the 20th sign", dead, 2, 0, 1);
        dead.forget();
        dead.hear(20, 7);
        spies("one lives: no 21st", dead, 0, NONE, 0);
    }

    private static void spyKinds() {
        says(31, "one who is told as a spy: were that one none, not 1 less");
        for (int note = 0; note < 12; note++) {
            int n = note;
            TownTune spy = of("spy 0 1 0;sings " + n + ";");
            spy.hear(0, n);
            spies("a spy of " + n, spy, 1, 0, 0);
            spy.forget();
            spy.hear(0, (n + 11) % 12);
            spies("a spy of " + n + " as told", spy, 0, NONE, 1);
            TownTune elder = of("elder 0 1 0;sings " + n + ";");
            elder.hear(0, (n + 11) % 12);
            spies("an elder of " + n, elder, 1, 0, 0);
            TownTune child = of("child 0 1 0;sings " + n + ";");
            child.hear(0, (n + 6) % 12);
            spies("a child of " + n, child, 1, 0, 0);
            TownTune deaf = of("deaf 0 1 " + n + ";");
            deaf.hear(0, (n + 11) % 12);
            spies("a deaf one of " + n, deaf, 1, 0, 0);
        }
        TownTune kind = of("elder 0 1 5;sings kind;");
        kind.hear(0, 11);
        spies("who stays what one is", kind, 1, 0, 0);
        TownTune told = of("spy 0 1 5;sings kind;");
        told.hear(0, 3);
        spies("who stays what one is told", told, 1, 0, 0);
    }

    private static void spyBehindFoes() {
        says(31, "(1 less, but behind foes");
        TownTune x = of("deaf 0 1 0;deaf 1 2 3;feud 0 1;");
        x.hear(0, 0);
        x.hear(1, 6);
        spies("6 more, and not 1 less", x, 1, 1, 1);
        x.forget();
        x.hear(1, 5);
        spies("6 more than the spy's", x, 1, 0, 0);
        x.forget();
        x.hear(2, 0);
        spies("behind a foe around the year", x, 1, 1, 1);
        x.forget();
        x.hear(0, 0);
        x.away(0, true);
        x.years(1);
        x.hear(3, 2);
        spies("a rest is no sign of a foe's to sing behind", x, 0, NONE, 0);
        x.forget();
        x.hear(3, 2);
        spies("the second one", x, 1, 1, 0);
    }

    private static void spyOfAll() {
        says(31, "PEOPLE by one of whom");
        TownTune x = of(elders(8));
        spies("eight", x, 8, 0, 1);
        x.hear(7, 11);
        spies("the eighth", x, 1, 7, 0);
        x.forget();
        x.hear(7, 0);
        spies("all but the eighth", x, 7, 0, 1);
        TownTune away = of(CHORD);
        away.away(0, true);
        away.dies(1);
        away.hear(1, 7);
        spies("who is away or dead sings nothing lower", away, 2, 0, 1);
        away.forget();
        away.hear(0, 12);
        spies("a rest is no less", away, 3, 0, 1);
        away.forget();
        away.hear(0, 11);
        spies("a rest is no 11", away, 0, NONE, 0);
    }

    private static void listens(String at, TownTune x, int place, int many) {
        due(at + ": the place", place, () -> x.listen(0));
        due(at + ": how many", many, () -> x.listen(1));
    }

    private static void listenWhat() {
        says(32, "the place (what 0; NONE), how many (1; 0: none). NoSuchElementException: another what.");
        TownTune x = of(CHORD);
        for (int what : new int[] {MIN, -1, 2, MAX}) {
            stays("what " + what, x, NOTHING, NO_SUCH, () -> x.listen(what));
        }
        listens("three", x, 0, 2);
        x.hear(0, 11);
        listens("one", x, 0, 1);
        x.hear(1, 3);
        says(32, "none without any");
        listens("of nobody all would be so", x, NONE, 0);
        listens("nobody", new TownTune(), NONE, 0);
        stays("nothing changes", x, NOTHING, NONE, () -> x.listen(0));
    }

    private static void listenPlaces() {
        says(32, "the place (from the end of THE TUNE on, 60 at most, none above 399)");
        TownTune x = of(CHORD, 1);
        x.hear(0, 0);
        listens("from the end on", x, 3, 2);
        TownTune one = of("deaf 0 1 5;", 7);
        listens("of one alone the first place", one, 7, 1);
        TownTune sung = of(CHORD, 1);
        sung.hear(1, 4);
        listens("what is heard is sung already", sung, 3, 2);
        TownTune foes = of("deaf 0 1 1;deaf 0 2 2;feud 0 1;", 1);
        listens("behind a foe who ends the tune nobody is unlike", foes, 2, 1);
        TownTune shorter = of("deaf 0 1 5;", 80);
        shorter.again(0);
        for (int i = 0; i < 4; i++) {
            shorter.undo();
        }
        listens("of one alone, when a longer tune is undone", shorter, 0, 1);
        // The bearer of the base that is due sings by 'last' in a year; all others sing 0.
        String eight = "elder 0 1 0;elder 0 2 1;elder 0 3 2;elder 0 4 3;elder 0 5 4;elder 0 6 5;elder 0 7 6;"
                + "elder 0 8 7;sings (year=%d)*(base=%d)*last*3;";
        listens("the 60th", of(String.format(eight, 7, 3)), 59, 3);
        listens("not the 61st", of(String.format(eight, 7, 4)), 0, 2);
        listens("the 60th from now", of(String.format(eight, 8, 3), 1), 67, 3);
        listens("not the 61st from now", of(String.format(eight, 8, 4), 1), 8, 2);
        // The dead one, who changes nothing, is the third of whom it may be.
        listens("within 20 years", two("sings (year=19)*last*3;", 0), 38, 3);
        listens("not in 21", two("sings (year=20)*last*3;", 0), 0, 2);
    }

    /** Two who live, and a dead one. */
    private static TownTune two(String sings, int years) {
        TownTune x = of("elder 0 1 1;elder 0 2 0;deaf 0 3 0;" + sings);
        x.dies(2);
        return pass(x, years);
    }

    private static void listenFull() {
        says(32, "none above 399");
        TownTune seven = of(elders(7), 57);
        listens("one place is left", seven, 399, 2);
        seven.years(1);
        listens("none is left", seven, NONE, 0);
        TownTune eight = of(elders(8), 49);
        listens("eight are left", eight, 392, 2);
        eight.hear(392, 0);
        listens("eight are left, the second of them", eight, 393, 2);
        listens("the place 399", two("sings 5+(year=199)*(base=0)*last*3;", 190), 399, 3);
        listens("no place 401", two("sings 5+(year=200)*(base=0)*last*3;", 190), 380, 2);
    }

    private static void listenMost() {
        says(32, "at which these would have most unlike signs (none counts as one; of like ones the first): how many");
        TownTune dead = of("deaf 0 1 5;", 2);
        dead.dies(0);
        listens("none counts as one", dead, 2, 1);
        TownTune chain = of("elder 0 1 0;elder 0 2 0;elder 0 3 0;sings last*2+1;");
        listens("three unlike ones", chain, 1, 3);
        chain.hear(0, 1);
        listens("without the first one", chain, 1, 2);
        listens("of like ones the first", of("deaf 0 1 5;deaf 0 2 5;"), 0, 2);
        TownTune away = of("deaf 0 1 5;deaf 0 2 5;");
        away.away(0, true);
        listens("the second place", away, 1, 2);
        away.away(1, true);
        listens("rests alone", away, 0, 1);
    }

    private static void votes() {
        says(34, "THE VOTE (0 without deaf ones).");
        due("nobody", 0, new TownTune()::vote);
        due("none is deaf", 0, of("elder 0 1 5;child 0 2 5;spy 0 3 5;", 1)::vote);
        due("one", 1, of("deaf 0 1 5;", 1)::vote);
        TownTune eight = of("deaf 0 1 5;deaf 0 2 5;deaf 0 3 5;deaf 0 4 5;deaf 0 5 5;deaf 0 6 5;deaf 0 7 5;deaf 0 8 5;");
        due("eight against an empty tune", -8, eight::vote);
        eight.years(1);
        due("eight for", 8, eight::vote);

        says(34, "THE VOTE of the deaf (at home, not DEAD)");
        eight.away(0, true);
        due("one is away", 7, eight::vote);
        eight.dies(7);
        due("one is dead", 6, eight::vote);
        eight.dies(0);
        due("who was away is dead", 6, eight::vote);
        TownTune gone = of("deaf 0 1 5;", 1);
        gone.away(0, true);
        due("the only one is away", 0, gone::vote);
        gone.away(0, false);
        due("at home again", 1, gone::vote);
        gone.dies(0);
        due("the only one is dead", 0, gone::vote);
    }

    private static void voteSigns() {
        says(34, "the last signs of THE TUNE (as many as there are PEOPLE not DEAD, or all, if there are fewer)");
        due("an empty tune", -1, of("deaf 0 1 5;elder 0 2 5;")::vote);
        // 5 0 0 and 5 0, of two who live: the last two are 5 0.
        TownTune two = of("deaf 0 1 5;elder 0 2 0;elder 0 3 0;", 1);
        due("5 0 0 of three", 1, two::vote);
        two.dies(2);
        due("0 0 of two", -1, two::vote);
        two.years(1);
        due("5 0 of two", 1, two::vote);
        two.dies(1);
        due("0 of one", -1, two::vote);
        TownTune away = of("deaf 0 1 5;elder 0 2 0;elder 0 3 0;", 1);
        away.away(1, true);
        away.away(2, true);
        due("who is away counts among them", 1, away::vote);
        away.years(1);
        due("5 and two rests", 1, away::vote);
        TownTune full = of("deaf 0 1 5;deaf 0 2 7;", 200);
        due("a full tune", 2, full::vote);
    }

    private static void voteNotes() {
        says(34, "more of the NOTE BASE (his) than of that 6 more (MOD 12)");
        for (int base = 0; base < 12; base++) {
            String deaf = "deaf 0 1 " + base + ";";
            int six = (base + 6) % 12;
            int five = (base + 5) % 12;
            due("one and none of " + base, 1, of(deaf, 1)::vote);
            due("one and one of " + base, -1, of(deaf + "elder 0 2 " + six + ";", 1)::vote);
            due("one, and another of " + base, 1, of(deaf + "elder 0 2 " + five + ";", 1)::vote);
            due("two and one of " + base, 1,
                    of(deaf + "elder 0 2 " + six + ";elder 0 3 " + base + ";", 1)::vote);
            due("one and two of " + base, -1, of(deaf + "elder 0 2 " + six + ";elder 0 3 " + six + ";", 1)::vote);
        }
        TownTune none = of("deaf 0 1 5;elder 0 2 0;");
        none.away(0, true);
        none.years(1);
        none.away(0, false);
        due("none and none", -1, none::vote);

        says(34, "how many are for, less how many aren't");
        due("two for, one against", 1, of("deaf 0 1 5;deaf 0 2 7;deaf 0 3 2;elder 0 4 8;", 1)::vote);
        due("one for, two against", -1, of("deaf 0 1 5;deaf 0 2 11;deaf 0 3 2;", 1)::vote);
    }

    private static void gameWhat() {
        says(35, "how many couples rest (what 0), the first (1; NONE: none). NoSuchElementException: another what.");
        TownTune x = of(CHORD);
        for (int what : new int[] {MIN, -1, 2, MAX}) {
            stays("what " + what, x, NOTHING, NO_SUCH, () -> x.game(0, 1, what));
            due("what " + what + " ahead of houses", NO_SUCH, () -> x.game(0, 0, what));
            due("what " + what + " ahead of no house", NO_SUCH, () -> x.game(-1, 4, what));
        }
        due("how many", 2, () -> x.game(0, 1, 0));
        due("the first", 0, () -> x.game(0, 1, 1));
        stays("nothing changes", x, NOTHING, 2, () -> x.game(0, 1, 0));
    }

    private static void gameHouses() {
        says(35, "IllegalArgumentException (behind that): not 0 to 3, both are one.");
        TownTune x = of(CHORD);
        for (int what = 0; what < 2; what++) {
            int w = what;
            for (int house : new int[] {MIN, -1, 4, MAX}) {
                due("the first is " + house, ILLEGAL, () -> x.game(house, 0, w));
                due("the second is " + house, ILLEGAL, () -> x.game(0, house, w));
                due("both are " + house, ILLEGAL, () -> x.game(house, house, w));
            }
            int[] resting = {1, 4, 2, 2};
            for (int house = 0; house < 4; house++) {
                int h = house;
                due("both are " + h, ILLEGAL, () -> x.game(h, h, w));
                due(h + " and " + (3 - h), w == 1 ? 0 : resting[h], () -> x.game(h, 3 - h, w));
            }
        }
        stays("refused", x, NOTHING, ILLEGAL, () -> x.game(0, 0, 0));
    }

    private static void gameChoices() {
        says(35, "each sends one of its PEOPLE (at home, not DEAD) AWAY for the next YEAR or nobody");
        // Nobody gains anything, so all couples rest.
        TownTune x = of("deaf 0 1 1;deaf 0 2 1;deaf 1 3 1;deaf 2 4 1;");
        due("two and one", 6, () -> x.game(0, 1, 0));
        due("one and two", 6, () -> x.game(1, 0, 0));
        due("one and one", 4, () -> x.game(1, 2, 0));
        due("two and none", 3, () -> x.game(0, 3, 0));
        due("none and two", 3, () -> x.game(3, 0, 0));
        x.away(0, true);
        due("one of two is away", 4, () -> x.game(0, 1, 0));
        x.dies(1);
        due("the other one is dead", 2, () -> x.game(0, 1, 0));
        TownTune married = of("deaf 0 1 1;deaf 1 2 1;");
        married.marry(0, 1);
        due("houses as they are by marriage", 3, () -> married.game(0, 1, 0));
        String seven = "deaf 0 1 1;deaf 0 2 1;deaf 0 3 1;deaf 0 4 1;deaf 0 5 1;deaf 0 6 1;deaf 0 7 1;";
        due("eight and none", 9, () -> of(seven + "deaf 0 8 1;").game(0, 1, 0));
        due("none and eight", 9, () -> of(seven + "deaf 0 8 1;").game(1, 0, 0));
        due("seven and one", 16, () -> of(seven + "deaf 1 8 1;").game(0, 1, 0));
        due("nobody at all", 1, () -> new TownTune().game(2, 3, 0));
        // 3 3 6, and . 0 6 with a tritone, if the second one sends its only one.
        TownTune sends = of("deaf 1 1 3;elder 2 2 0;deaf 2 3 6;sings last;");
        due("the second one sends one", 1, () -> sends.game(0, 1, 0));
        due("that is the first", 1, () -> sends.game(0, 1, 1));
        due("an empty house has nobody to send then", 1, () -> sends.game(0, 3, 0));
    }

    private static void gameGains() {
        says(35, "the first one gains for each NOTE sung in it that is KEY or 7 more (MOD 12)");
        for (int key = 0; key < 12; key++) {
            for (int note = 0; note < 12; note++) {
                // The only one of the house is kept at home by a gain; else all rests alike.
                boolean gain = note == key || note == (key + 7) % 12;
                TownTune x = of("deaf 0 1 " + note + ";key " + key + ";");
                due("key " + key + " note " + note, gain ? 1 : 2, () -> x.game(0, 1, 0));
            }
        }
        TownTune late = of("elder 0 1 0;elder 1 2 0;sings 2;");
        late.marry(0, 1);
        due("the KEY as it is: 7, and 2", 1, () -> late.game(0, 1, 0));

        says(35, "the second one for each TRITONE sung in it");
        TownTune two = of("deaf 1 1 1;deaf 2 2 7;key 3;");
        due("within the year, the note ahead", 1, () -> two.game(0, 1, 0));
        due("within the year, the note behind it", 1, () -> two.game(0, 2, 0));
        TownTune now = of("deaf 1 1 3;key 1;", 1);
        due("no tritone", 2, () -> now.game(0, 1, 0));
        TownTune ahead = of("deaf 0 1 9;deaf 1 2 3;key 1;", 1);
        due("its note ahead is in the tune", 1, () -> ahead.game(2, 0, 0));
        TownTune sung = of("deaf 1 1 3;key 1;deaf 2 2 9;", 1);
        sung.dies(1);
        due("3 9 now, and 3 next", 1, () -> sung.game(0, 1, 0));
        sung.years(1);
        due("9 3 now, and 3 next: what was sung doesn't count", 2, () -> sung.game(0, 1, 0));
    }

    private static void gameFull() {
        says(35, "NOTE sung in it");
        TownTune full = of("deaf 0 1 0;deaf 1 2 6;", 200);
        due("a full tune: nothing is sung", 4, () -> full.game(0, 1, 0));
        due("a full tune: the first", 0, () -> full.game(0, 1, 1));
        TownTune year = of("deaf 0 1 0;deaf 1 2 6;", 199);
        due("a year less: both stay at home", 1, () -> year.game(0, 1, 0));
        TownTune one = of("elder 2 1 0;elder 0 2 0;elder 0 3 0;elder 0 4 0;elder 0 5 0;elder 0 6 0;deaf 1 7 6;", 57);
        due("one sign is missing: the first one's house keeps it", 2, () -> one.game(2, 1, 0));
        due("and no other one's matters", 12, () -> one.game(0, 1, 0));
    }

    private static void gameFirst() {
        says(35, "the first (10 by the first one's choice and 1, and the other one's and 1; nobody is NONE)");
        // Who has the eighth number sings first, and its foe behind it sings no 0 but for a rest ahead.
        TownTune sends = of("deaf 0 2 0;deaf 0 3 1;deaf 0 4 1;deaf 0 5 1;deaf 0 6 1;deaf 0 7 1;deaf 0 8 1;"
                + "deaf 0 1 2;feud 0 7;");
        due("the eighth is sent", 80, () -> sends.game(0, 1, 1));
        due("no other couple", 1, () -> sends.game(0, 1, 0));
        // With the eighth away the second one's 'last' is the KEY 0, and a tritone to the third one's 6.
        TownTune other = of("elder 0 2 0;deaf 0 3 6;elder 0 4 0;elder 0 5 0;elder 0 6 0;elder 0 7 0;elder 0 8 0;"
                + "deaf 0 1 3;sings last;");
        due("the other one sends the eighth", 8, () -> other.game(1, 0, 1));
        due("no other couple", 1, () -> other.game(1, 0, 0));
        TownTune one = of("deaf 0 1 2;deaf 1 2 0;feud 0 1;");
        due("the first is sent", 10, () -> one.game(0, 1, 1));
        due("the other one's two choices", 2, () -> one.game(0, 1, 0));
        due("neither is sent", 0, () -> of(CHORD).game(0, 1, 1));
        says(35, "A couple RESTS, if neither gains more by another choice");
        // 0 6 0: the first one loses a gain with its first, the second one both tritones with its only one.
        TownTune rests = of("deaf 0 1 0;deaf 0 2 6;deaf 1 3 0;");
        due("as much by another choice is no more", 3, () -> rests.game(0, 1, 0));
        due("nobody and nobody", 0, () -> rests.game(0, 1, 1));
        due("the other way round", 1, () -> rests.game(1, 0, 0));
        says(35, "NONE: none");
        // b 5 6 7: 1 and 1; . 6 7 7: 2 and 0; b . 0 7: 2 and 0; . . 1 7: 1 and 1. One would always change.
        TownTune none = of("deaf 0 1 11;deaf 1 2 6;elder 2 3 11;deaf 2 4 7;feud 0 1;sings last+1;");
        due("no couple rests", 0, () -> none.game(0, 1, 0));
        due("none is the first", NONE, () -> none.game(0, 1, 1));
        // Two more, whose own game has more choices, and comes first.
        TownTune behind = of("deaf 0 1 11;deaf 1 2 6;elder 2 3 11;deaf 2 4 7;deaf 3 6 0;deaf 3 5 2;"
                + "feud 0 1;feud 4 5;sings last+1;");
        behind.game(3, 2, 1);
        due("none is the first behind another game", NONE, () -> behind.game(0, 1, 1));
    }

    private static void centuryWhat() {
        says(36, "NoSuchElementException: another what. IllegalArgumentException (behind that): n.");
        TownTune x = of(CHORD + "other 0 4 0;", 1);
        for (int what : new int[] {MIN, -1, 3, MAX}) {
            stays("what " + what, x, NOTHING, NO_SUCH, () -> x.century(1, 1, what));
            due("what " + what + " ahead of n", NO_SUCH, () -> x.century(1, 21, what));
            due("what " + what + " ahead of n below 0", NO_SUCH, () -> x.century(1, -1, what));
        }
        for (int n : new int[] {MIN, -1, 21, 22, MAX}) {
            for (int what = 0; what < 3; what++) {
                int w = what;
                due("n " + n + " what " + w, ILLEGAL, () -> x.century(1, n, w));
            }
        }
        stays("refused", x, NOTHING, ILLEGAL, () -> x.century(1, 21, 0));
        due("0 years, signs", 3, () -> x.century(1, 0, 0));
        due("0 years, rests", 0, () -> x.century(1, 0, 1));
        due("0 years, like", 2, () -> x.century(1, 0, 2));
        stays("20 years change nothing", x, NOTHING, x.century(5, 20, 0), () -> x.century(5, 20, 0));
    }

    private static void centuryYears() {
        says(36, "CENTURIES by a seed: n YEARS (0 to 20) from now on");
        TownTune x = of("deaf 0 1 5;", 3);
        for (int seed : new int[] {MIN, -1, 0, 1, 42, MAX}) {
            due("0 years by " + seed, 3, () -> x.century(seed, 0, 0));
        }
        due("nobody's 20 years", 0, () -> new TownTune().century(1, 20, 0));
        says(36, "(Without PEOPLE nothing is drawn.)");
        TownTune nobody = of("other 1;");
        for (int what = 0; what < 3; what++) {
            int w = what;
            due("nobody's " + w, 0, () -> nobody.century(MAX, 20, w));
        }
    }

    /** Draws as the document says, with all its numbers written in full. */
    private static final class Drawn {
        private long seed;

        Drawn(int seed) {
            this.seed = seed;
        }

        int of(int n) {
            seed = (int) (seed * 1103515245L + 12345L);
            long bits = (seed & 0xffffffffL) / 65536 % 32768;
            return (int) (bits % n);
        }
    }

    /** Signs, rests, and how many of one sign, of a town of deaf ones whose birthdays are in order. */
    private static int[] century(int[] bases, int seed, int n, int sign) {
        int[] base = bases.clone();
        boolean[] away = new boolean[base.length];
        boolean[] dead = new boolean[base.length];
        int[] all = new int[3];
        Drawn drawn = new Drawn(seed);
        for (int year = 0; year < n; year++) {
            int person = drawn.of(base.length);
            int fate = drawn.of(5);
            if (!dead[person]) {
                away[person] ^= fate == 0;
                dead[person] = fate == 1;
                base[person] = (base[person] + (fate == 2 ? 1 : 0)) % 12;
            }
            for (int p = 0; p < base.length; p++) {
                if (!dead[p]) {
                    all[0]++;
                    all[1] += away[p] ? 1 : 0;
                    all[2] += (away[p] ? 12 : base[p]) == sign ? 1 : 0;
                }
            }
        }
        return all;
    }

    private static final int[] SEEDS = {MIN, MIN + 1, -65536, -3, -1, 0, 1, 2, 3, 5, 7, 11, 65535, 65536, 123456789,
        MAX - 1, MAX};

    private static void centuries(String at, String text, int[] bases, int sign) {
        String other = "other" + (" " + sign).repeat(24) + ";";
        for (int seed : SEEDS) {
            TownTune x = of(text + other);
            for (int n : new int[] {1, 2, 3, 10, 19, 20}) {
                int[] want = century(bases, seed, n, sign);
                due(at + " " + n + " years by " + seed + ", signs", want[0], () -> x.century(seed, n, 0));
                due(at + " " + n + " years by " + seed + ", rests", want[1], () -> x.century(seed, n, 1));
                due(at + " " + n + " years by " + seed + ", like", Math.min(24, want[2]),
                        () -> x.century(seed, n, 2));
            }
        }
    }

    private static void centuryOfOne() {
        says(36, "2 one's BASE is 1 more (MOD 12) from then on");
        centuries("11 to 0", "deaf 0 1 11;", new int[] {11}, 0);
        centuries("10 to 11", "deaf 0 1 10;", new int[] {10}, 11);
        says(36, "0 one EMIGRATES, or comes home, 1 one DIES");
        centuries("a rest", "deaf 0 1 3;", new int[] {3}, 12);
        says(36, "(the DEAD stay so)");
        TownTune dead = of("deaf 0 1 3;", 2);
        dead.dies(0);
        for (int seed : SEEDS) {
            due("the DEAD stay so by " + seed, 2, () -> dead.century(seed, 20, 0));
            due("and leave no rests by " + seed, 0, () -> dead.century(seed, 20, 1));
        }
    }

    private static void centuryOfEight() {
        says(36, "A seed becomes itself times 1103515245 and 12345 (an int that wraps); "
                + "a DRAW of n is its bits 16 to 30 MOD n then.");
        centuries("of four", "deaf 0 1 11;deaf 0 2 0;deaf 0 3 11;deaf 0 4 11;", new int[] {11, 0, 11, 11}, 0);
        says(36, "ahead of each a DRAW of PEOPLE, then a DRAW of 5");
        int[] bases = {11, 0, 1, 2, 3, 4, 5, 11};
        StringBuilder text = new StringBuilder();
        for (int i = 0; i < 8; i++) {
            text.append("deaf 0 ").append(i + 1).append(' ').append(bases[i]).append(';');
        }
        centuries("of eight", text.toString(), bases, 0);
        centuries("of two", "deaf 0 1 11;deaf 0 2 0;", new int[] {11, 0}, 1);
        centuries("of three", "deaf 0 1 11;deaf 0 2 0;deaf 0 3 11;", new int[] {11, 0, 11}, 0);
    }

    private static void centuryFull() {
        says(36, "how many signs THE TUNE has then; RESTS in all of it; LIKE");
        TownTune full = of("deaf 0 1 0;deaf 0 2 6;other 6 0;", 200);
        TownTune one = of(elders(7) + "other 12;", 57);
        for (int seed : SEEDS) {
            due("a full tune by " + seed, 400, () -> full.century(seed, 20, 0));
            due("no rests come by " + seed, 0, () -> full.century(seed, 20, 1));
            due("nor is it liker by " + seed, 2, () -> full.century(seed, 20, 2));
            due("400 at most by " + seed, 400, () -> one.century(seed, 20, 0));
        }
        TownTune rests = of("deaf 0 1 0;");
        rests.away(0, true);
        rests.years(3);
        due("rests that are in it now", 3, () -> rests.century(1, 0, 1));
        due("like by what is in it now", 3, () -> of("deaf 0 1 5;other 5 5 5 5;", 3).century(1, 0, 2));
    }

    private static void imageAndRestore() {
        says(38, "False: there is none.");
        TownTune x = of(CHORD, 1);
        stays("none yet", x, NOTHING, 0, () -> is(x.restore()));
        x.image();
        stays("it is so already", x, NOTHING, 1, () -> is(x.restore()));
        x.years(1);
        due("back", 1, () -> is(x.restore()));
        due("the year", 1, () -> x.count(3));
        x.years(5);
        due("back once more", 1, () -> is(x.restore()));
        due("the year again", 1, () -> x.count(3));
        TownTune fresh = new TownTune();
        due("of nobody none", 0, () -> is(fresh.restore()));
        fresh.image();
        fresh.years(2);
        due("of nobody", 1, () -> is(fresh.restore()));
        due("of nobody the year", 0, () -> fresh.count(3));

        says(37, "AN IMAGE is kept, in place of another one.");
        TownTune y = of(CHORD);
        y.image();
        y.years(1);
        y.image();
        y.years(1);
        y.restore();
        due("the later one", 1, () -> y.count(3));
        y.undo();
        y.restore();
        due("the later one again", 1, () -> y.count(3));
        y.undo();
        y.image();
        y.years(9);
        y.restore();
        due("a third one", 0, () -> y.count(3));
        due("with its acts", 0, () -> y.count(10));
    }

    private static void imageKeeps() {
        says(37, "AN IMAGE keeps all that ACTS change, ACTS that are kept, what is HEARD, STATUS.");
        TownTune x = of("elder 0 1 0;elder 1 2 4;elder 2 3 7;elder 3 4 9;key 2;feud 0 1;feud 2 3;");
        x.away(3, true);
        x.years(2);
        for (int i = 0; i < 40; i++) {
            x.away(2, i % 2 == 0);
        }
        int[] sung = {2, 8, 9};
        for (int i = 0; i < 9; i++) {
            x.hear(i % 3, sung[i % 3]);
        }
        x.years(0);
        Check.tell(x, "?");
        x.image();
        String tune = Check.tune(x);
        for (int i = 0; i < 20; i++) {
            x.undo();
        }
        x.away(3, false);
        x.marry(3, 1);
        x.dies(0);
        x.peace(0);
        x.quarrel(0, 3);
        x.years(20);
        x.forget();
        x.hear(7, 0);
        x.hear(6, 0);
        x.hear(-1, 0);
        x.years(0);
        Check.tell(x, "?");
        x.restore();
        int[] want = {4, 2, 2, 2, 8, 0, 2, 8, 0, 0, 40, 8, 0, 1, 1, 1};
        for (int i = 0; i < 16; i++) {
            int what = i;
            due("count " + what, want[what], () -> x.count(what));
        }
        dueTune("the tune", tune, x);
        due("a house", 1, () -> x.person(1, 1));
        due("one's signs", 2, () -> x.person(3, 4));
        due("a feud", 1, () -> x.feud(0, 1));
        due("what is heard is so", 1, () -> x.spy(2));
        for (int left = 39; left >= 0; left--) {
            x.undo();
        }
        due("forty acts are UNDONE: one was away from the first", 8, () -> x.count(7));
        due("and no more", NONE, x::undo);
        due("the years were none of them", 2, () -> x.count(3));
    }

    private static void imageOfAnotherTune() {
        says(37, "AN IMAGE keeps all that ACTS change");
        TownTune x = of("elder 0 1 0;elder 1 2 5;sings year + base;", 3);
        x.image();
        x.undo();
        x.dies(0);
        x.years(7);
        x.restore();
        dueTune("signs that were sung over", "051627", x);
        due("whose", 0, () -> x.sign(2, 1));
        due("in which year", 1, () -> x.sign(2, 2));
        due("the last one's", 1, () -> x.sign(5, 1));
        due("its year", 2, () -> x.sign(5, 2));
        due("signs of one", 3, () -> x.person(0, 4));
        due("what comes then", 3, () -> x.then(6));
        TownTune last = of("elder 0 1 0;sings last + 1;key 4;", 2);
        last.image();
        last.away(0, true);
        last.years(1);
        last.undo();
        last.undo();
        last.undo();
        last.restore();
        due("the last NOTE", 7, () -> last.then(2));
    }

    private static void imageGone() {
        says(3, "the image are gone");
        TownTune x = of(CHORD);
        x.image();
        due("a FAULT", 1, () -> Check.tell(x, "?"));
        due("it is still there", 1, () -> is(x.restore()));
        due("a text that isn't on the tape", ILLEGAL, () -> x.town(1));
        due("it is still there too", 1, () -> is(x.restore()));
        due("a TOWN", 0, () -> Check.tell(x, ""));
        stays("it is gone", x, NOTHING, 0, () -> is(x.restore()));

        says(38, "It is as the IMAGE again: true.");
        TownTune tape = of(CHORD);
        tape.image();
        Check.tell(tape, " ?");
        Check.feed(tape, "key 1;");
        due("the tape is no part of it", 1, () -> is(tape.restore()));
        due("it has its bytes", 20, () -> tape.count(12));
        due("nor is the FAULT's place", 1, tape::fault);
        due("STATUS is", 0, () -> tape.count(TEXTS_REFUSED));
    }
}
