import java.io.IOException;

/** The boundary cases of the tape, the text and its FAULTS, and of what is told: promises 1 to 9. */
final class EdgeTextTest extends Edge {
    private static final String TWO = "elder 0 1 0;elder 1 2 0;";

    private EdgeTextTest() {
    }

    public static void main(String[] args) throws IOException {
        nobody();
        tape();
        howMuchOfTheTape();
        refusedTexts();
        goodTexts();
        faultPlaces();
        people();
        peopleNumbers();
        keys();
        feuds();
        otherTune();
        wholeText();
        words();
        numbers();
        signsAndBlanks();
        everyByte();
        lines();
        whatCannotStand();
        endsTooSoon();
        tooMuch();
        nestedExpressions();
        nots();
        notTold();
        takenOnes();
        secondOnes();
        firstAlong();
        leastOfOne();
        grammar();
        counts();
        persons();
        nobodySuch();
        feudNumbers();
        places();
        otherPlaces();
        end("EdgeTextTest", args);
    }

    private static void nobody() {
        says(1, "`NONE = -1`: There is none.");
        due("NONE", -1, () -> TownTune.NONE);
        says(1, "Nobody.");
        TownTune x = new TownTune();
        for (int what = 0; what < 16; what++) {
            int w = what;
            due("count " + w, 0, () -> x.count(w));
        }
        due("fault", NONE, x::fault);
        due("person", NO_SUCH, () -> x.person(0, 0));
        due("feud", NO_SUCH, () -> x.feud(0, 0));
        due("sign", NO_SUCH, () -> x.sign(0, 0));
        due("other", NO_SUCH, () -> x.other(0));
        due("own", NO_SUCH, () -> x.own(0, 0));
        due("found", 0, () -> x.found(0, 1, 0));
        due("found first", NONE, () -> x.found(0, 1, 1));
        due("again", 0, () -> x.again(0));
        due("again where", NONE, () -> x.again(1));
        due("tritones", 0, x::tritones);
        due("interval", 0, () -> x.interval(0));
        due("breath", 0, () -> x.breath(0));
        due("breath where", NONE, () -> x.breath(1));
        due("palindrome", 0, x::palindrome);
        due("tonic", NONE, x::tonic);
        due("like", 0, () -> x.like(0));
        due("apart", 0, () -> x.like(1));
        due("then", NONE, () -> x.then(0));
        due("when", NONE, () -> x.when(0, 1));
        due("quiet", 0, () -> x.quiet(10));
        due("match", NONE, x::match);
        due("spy", 0, () -> x.spy(0));
        due("spy first", NONE, () -> x.spy(1));
        due("spy without", 1, () -> x.spy(2));
        due("listen", NONE, () -> x.listen(0));
        due("listen how many", 0, () -> x.listen(1));
        due("vote", 0, x::vote);
        due("game", 1, () -> x.game(0, 3, 0));
        due("game first", 0, () -> x.game(0, 3, 1));
        due("century", 0, () -> x.century(1, 20, 0));
        due("undo", NONE, x::undo);
        due("restore", 0, () -> is(x.restore()));
        due("peace", 0, () -> is(x.peace(0)));
        due("years", 20, () -> x.years(20));
        due("a tune of nobody", 0, () -> x.count(4));
    }

    private static void tape() {
        says(2, "NONE, and none come, if it would have more than 600.");
        TownTune x = new TownTune();
        for (int all = 20; all <= 600; all += 20) {
            int due = all;
            due("up to " + due, due, () -> x.feed(0x20202020, 0x20202020, 0x20202020, 0x20202020, 0x20202020));
        }
        stays("with 600", x, NOTHING, NONE, () -> x.feed(0x78787878, 0, 0, 0, 0));
        stays("once more", x, NOTHING, NONE, () -> x.feed(MIN, MAX, -1, 0, 1));
        due("none came", 0, () -> x.town(600));
        due("empty again", 20, () -> x.feed(0, 0, 0, 0, 0));

        says(2, "of each number the highest first");
        TownTune order = new TownTune();
        order.feed(0x6b657920, 0x313b6f74, 0x68657220, 0x313b2020, 0x20203b80);
        due("all but the last two bytes", 0, () -> order.town(18));
        due("key", 1, () -> order.count(2));
        due("other", 1, () -> order.other(0));
        order.feed(0x20202020, 0x20202020, 0x20202020, 0x20202020, 0x20203b80);
        due("the last but one", 1, () -> order.town(20));
        due("its place", 18, order::fault);
        order.feed(0x20202020, 0x20202020, 0x20202020, 0x20202020, 0x20202080);
        due("the last one, above 127", 1, () -> order.town(20));
        due("its place", 19, order::fault);
        order.feed(0x80202020, 0x20202020, 0x20202020, 0x20202020, 0x20202020);
        due("the first one, above 127", 1, () -> order.town(20));
        due("its place", 0, order::fault);
    }

    private static void howMuchOfTheTape() {
        says(3, "IllegalArgumentException: the tape has not so many, n below 0 (nothing changes).");
        TownTune x = of(TWO + "key 3;", 2);
        x.hear(1, 1);
        x.image();
        Check.tell(x, " ?");
        stays("1 of none", x, NOTHING, ILLEGAL, () -> x.town(1));
        Check.feed(x, "key 4;");
        stays("one more than the tape has", x, NOTHING, ILLEGAL, () -> x.town(21));
        stays("-1", x, NOTHING, ILLEGAL, () -> x.town(-1));
        stays("the least", x, NOTHING, ILLEGAL, () -> x.town(MIN));
        stays("the greatest", x, NOTHING, ILLEGAL, () -> x.town(MAX));
        due("the image is still there", 1, () -> is(x.restore()));
        due("the place", 1, x::fault);
        due("all the tape has", 0, () -> x.town(20));
        due("told", 4, () -> x.count(2));
        TownTune most = new TownTune();
        Check.feed(most, " ".repeat(600));
        due("601 of 600", ILLEGAL, () -> most.town(601));
        due("600 of 600", 0, () -> most.town(600));

        says(3, "The tape's first n bytes (it is empty then) are a TOWN, all anew: 0, or the FAULT");
        TownTune first = new TownTune();
        Check.feed(first, "key 4;key 5;");
        due("a byte less than the line", 1, () -> first.town(5));
        due("the tape behind a FAULT", 0, () -> first.count(12));
        due("nothing is left to read", ILLEGAL, () -> first.town(1));
        Check.feed(first, "key 4;key 5;");
        due("the line", 0, () -> first.town(6));
        due("the tape behind a TOWN", 0, () -> first.count(12));
        due("nothing is left to read", ILLEGAL, () -> first.town(1));
        due("0 bytes", 0, () -> first.town(0));
        due("an empty TOWN has no key", 0, () -> first.count(2));
    }

    private static void refusedTexts() {
        says(3, "the FAULT (all stays, but STATUS)");
        TownTune x = of("spy 3 9 8;child 2 3 4;deaf 1 200 0;feud 2 0;key 5;other 6 7;sings base + sung;", 2);
        x.away(0, true);
        x.hear(3, 4);
        x.years(0);
        x.hear(3, 13);
        x.image();
        stays("another TOWN with a FAULT at its end", x, TEXTS_REFUSED, 1,
                () -> Check.tell(x, "deaf 0 1 0;deaf 0 2 0;deaf 0 3 0;feud 0 1;key 1;other 1;sings 1;?"));
        dueTune("the tune", "b71082", x);
        int[] spy = {3, 3, 9, 8, 2, 1, 1};
        for (int i = 0; i < spy.length; i++) {
            int what = i;
            due("of the first one " + what, spy[what], () -> x.person(0, what));
        }
        due("feud", 2, () -> x.feud(0, 0));
        due("other", 6, () -> x.other(0));
        due("what a child sings: 4 + 2 + 7", 1, () -> x.then(6));
        due("who is away", 12, () -> x.then(7));
        due("the deaf one", 0, () -> x.then(8));
        due("acts", 1, x::undo);
        due("the image", 1, () -> is(x.restore()));
    }

    private static void goodTexts() {
        says(3, "THE TUNE is empty, ACTS, what is HEARD, the image are gone.");
        TownTune x = of("spy 3 9 8;child 2 3 4;feud 1 0;key 5;other 6 7;sings last + 1;", 2);
        x.away(0, true);
        x.marry(1, 0);
        x.away(0, false);
        x.marry(1, 0);
        x.away(0, true);
        x.dies(1);
        x.hear(3, 4);
        x.image();
        due("a TOWN", 0, () -> Check.tell(x, "elder 1 2 3;elder 0 1 3;"));
        int[] want = {2, 0, 0, 0, 0, 0, 0, 0, 0, 0, 0, 0, 0, 0, 1, 0};
        for (int i = 0; i < 16; i++) {
            int what = i;
            due("count " + what, want[what], () -> x.count(what));
        }
        due("no act", NONE, x::undo);
        due("no image", 0, () -> is(x.restore()));
        due("no signs of one", 0, () -> x.person(0, 4));
        due("no SINGS", 3, () -> x.then(0));
        due("no spy", 3, () -> x.then(1));
        due("no sign", NO_SUCH, () -> x.sign(0, 0));
        due("no other tune", NO_SUCH, () -> x.other(0));
        due("all that is heard would be so", 2, () -> x.spy(0));
        says(3, "are a TOWN, all anew");
        TownTune third = of("elder 1 2 3;elder 0 1 3;feud 0 1;key 4;other 1 2;sings 5;");
        Check.tell(third, "deaf 1 2 3;deaf 0 1 3;feud 0 1;key 4;other 1 2;sings 5;");
        due("a third text", 0, () -> Check.tell(third, "elder 2 1 3;"));
        int[] one = {1, 0, 0, 0, 0, 0};
        for (int i = 0; i < one.length; i++) {
            int what = i;
            due("its count " + what, one[what], () -> third.count(what));
        }
        due("its rule", 3, () -> third.then(0));
        for (String faulty : new String[] {"elder 0 1 0;key 2;other 1;sings 5;?", "sings (1+", "sings 1*", "sings ((((((1",
            "sings not not (1 or", "sings 1;feud"}) {
            due(faulty, 1, () -> Math.min(1, Check.tell(third, faulty)));
            due("a text behind that", 0, () -> Check.tell(third, "elder 2 1 3;sings 1+2*3;"));
            due("its people", 1, () -> third.count(0));
            due("its key", 0, () -> third.count(2));
            due("its other tune", 0, () -> third.count(5));
            due("its own rule", 7, () -> third.then(0));
            Check.tell(third, faulty);
            due("a text that begins with a 'not'", 0, () -> Check.tell(third, "elder 2 1 3;sings not 0;"));
            due("its rule too", 1, () -> third.then(0));
        }
        TownTune same = of("elder 0 1 0;", 3);
        same.image();
        same.years(3);
        due("the same TOWN again", 0, () -> Check.tell(same, "elder 0 1 0;"));
        due("its tune", 0, () -> same.count(4));
        due("its image", 0, () -> is(same.restore()));
        TownTune last = of("elder 0 1 0;sings last+1;key 4;", 3);
        Check.tell(last, "elder 0 1 0;sings last+1;key 9;");
        due("no NOTE ahead any more", 10, () -> last.then(0));
    }

    private static void faultPlaces() {
        says(4, "The place of the latest town()'s FAULT; NONE without.");
        TownTune x = new TownTune();
        due("no town() yet", NONE, x::fault);
        Check.tell(x, "?");
        due("the first byte", 0, x::fault);
        Check.tell(x, "key 1;key 1;");
        due("the latest", 6, x::fault);
        Check.tell(x, "key 1;");
        due("none behind a TOWN", NONE, x::fault);
        String long599 = " ".repeat(599) + "?";
        due("a text of 600", 1, () -> Check.tell(x, long599));
        due("the last byte", 599, x::fault);
        due("a text of 600 that ends too soon", 1, () -> Check.tell(x, "key" + " ".repeat(597)));
        due("its length", 600, x::fault);
        due("refused by an exception", ILLEGAL, () -> x.town(1));
        due("that is no FAULT", 600, x::fault);
    }

    private static void people() {
        says(3, "PEOPLE 0, 1 .. (at most 8)");
        for (int many = 0; many <= 8; many++) {
            int due = many;
            due("so many", due, () -> of(elders(due)).count(0));
        }
        says(4, "the first TOKEN of the 9th PERSON");
        String eight = elders(8);
        good(eight);
        for (String kind : new String[] {"elder", "child", "deaf", "spy"}) {
            fault(eight + kind + " 0 9 0;", 2, eight.length());
            fault(eight + " " + kind, 2, eight.length() + 1);
            fault(eight + "key 1;" + kind + " x", 2, eight.length() + 6);
        }
        good(elders(7) + "spy 0 9 0;");
    }

    private static void peopleNumbers() {
        says(3, "a HOUSE (0 to 3)");
        for (int house = 0; house <= 3; house++) {
            int due = house;
            due("told", due, () -> of("elder " + due + " 1 0;").person(0, 1));
        }
        fault("elder 4 1 0;", 2, 6);
        fault("elder 9999 1 0;", 2, 6);
        fault("child 4 1 0;", 2, 6);
        fault("deaf 4 1 0;", 2, 5);
        fault("spy 4 1 0;", 2, 4);

        says(3, "a BIRTHDAY (1 to 365; no two alike)");
        fault("elder 0 0 0;", 2, 8);
        due("the first", 1, () -> of("elder 0 1 0;").person(0, 2));
        due("the second", 2, () -> of("elder 0 2 0;").person(0, 2));
        due("the last but one", 364, () -> of("elder 0 364 0;").person(0, 2));
        due("the last", 365, () -> of("elder 0 365 0;").person(0, 2));
        fault("elder 0 366 0;", 2, 8);
        fault("elder 0 9999 0;", 2, 8);
        good("elder 0 7 0;elder 0 6 0;elder 0 8 0;");
        fault("elder 0 7 0;elder 0 6 0;elder 0 7 0;", 4, 32);
        fault("elder 0 7 0;elder 0 6 0;elder 0 6 0;", 4, 32);
        fault("elder 0 7 0;spy 1 0007 1;", 4, 18);

        says(3, "a BASE (0 to 11)");
        due("the least", 0, () -> of("elder 0 1 0;").person(0, 3));
        due("the greatest but one", 10, () -> of("elder 0 1 10;").person(0, 3));
        due("the greatest", 11, () -> of("elder 0 1 11;").person(0, 3));
        fault("elder 0 1 12;", 2, 10);
        fault("elder 0 1 9999;", 2, 10);
    }

    private static void keys() {
        says(3, "KEY (0 to 11; 0 without)");
        for (int key = 0; key <= 11; key++) {
            int due = key;
            due("told", due, () -> of("key " + due + ";").count(2));
        }
        fault("key 12;", 2, 4);
        fault("key 9999;", 2, 4);
        TownTune x = of("key 11;");
        Check.tell(x, "elder 0 1 0;");
        due("without", 0, () -> x.count(2));
    }

    private static void feuds() {
        says(3, "FEUDS (at most 6): two of PEOPLE.");
        String text = elders(8);
        String[] lines = {"feud 0 7;", "feud 7 1;", "feud 1 0;", "feud 2 3;", "feud 4 5;", "feud 6 5;"};
        for (int i = 0; i < 6; i++) {
            int many = i + 1;
            text += lines[i];
            TownTune x = of(text);
            due("so many", many, () -> x.count(1));
        }
        TownTune six = of(text);
        due("the first one's first", 0, () -> six.feud(0, 0));
        due("the first one's second", 7, () -> six.feud(0, 1));
        due("the last one's first", 6, () -> six.feud(5, 0));
        due("the last one's second", 5, () -> six.feud(5, 1));

        says(4, "the 7th FEUD");
        fault(text + "feud 2 4;", 2, text.length());
        fault(text + "feud 0 7;", 2, text.length());
        fault(text + "feud 0 0;", 2, text.length());
        fault(text + "feud 99 99;", 2, text.length());
        fault(text + "feud", 2, text.length());
    }

    private static void otherTune() {
        says(3, "THE OTHER TUNE: that of the next town (at most 24, each 0 to 12)");
        for (int sign = 0; sign <= 12; sign++) {
            int due = sign;
            due("a sign", due, () -> of("other " + due + ";").other(0));
        }
        fault("other 13;", 2, 6);
        fault("other 12 13;", 2, 9);
        fault("other 9999;", 2, 6);
        due("without", 0, () -> of("key 1;").count(5));
        due("1 of them", 1, () -> of("other 0;").count(5));
        due("23 of them", 23, () -> of("other" + " 9".repeat(23) + ";").count(5));
        TownTune most = of("other" + " 9".repeat(23) + " 12;");
        due("24 of them", 24, () -> most.count(5));
        due("the 24th", 12, () -> most.other(23));

        says(4, "the 25th number of THE OTHER TUNE");
        String full = "other" + " 9".repeat(24);
        good(full + ";");
        fault(full + " 9;", 2, full.length() + 1);
        fault(full + " 0", 2, full.length() + 1);
        fault(full + " 13;", 2, full.length() + 1);
        fault(full + " 12345;", 2, full.length() + 1);
        fault(full + " 9 9;", 2, full.length() + 1);
        fault(full + " (", 1, full.length() + 1);
        fault(full + " nine", 1, full.length() + 1);
    }

    private static void wholeText() {
        says(3, "A TEXT of at most 600 bytes tells it.");
        String line = "key 7;";
        good(line + " ".repeat(593) + "\n");
        good(" ".repeat(594) + line);
        fault(" ".repeat(595) + "key 7", 1, 600);
        String sum = "elder 0 1 0;sings 1" + "+1".repeat(290) + ";";
        due("a rule up to the 600th byte: 291 MOD 12", 3, () -> of(sum).then(0));
        due("one of 598", 2, () -> of("elder 0 1 0;sings 1" + "+1".repeat(289) + ";").then(0));
        String parts = "sings " + "1*".repeat(296) + "1;";
        good(parts);
    }

    private static void words() {
        says(3, "words (a .. z, the longest row)");
        good("elder0 1 0;");
        fault("elderx 0 1 0;", 1, 0);
        fault("elde r 0 1 0;", 1, 0);
        fault("elder e 0 1 0;", 1, 6);
        fault("feuds 0 1;", 1, 0);
        fault("feu", 1, 0);
        fault("sings keys;", 3, 6);
        fault("sings ke y;", 3, 6);
        fault("sings key key;", 1, 10);
        fault("sings notkey;", 3, 6);
        good("sings not key;");
        fault("sings 1 orx 1;", 1, 8);
        fault("sings 1or1and1;x", 1, 15);
        for (String word : new String[] {"elder", "child", "deaf", "spy", "key", "feud", "other", "sings"}) {
            for (int i = 0; i < word.length(); i++) {
                fault(misspelt(word, i) + " 0 1 0;", 1, 0);
            }
            fault(word + "a 0 1 0;", 1, 0);
            fault(word.substring(1) + " 0 1 0;", 1, 0);
        }
        for (String word : new String[] {"year", "base", "last", "key", "house", "kind", "sung", "not"}) {
            for (int i = 0; i < word.length(); i++) {
                fault("sings " + misspelt(word, i) + " 1;", 3, 6);
            }
            fault("sings " + word + "a 1;", 3, 6);
        }
        for (String word : new String[] {"and", "or"}) {
            for (int i = 0; i < word.length(); i++) {
                fault("sings 1 " + misspelt(word, i) + " 1;", 1, 8);
            }
        }
        fault("Elder 0 1 0;", 1, 0);
        fault("eldeR 0 1 0;", 1, 0);
        fault("sings keY;", 3, 6);
        fault("sings YEAR;", 1, 6);
    }

    private static String misspelt(String word, int place) {
        return word.substring(0, place) + 'q' + word.substring(place + 1);
    }

    private static void numbers() {
        says(3, "NUMBERS (1 to 4 digits)");
        good("elder 0 1 0;");
        good("elder 00 01 00;");
        good("elder 0003 0365 0011;");
        fault("elder 00003 1 0;", 2, 6);
        fault("elder 0 00001 0;", 2, 8);
        fault("elder 0 1 00001;", 2, 10);
        fault("key 00001;", 2, 4);
        fault("other 00001;", 2, 6);
        fault(TWO + "feud 00000 1;", 2, TWO.length() + 5);
        fault(TWO + "feud 0 00001;", 2, TWO.length() + 7);
        due("four digits: 9999 MOD 12", 3, () -> of("elder 0 1 0;sings 9999;").then(0));
        due("four digits: 0011", 11, () -> of("elder 0 1 0;sings 0011;").then(0));

        says(4, "a NUMBER of 5 digits or more");
        good("sings 9999;");
        good("sings 0000;");
        fault("sings 10000;", 2, 6);
        fault("sings 00000;", 2, 6);
        fault("sings 99999;", 2, 6);
        fault("sings 4294967297;", 2, 6);
        fault("sings 18446744073709551616;", 2, 6);
        fault("sings 1+(2*00003);", 2, 11);
        fault("key 4294967297;", 2, 4);
        fault("elder 0 4294967297 0;", 2, 8);
        fault("key " + "1".repeat(596), 2, 4);
        fault("key 1 0000;", 1, 6);
        fault("key 1 00000;", 1, 6);
        fault("00000;", 1, 0);
        fault("sings 1 00000;", 1, 8);
    }

    private static void signsAndBlanks() {
        says(3, "signs ; ( ) + - * / < =");
        due("all of them", 1, () -> of("elder 0 1 0;sings(1+2-3*4/5<6)=1;").then(0));
        for (String none : new String[] {">", "!", "&", ",", ".", ":", "[", "]", "{", "}", "%", "\"", "'", "#", "_"}) {
            fault("sings 1 " + none + " 1;", 1, 8);
        }
        fault("sings 1 <= 1;", 1, 9);
        fault("sings 1 == 1;", 1, 9);

        says(3, "blanks (32, 10) between them count for nothing");
        good("\n \nelder\n0 1\n0 ; \n key\n\n1;\n");
        good("elder 0 1 0;key 1;");
        good("sings(year+1)*2;");
        good(" sings ( year + 1 ) * 2 ; ");
        for (char blank : new char[] {0, 9, 11, 12, 13, 31, 33, 127, 160}) {
            fault("key" + blank + "1;", 1, 3);
            fault(blank + "key 1;", 1, 0);
            fault("key 1;" + blank, 1, 6);
        }
        fault("key 1 1;", 1, 6);
        fault("elder 0 1 0;k ey 1;", 1, 12);
        fault("key 1\n1;", 1, 6);
    }

    private static void everyByte() {
        says(4, "1 a TOKEN that can't stand there, or is none");
        for (int b = 0; b < 256; b++) {
            char c = (char) b;
            boolean binds = "+-*/<=".indexOf(c) >= 0;
            boolean passes = " \n;".indexOf(c) >= 0;
            fault("sings 1 " + c + " 1;", binds ? 0 : 1, binds ? NONE : passes ? 10 : 8);
            boolean letter = c >= 'a' && c <= 'z';
            boolean digit = c >= '0' && c <= '9';
            boolean opens = " \n(".indexOf(c) >= 0;
            fault("sings " + c + ";", digit ? 0 : letter ? 3 : 1, digit ? NONE : opens ? 7 : 6);
            boolean blank = " \n".indexOf(c) >= 0;
            fault("key 1;" + c, blank ? 0 : 1, blank ? NONE : 6);
        }
    }

    private static void lines() {
        says(3, "TOWN: LINE*.");
        good("");
        good(" ");
        good("key 1;");
        good("key 1;other 1;sings 1;");
        fault(";", 1, 0);
        fault("key 1;;", 1, 6);

        says(3, "'other' NUMBER NUMBER*");
        fault("other;", 1, 5);
        good("other 1;");
        good("other 1 2;");

        says(3, "'feud' PERSON PERSON");
        fault(TWO + "feud;", 1, TWO.length() + 4);
        fault(TWO + "feud 0;", 1, TWO.length() + 6);
        good(TWO + "feud 0 1;");
        fault(TWO + "feud 0 1 0;", 1, TWO.length() + 9);

        says(3, "'key' NUMBER");
        fault("key;", 1, 3);
        good("key 1;");
        fault("key 1 2;", 1, 6);

        says(3, "HOUSE BIRTHDAY BASE");
        fault("spy;", 1, 3);
        fault("spy 0;", 1, 5);
        fault("spy 0 1;", 1, 7);
        good("spy 0 1 2;");
        fault("spy 0 1 2 3;", 1, 10);

        says(3, "'sings' EXPR");
        fault("sings;", 1, 5);
        good("sings 1;");
        fault("sings 1 1;", 1, 8);
    }

    private static void whatCannotStand() {
        says(4, "a TOKEN that can't stand there");
        for (String word : new String[] {"year", "base", "last", "house", "kind", "sung", "or", "and", "not", "town"}) {
            fault(word + " 1;", 1, 0);
        }
        for (String sign : new String[] {"(", ")", "+", "-", "*", "/", "<", "=", ";", "7"}) {
            fault("key 1; " + sign, 1, 7);
        }
        fault("elder year 1 0;", 1, 6);
        fault("elder (0) 1 0;", 1, 6);
        fault("elder 0 -1 0;", 1, 8);
        fault("elder 0 1 base;", 1, 10);
        fault("key 1+1;", 1, 5);
        fault("key 1 key 2;", 1, 6);
        fault("sings 1 sings 2;", 1, 8);
        for (String sign : new String[] {")", "+", "-", "*", "/", "<", "=", ";"}) {
            fault("sings " + sign, 1, 6);
            fault("sings 1 + " + sign, 1, 10);
            fault("sings 1 and " + sign, 1, 12);
            fault("sings not " + sign, 1, 10);
            fault("sings ( " + sign, 1, 8);
        }
        fault("sings 1)", 1, 7);
        fault("sings (1;", 1, 8);
        fault("sings (1))", 1, 9);
        fault("sings ((1);", 1, 10);
        fault("sings 1(", 1, 7);
        fault("sings (1)(", 1, 9);
        fault("sings (1)1", 1, 9);
        fault("sings key(", 1, 9);
        fault("sings 1 not 1;", 1, 8);
        fault("sings key year;", 1, 10);
    }

    private static void endsTooSoon() {
        says(4, "(the text's length where it ends too soon)");
        String whole = "elder 0 1 0;feud 0 0;";
        int[] ends = {0, 12};
        for (int n = 0; n <= 19; n++) {
            int bytes = n;
            TownTune x = new TownTune();
            Check.feed(x, whole);
            boolean good = bytes == ends[0] || bytes == ends[1];
            boolean cut = bytes > 0 && bytes < 5 || bytes > 12 && bytes < 16;
            due(bytes + " bytes", good ? 0 : 1, () -> x.town(bytes));
            due("the place of " + bytes, good ? NONE : cut ? bytes < 5 ? 0 : 12 : bytes, x::fault);
        }
        fault("key", 1, 3);
        fault("key  ", 1, 5);
        fault("key 1", 1, 5);
        fault("key 1\n", 1, 6);
        fault("other 1 ", 1, 8);
        fault("sings", 1, 5);
        fault("sings (", 1, 7);
        fault("sings (1", 1, 8);
        fault("sings 1", 1, 7);
        fault("sings 1 +", 1, 9);
        fault("sings not", 1, 9);
        fault("sings 1 or ", 1, 11);
    }

    private static void tooMuch() {
        says(4, "or (not in an EXPR) not as told");
        fault("elder 4 1 0;", 2, 6);
        fault("elder 0 366 0;", 2, 8);
        fault("elder 0 0 0;", 2, 8);
        fault("elder 0 1 12;", 2, 10);
        fault("key 12;", 2, 4);
        fault("other 13;", 2, 6);
        good("sings 13;");
        good("sings 366;");
        good("sings 4+12*9999;");
    }

    private static void nestedExpressions() {
        says(4, "of an EXPR within 6 others (a NUMBER, any word, a parenthesis)");
        good("sings " + "(".repeat(4) + "1" + ")".repeat(4) + ";");
        good("sings " + "(".repeat(5) + "1" + ")".repeat(5) + ";");
        String six = "sings " + "(".repeat(6);
        for (String first : new String[] {"1", "0", "10000", "year", "sung", "x", "not", "or", "and", "elder", "("}) {
            fault(six + first, 2, 12);
            fault(six + " " + first + "))))));", 2, 13);
        }
        for (String first : new String[] {")", "+", "-", "*", "/", "<", "=", ";", "?", ""}) {
            fault(six + first, 1, 12);
        }
        fault("sings " + "(".repeat(5) + "x", 3, 11);
        fault("sings " + "(".repeat(5) + "10000", 2, 11);
        good("sings " + "(".repeat(5) + "not not not not not not 1" + ")".repeat(5) + ";");
        // Expressions side by side are not within one another.
        good("sings (((((1)))))+(((((1)))))*(((((1)))));");
        good("sings (((((1))+((1)))))+(((((1)))));");
        fault("sings (((((1)+(1)+((1", 2, 20);
        fault("sings 1+(1*(1<(1 and (1 or (1=(1", 2, 31);
        good("sings 1+(1*(1<(1 and (1 or (1=1)))));");

        says(3, "From the left");
        String level = "0 or 1 and not not not not not not 0 < 0 + 1 * (";
        due("as much waiting as can be, holds", 1,
                () -> of("elder 0 1 0;sings " + level.repeat(5) + level.substring(0, level.length() - 1) + "7"
                        + ")".repeat(5) + ";").then(0));
        due("as much waiting as can be, holds not", 0,
                () -> of("elder 0 1 0;sings " + level.repeat(5) + level.substring(0, level.length() - 1) + "0"
                        + ")".repeat(5) + ";").then(0));
    }

    private static void nots() {
        says(4, "the seventh 'not' side by side");
        due("five", 0, () -> of("elder 0 1 0;sings " + "not ".repeat(5) + "1;").then(0));
        due("six", 1, () -> of("elder 0 1 0;sings " + "not ".repeat(6) + "1;").then(0));
        fault("sings " + "not ".repeat(7) + "1;", 2, 30);
        fault("sings " + "not ".repeat(7), 2, 30);
        fault("sings " + "not ".repeat(8) + "1;", 2, 30);
        fault("sings 1 and " + "not ".repeat(7) + "1;", 2, 36);
        fault("sings 0 or " + "not ".repeat(7) + "1;", 2, 35);
        fault("sings (" + "not ".repeat(7) + "1);", 2, 31);
        good("sings " + "not ".repeat(6) + "1 and " + "not ".repeat(6) + "1 or " + "not ".repeat(6) + "1;");
        good("sings " + "not ".repeat(6) + "(" + "not ".repeat(6) + "1);");
        fault("sings " + "not ".repeat(6) + "x;", 3, 30);
        fault("sings " + "not ".repeat(6) + "or;", 3, 30);
    }

    private static void notTold() {
        says(4, "3 any word where a PART must stand that is no VALUE");
        for (String word : new String[] {"x", "elder", "child", "deaf", "spy", "feud", "other", "sings", "or", "and"}) {
            fault("sings " + word + ";", 3, 6);
            fault("sings 1 + " + word + ";", 3, 10);
            fault("sings (" + word + ");", 3, 7);
            fault("sings not " + word + ";", 3, 10);
        }
        for (String value : new String[] {"year", "base", "last", "key", "house", "kind", "sung"}) {
            good("sings " + value + ";");
            good("sings 1 = " + value + ";");
        }
        good("sings not 1;");
        good("sings 1 or not 1;");
        good("sings 1 and not 1;");
        good("sings (not 1);");
        for (String binds : new String[] {"+", "-", "*", "/", "<", "="}) {
            fault("sings 1 " + binds + " not 1;", 3, 10);
        }

        says(4, "a PERSON that isn't told ahead");
        fault("feud 0 1;" + TWO, 3, 5);
        fault("elder 0 1 0;feud 0 1;elder 0 2 0;", 3, 19);
        fault("elder 0 1 0;feud 1 0;elder 0 2 0;", 3, 17);
        good(TWO + "feud 0 1;");
        fault(TWO + "feud 0 2;", 3, TWO.length() + 7);
        fault(TWO + "feud 2 0;", 3, TWO.length() + 5);
        good(elders(8) + "feud 7 6;");
        fault(elders(7) + "feud 7 6;", 3, elders(7).length() + 5);
        fault(elders(8) + "feud 8 0;", 3, elders(8).length() + 5);
        fault(elders(8) + "feud 0 8;", 3, elders(8).length() + 7);
        fault(elders(8) + "feud 0 9999;", 3, elders(8).length() + 7);
    }

    private static void takenOnes() {
        says(4, "4 a BIRTHDAY that is one's already");
        String eight = elders(7);
        for (int day = 1; day <= 7; day++) {
            fault(eight + "deaf 0 " + day + " 0;", 4, eight.length() + 7);
        }
        good(eight + "deaf 0 8 0;");

        says(4, "the second PERSON of a FEUD that is the first one, or has one with it (either way round)");
        String three = elders(3);
        int at = three.length();
        fault(three + "feud 0 0;", 4, at + 7);
        fault(three + "feud 2 2;", 4, at + 7);
        fault(three + "feud 1 0001;", 4, at + 7);
        good(three + "feud 0 1;feud 0 2;feud 2 1;");
        fault(three + "feud 0 1;feud 0 1;", 4, at + 16);
        fault(three + "feud 0 1;feud 1 0;", 4, at + 16);
        fault(three + "feud 0 1;feud 0 2;feud 2 0;", 4, at + 25);
        fault(three + "feud 0 1;feud 0 2;feud 2 1;feud 1 2;", 4, at + 34);
    }

    private static void secondOnes() {
        says(4, "5 a second 'key', 'other', 'sings'");
        good("key 1;other 1;sings 1;");
        good("sings key;key 1;other 1;");
        fault("key 1;other 1;sings 1;key 1;", 5, 22);
        fault("key 1;other 1;sings 1;other 1;", 5, 22);
        fault("key 1;other 1;sings 1;sings 1;", 5, 22);
        fault("key 0;key 0;", 5, 6);
        fault("key 1;key", 5, 6);
        fault("other 1;other", 5, 8);
        fault("sings 1;sings", 5, 8);
        TownTune x = of("key 1;other 1;sings 1;");
        due("in another text they are the first", 0, () -> Check.tell(x, "key 2;other 1;sings 1;"));
        Check.tell(x, "key 1;other 1;sings 1;?");
        due("behind a FAULT too", 0, () -> Check.tell(x, "key 3;other 1;sings 1;"));
    }

    private static void firstAlong() {
        says(4, "FAULTS, the first along the text, at a TOKEN's first byte");
        fault("  key  99;?", 2, 7);
        fault("key 1;key 99;", 5, 6);
        fault("sings x+;", 3, 6);
        fault("sings 12345+;", 2, 6);
        fault("elder 0 1 0;elder 0 1 99;", 4, 20);
        fault("elder 9 0 99;", 2, 6);
        fault("feud 0 12345;", 3, 5);
        fault("elder 0 1 0;feud 0 0 ?", 4, 19);
        fault("sings 1 1 ((((((1;", 1, 8);
        fault("key 1;\nkey 1;", 5, 7);
        fault("key 1; elders 1;", 1, 7);
    }

    private static void leastOfOne() {
        says(4, "of one TOKEN the least");
        fault("feud 10000 0;", 2, 5);
        fault("elder 0 1 0;feud 0 00000;", 2, 19);
        fault("elder 0 1 0;elder 0 00001 0;", 2, 20);
        fault("sings ((((((x", 2, 12);
        fault("sings ((((((?", 1, 12);
        fault(elders(8) + "elder 0 1 0;", 2, elders(8).length());
        fault("other" + " 1".repeat(24) + " 99999;", 2, 54);
        fault("key 1;other 1;other", 5, 14);
    }

    private static void grammar() {
        says(3, "NOT: 'not' NOT | SUM [('<' | '=') SUM].");
        good("sings 1<2;");
        fault("sings 1<2<3;", 1, 9);
        fault("sings 1<2=3;", 1, 9);
        fault("sings 1=2<3;", 1, 9);
        fault("sings 1=2=3;", 1, 9);
        fault("sings 1+1=2*2<3;", 1, 13);
        fault("sings not 1<2<3;", 1, 13);
        fault("sings (1<2<3);", 1, 10);
        fault("sings 0 or 1<2 and 1=2=3;", 1, 22);
        good("sings (1<2)<3;");
        good("sings 1<(2<3);");
        good("sings 1<2 and 2<3 or 3=4;");
        good("sings not 1<2 and not 2<3;");
    }

    private static void counts() {
        says(5, "NoSuchElementException: another what.");
        TownTune x = of(TWO);
        due("the first", 2, () -> x.count(0));
        due("the last", 0, () -> x.count(15));
        for (int what : new int[] {MIN, -2, -1, 16, 17, MAX}) {
            stays("count " + what, x, NOTHING, NO_SUCH, () -> x.count(what));
        }
        says(5, "0 PEOPLE, 1 FEUDS, 2 KEY, 3 the YEAR, 4 signs of THE TUNE, 5 signs of THE OTHER TUNE, "
                + "6 RESTS in THE TUNE");
        TownTune all = of("elder 0 1 0;elder 1 2 0;elder 2 3 0;key 11;feud 0 1;feud 1 2;other 1 2 3 4 5;");
        all.away(2, true);
        all.years(4);
        int[] first = {3, 2, 11, 4, 12, 5, 4};
        for (int i = 0; i < first.length; i++) {
            int what = i;
            due("count " + what, first[what], () -> all.count(what));
        }
        says(5, "10 ACTS that are kept, 11 HEARD, 12 bytes of the tape, 13 to 15 STATUS 0 to 2");
        all.hear(1, 1);
        all.hear(1, 2);
        all.hear(1, 3);
        all.hear(1, 13);
        all.years(0);
        all.years(21);
        for (int i = 0; i < 3; i++) {
            Check.tell(all, "?");
        }
        Check.feed(all, " ".repeat(40));
        int[] later = {2, 3, 40, 3, 2, 1};
        for (int i = 0; i < later.length; i++) {
            int what = 10 + i;
            int want = later[i];
            due("count " + what, want, () -> all.count(what));
        }
        says(5, "7 who is AWAY (bits), 8 who is DEAD (bits), 9 who is married (bits)");
        TownTune eight = of(elders(7) + "elder 1 8 0;");
        eight.marry(0, 7);
        for (int person = 0; person < 8; person++) {
            int p = person;
            eight.away(p, true);
            due("away up to " + p, (2 << p) - 1, () -> eight.count(7));
        }
        for (int person = 0; person < 8; person++) {
            int p = person;
            eight.dies(7 - p);
            due("dead down to " + (7 - p), 256 - (128 >> p), () -> eight.count(8));
        }
        due("the dead stay away", 255, () -> eight.count(7));
        due("married", 129, () -> eight.count(9));
    }

    private static void persons() {
        says(6, "NoSuchElementException: no such PERSON (as everywhere), what.");
        TownTune x = of(elders(8), 1);
        due("the last one", 8, () -> x.person(7, 2));
        due("the first what", 0, () -> x.person(7, 0));
        due("the last what", 0, () -> x.person(7, 6));
        for (int what : new int[] {MIN, -1, 7, MAX}) {
            stays("what " + what, x, NOTHING, NO_SUCH, () -> x.person(7, what));
        }
        for (int person : new int[] {MIN, -1, 8, MAX}) {
            stays("person " + person, x, NOTHING, NO_SUCH, () -> x.person(person, 0));
        }
        TownTune one = of("elder 0 1 0;");
        due("the only one", 0, () -> one.person(0, 0));
        due("no second one", NO_SUCH, () -> one.person(1, 0));
        Check.tell(one, "");
        due("nobody any more", NO_SUCH, () -> one.person(0, 0));

        says(6, "a KIND (0 elder, 1 child, 2 deaf, 3 spy)");
        TownTune kinds = of("spy 0 1 0;deaf 0 2 0;child 0 3 0;elder 0 4 0;feud 3 0;feud 1 3;");
        for (int i = 0; i < 4; i++) {
            int p = i;
            due("of " + p, 3 - p, () -> kinds.person(p, 0));
        }
        says(6, "4 signs in THE TUNE");
        due("none", 0, () -> kinds.person(0, 4));
        kinds.years(1);
        due("one", 1, () -> kinds.person(0, 4));
        kinds.away(0, true);
        kinds.years(1);
        due("a rest is one too", 2, () -> kinds.person(0, 4));
        kinds.dies(0);
        kinds.years(1);
        due("the dead have no more", 2, () -> kinds.person(0, 4));
        says(6, "6 how many FEUDS");
        int[] feuds = {1, 1, 0, 2};
        for (int i = 0; i < 4; i++) {
            int p = i;
            due("of " + p, feuds[p], () -> kinds.person(p, 6));
        }
        says(6, "5 the place among BIRTHDAYS (0 the first)");
        TownTune days = of("elder 0 365 0;elder 0 1 0;elder 0 364 0;elder 0 2 0;");
        int[] places = {3, 0, 2, 1};
        days.dies(1);
        for (int i = 0; i < 4; i++) {
            int p = i;
            due("of " + p, places[p], () -> days.person(p, 5));
        }
    }

    private static void nobodySuch() {
        says(6, "no such PERSON (as everywhere)");
        TownTune x = of(TWO, 1);
        for (int nobody : new int[] {MIN, -1, 2, 8, MAX}) {
            due("away", NO_SUCH, () -> is(x.away(nobody, true)));
            due("home", NO_SUCH, () -> is(x.away(nobody, false)));
            due("dies", NO_SUCH, () -> is(x.dies(nobody)));
            due("marry the first", NO_SUCH, () -> x.marry(nobody, 0));
            due("marry the second", NO_SUCH, () -> x.marry(0, nobody));
            due("marry both", NO_SUCH, () -> x.marry(nobody, nobody));
            due("quarrel the first", NO_SUCH, () -> x.quarrel(nobody, 0));
            due("quarrel the second", NO_SUCH, () -> x.quarrel(0, nobody));
            due("quarrel both", NO_SUCH, () -> x.quarrel(nobody, nobody));
            due("own", NO_SUCH, () -> x.own(nobody, 0));
        }
        due("that is no ACT refused", 0, () -> x.count(ACTS_REFUSED));
        due("none is kept", 1, () -> x.count(10));
    }

    private static void feudNumbers() {
        says(7, "NoSuchElementException: no such FEUD, what.");
        TownTune x = of(elders(4) + "feud 0 1;feud 2 3;");
        due("the last", 3, () -> x.feud(1, 1));
        for (int feud : new int[] {MIN, -1, 2, 6, MAX}) {
            due("feud " + feud, NO_SUCH, () -> x.feud(feud, 0));
            due("feud " + feud + ", 1", NO_SUCH, () -> x.feud(feud, 1));
        }
        for (int what : new int[] {MIN, -1, 2, MAX}) {
            due("what " + what, NO_SUCH, () -> x.feud(0, what));
        }
        x.peace(0);
        due("the second is the first now", 2, () -> x.feud(0, 0));
        due("there is no second now", NO_SUCH, () -> x.feud(1, 0));
    }

    private static void places() {
        says(8, "NoSuchElementException: no such place, what.");
        TownTune x = of("elder 0 2 5;elder 0 1 0;");
        due("an empty tune", NO_SUCH, () -> x.sign(0, 0));
        x.years(2);
        due("the first", 0, () -> x.sign(0, 0));
        due("the last", 5, () -> x.sign(3, 0));
        due("whose", 0, () -> x.sign(3, 1));
        due("in which year", 1, () -> x.sign(3, 2));
        for (int place : new int[] {MIN, -1, 4, 399, 400, MAX}) {
            for (int what = 0; what < 3; what++) {
                int w = what;
                due("place " + place, NO_SUCH, () -> x.sign(place, w));
            }
        }
        for (int what : new int[] {MIN, -1, 3, MAX}) {
            due("what " + what, NO_SUCH, () -> x.sign(3, what));
        }
        x.undo();
        due("undone", NO_SUCH, () -> x.sign(0, 0));
    }

    private static void otherPlaces() {
        says(9, "NoSuchElementException: no such place.");
        TownTune x = of("other 3 12 11;");
        due("the first", 3, () -> x.other(0));
        due("the last", 11, () -> x.other(2));
        for (int place : new int[] {MIN, -1, 3, 23, 24, MAX}) {
            due("place " + place, NO_SUCH, () -> x.other(place));
        }
        TownTune most = of("other" + " 1".repeat(23) + " 2;");
        due("the 24th", 2, () -> most.other(23));
        due("no 25th", NO_SUCH, () -> most.other(24));
        Check.tell(most, "");
        due("none any more", NO_SUCH, () -> most.other(0));
    }
}
