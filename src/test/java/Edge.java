import java.io.IOException;
import java.nio.file.Files;
import java.nio.file.Path;
import java.util.ArrayList;
import java.util.List;

/** What the tests of boundary cases share: the sentence that is in hand, and towns that lead to an edge. */
abstract class Edge {
    static final long NO_SUCH = Check.NO_SUCH;
    static final long ILLEGAL = Check.ILLEGAL;
    static final int NONE = -1;
    static final int MIN = Integer.MIN_VALUE;
    static final int MAX = Integer.MAX_VALUE;

    static final int TEXTS_REFUSED = 13;
    static final int ACTS_REFUSED = 14;
    static final int HEARD_REFUSED = 15;
    /** For calls that change nothing, STATUS neither. */
    static final int NOTHING = -1;

    private static final List<String> QUOTES = new ArrayList<>();
    private static String sentence = "";

    /** The checks that follow are of this sentence of the document, which this promise uses. */
    static void says(int promise, String words) {
        sentence = "promise " + promise + ", \"" + words + "\", ";
        QUOTES.add(words);
    }

    static void due(String at, long want, Check.Call call) {
        Check.due(sentence + at, want, call);
    }

    static void dueTune(String at, String want, TownTune x) {
        Check.dueTune(sentence + at, want, x);
    }

    /** The call answers so; one more stands in this count (in none: NOTHING), and all others stay. */
    static void stays(String at, TownTune x, int status, long want, Check.Call call) {
        int[] before = counts(x);
        int place = x.fault();
        due(at, want, call);
        int[] after = counts(x);
        if (status != NOTHING) {
            before[status]++;
        }
        for (int what = 0; what < 16; what++) {
            int now = after[what];
            due(at + ": count " + what + " then", before[what], () -> now);
        }
        if (status != TEXTS_REFUSED) {
            due(at + ": the fault's place then", place, x::fault);
        }
    }

    private static int[] counts(TownTune x) {
        int[] counts = new int[16];
        for (int what = 0; what < 16; what++) {
            counts[what] = x.count(what);
        }
        return counts;
    }

    static long is(boolean answer) {
        return answer ? 1 : 0;
    }

    static TownTune of(String text) {
        return Check.of(text);
    }

    static TownTune of(String text, int years) {
        return pass(of(text), years);
    }

    static TownTune pass(TownTune x, int years) {
        for (int left = years; left > 0; left -= 20) {
            x.years(Math.min(20, left));
        }
        return x;
    }

    /** So many elders of one house, with birthdays 1, 2 .. and the base 0. */
    static String elders(int many) {
        StringBuilder b = new StringBuilder();
        for (int i = 1; i <= many; i++) {
            b.append("elder 0 ").append(i).append(" 0;");
        }
        return b.toString();
    }

    /** A town of one whose tune is this, a sign a year; it is silent later, if it ends on a rest. */
    static TownTune song(String signs, String more) {
        StringBuilder b = new StringBuilder("elder 0 1 0;" + more + "sings 0");
        for (int i = 0; i < signs.length(); i++) {
            int note = note(signs, i);
            if (note > 0 && note < 12) {
                b.append("+(year=").append(i).append(")*").append(note);
            }
        }
        TownTune x = of(b.append(';').toString());
        for (int i = 0; i < signs.length(); i++) {
            boolean rest = note(signs, i) == 12;
            if (i > 0 ? rest != (note(signs, i - 1) == 12) : rest) {
                x.away(0, rest);
            }
            x.years(1);
        }
        return x;
    }

    static TownTune song(String signs) {
        return song(signs, "");
    }

    private static int note(String signs, int place) {
        return "0123456789ab.".indexOf(signs.charAt(place));
    }

    /** The number by thirteens of these signs. */
    static int phrase(String signs) {
        int number = 0;
        for (int i = 0; i < signs.length(); i++) {
            number = number * 13 + note(signs, i);
        }
        return number;
    }

    /** A text that has none answers 0 and NONE. */
    static void good(String text) {
        fault(text, 0, NONE);
    }

    static void fault(String text, int number, int place) {
        TownTune x = new TownTune();
        due(text, number, () -> Check.tell(x, text));
        due("the place in " + text, place, x::fault);
        due("STATUS behind " + text, number == 0 ? 0 : 1, () -> x.count(TEXTS_REFUSED));
    }

    /** With the document's path as an argument it is looked whether the sentences are its own. */
    static void end(String name, String[] args) throws IOException {
        if (args.length > 0) {
            String document = Files.readString(Path.of(args[0])).replaceAll("\\s+", " ");
            for (String quote : QUOTES) {
                Check.holds("the document does not say: " + quote, document.contains(quote));
            }
        }
        Check.end(name);
    }
}
