import java.util.Arrays;
import java.util.Random;

/** Runs of calls by chance, on the class and on the model: every answer must be the same. */
final class ModelTest {
    private static final String[] WORDS = {"elder", "child", "deaf", "spy", "key", "feud", "other", "sings",
        "or", "and", "not", "year", "base", "last", "house", "kind", "sung", "x", "elde", "nott"};
    private static final String[] SIGNS = {";", "(", ")", "+", "-", "*", "/", "<", "=", "!", "A", "\t", "\377"};

    private final Random random;
    private final TownTune x = new TownTune();
    private final Model m = new Model();
    private final StringBuilder log = new StringBuilder();
    private boolean same = true;
    /** An object answers 512 calls: what comes later is free. */
    private int callsLeft = 512;

    private ModelTest(int seed) {
        random = new Random(seed);
    }

    public static void main(String[] args) {
        int runs = args.length > 0 ? Integer.parseInt(args[0]) : 600;
        int first = args.length > 1 ? Integer.parseInt(args[1]) : 1;
        for (int seed = first; seed < first + runs && Check.wrong() < 5; seed++) {
            ModelTest t = new ModelTest(seed);
            t.run();
            Check.holds("run " + seed + ":\n" + t.log, t.same);
        }
        Check.end("ModelTest");
    }

    private int r(int n) {
        return random.nextInt(n);
    }

    private void run() {
        int calls = 40 + r(470);
        boolean good = r(4) != 0;
        int left = calls;
        if (good) {
            tell(town());
            left -= 31;
        }
        for (int i = 0; i < left && same; i++) {
            if (r(150) == 0 && left - i > 32) {
                i += 31;
                tell(r(3) == 0 ? town() : broken(town()));
            } else if (!good && r(8) == 0 && left - i > 32) {
                i += 31;
                tell(r(3) == 0 ? soup() : broken(town()));
            } else {
                call();
            }
        }
    }

    private void compare(String name, Check.Call a, Check.Call b) {
        if (callsLeft == 0) {
            return;
        }
        callsLeft--;
        long want = Check.answer(b);
        String got;
        try {
            long answer = Check.answer(a);
            got = Check.told(answer);
            same = answer == want;
        } catch (RuntimeException e) {
            got = "throws " + e;
            same = false;
        }
        log.append(name).append(" -> ").append(got);
        log.append(same ? "" : ", the model's is " + Check.told(want)).append('\n');
    }

    private static long done(Runnable call) {
        call.run();
        return 0;
    }

    private String expr(int depth) {
        StringBuilder b = new StringBuilder();
        int parts = 1 + r(depth > 3 ? 2 : 4);
        for (int i = 0; i < parts; i++) {
            if (i > 0) {
                b.append(' ').append(new String[] {"+", "-", "*", "/", "<", "=", "and", "or"}[r(8)]).append(' ');
            }
            if (r(12) == 0) {
                b.append("not ".repeat(1 + r(3)));
            }
            int kind = r(10);
            if (kind < 5) {
                b.append(new String[] {"year", "base", "last", "key", "house", "kind", "sung"}[r(7)]);
            } else if (kind < 8 || depth > 4) {
                b.append(r(8) == 0 ? r(10000) : r(13));
            } else {
                b.append('(').append(expr(depth + 1)).append(')');
            }
        }
        return b.toString();
    }

    private String town() {
        StringBuilder b = new StringBuilder();
        int people = r(12) == 0 ? 0 : 1 + r(8);
        for (int i = 0; i < people; i++) {
            b.append(WORDS[r(4)]).append(' ').append(r(4)).append(' ');
            b.append(1 + i * 40 + (r(5) == 0 ? r(45) : (i * 7 + r(3)) % 39)).append(' ').append(r(12)).append(";");
        }
        if (r(3) != 0) {
            b.append("key ").append(r(12)).append(";\n");
        }
        for (int i = r(4) - 1; i > 0 && people > 1; i--) {
            b.append("feud ").append(r(people)).append(' ').append(r(people)).append(';');
        }
        if (r(3) != 0) {
            b.append("other");
            for (int i = r(24); i >= 0; i--) {
                b.append(' ').append(r(r(3) == 0 ? 13 : 12));
            }
            b.append(';');
        }
        if (r(3) != 0) {
            String e = expr(0);
            if (b.length() + e.length() < 590) {
                b.append("sings ").append(e).append(';');
            }
        }
        return b.length() > 600 ? b.substring(0, 600) : b.toString();
    }

    private String piece() {
        int kind = r(5);
        if (kind < 2) {
            return WORDS[r(WORDS.length)];
        }
        if (kind < 4) {
            return SIGNS[r(SIGNS.length)];
        }
        return new String[] {"0", "1", "7", "12", "13", "365", "366", "9999", "10000", "00001", "0003"}[r(11)];
    }

    private String broken(String text) {
        StringBuilder b = new StringBuilder(text);
        for (int i = 1 + r(2); i > 0; i--) {
            int at = r(b.length() + 1);
            int to = Math.min(b.length(), at + r(4));
            b.replace(at, to, r(3) == 0 ? "" : " " + piece() + " ");
        }
        return b.length() > 600 ? b.substring(0, 600) : b.toString();
    }

    private String soup() {
        StringBuilder b = new StringBuilder(r(2) == 0 ? "sings " : "");
        for (int i = r(20); i > 0; i--) {
            b.append(r(3) == 0 ? "(" : piece()).append(r(2) == 0 ? " " : "");
        }
        return b.toString();
    }

    private void tell(String text) {
        int[] n = Check.fed(Check.bytes(text));
        // Whatever was on the tape goes first, or the text would stand behind it.
        compare("town(0)", () -> x.town(0), () -> m.town(0));
        for (int i = 0; i < n.length && same; i += 5) {
            int[] five = Arrays.copyOfRange(n, i, i + 5);
            compare("feed(" + Arrays.toString(five) + ")",
                    () -> x.feed(five[0], five[1], five[2], five[3], five[4]), () -> m.feed(five));
        }
        log.append("the text: ").append(text).append('\n');
        compare("town(" + text.length() + ")", () -> x.town(text.length()), () -> m.town(text.length()));
        compare("fault()", x::fault, m::fault);
    }

    private int person() {
        int people = m.count(0);
        return people == 0 || r(15) == 0 ? r(11) - 2 : r(people);
    }

    private int phrase(int many) {
        int length = m.count(4);
        if (length >= many && many > 0 && r(4) != 0) {
            int at = r(length - many + 1);
            int phrase = 0;
            for (int i = 0; i < many; i++) {
                phrase = phrase * 13 + m.sign(at + i, 0);
            }
            return phrase + (r(6) == 0 ? 1 : 0);
        }
        return r(10) == 0 ? random.nextInt() : r((int) Math.pow(13, Math.max(1, Math.min(many, 4))));
    }

    private void call() {
        int kind = r(100);
        if (kind < 30) {
            act();
        } else if (kind < 55) {
            look();
        } else if (kind < 75) {
            ask();
        } else {
            suppose();
        }
    }

    private void act() {
        int p = person();
        int q = person();
        boolean gone = r(2) == 0;
        switch (r(16)) {
            case 0: case 1: case 2: case 3: case 4:
                int many = r(4) == 0 ? r(24) - 1 : 1 + r(3);
                compare("years(" + many + ")", () -> x.years(many), () -> m.years(many));
                break;
            case 5: case 6:
                compare("away(" + p + ", " + gone + ")", () -> x.away(p, gone) ? 1 : 0, () -> m.away(p, gone));
                break;
            case 7:
                if (r(4) == 0) {
                    compare("dies(" + p + ")", () -> x.dies(p) ? 1 : 0, () -> m.dies(p));
                }
                break;
            case 8: case 9:
                compare("marry(" + p + ", " + q + ")", () -> x.marry(p, q), () -> m.marry(p, q));
                break;
            case 10: case 11:
                compare("quarrel(" + p + ", " + q + ")", () -> x.quarrel(p, q), () -> m.quarrel(p, q));
                break;
            case 12:
                int feud = r(8) - 1;
                compare("peace(" + feud + ")", () -> x.peace(feud) ? 1 : 0, () -> m.peace(feud));
                break;
            case 13: case 14:
                for (int i = 1 + r(r(8) == 0 ? 50 : 3); i > 0 && same; i--) {
                    compare("undo()", x::undo, m::undo);
                }
                break;
            default:
                if (r(2) == 0) {
                    compare("image()", () -> done(x::image), () -> done(m::image));
                } else {
                    compare("restore()", () -> x.restore() ? 1 : 0, m::restore);
                }
                break;
        }
    }

    private void look() {
        int p = person();
        int what = r(9) - 1;
        int length = m.count(4);
        switch (r(6)) {
            case 0: case 1:
                int c = r(18) - 1;
                compare("count(" + c + ")", () -> x.count(c), () -> m.count(c));
                break;
            case 2:
                compare("person(" + p + ", " + what + ")", () -> x.person(p, what), () -> m.person(p, what));
                break;
            case 3:
                int f = r(8) - 1;
                compare("feud(" + f + ", " + what % 3 + ")", () -> x.feud(f, what % 3), () -> m.feud(f, what % 3));
                break;
            case 4:
                int place = r(length + 3) - 1;
                compare("sign(" + place + ", " + what % 4 + ")",
                        () -> x.sign(place, what % 4), () -> m.sign(place, what % 4));
                break;
            default:
                int o = r(26) - 1;
                compare("other(" + o + ")", () -> x.other(o), () -> m.other(o));
                break;
        }
    }

    private void ask() {
        int what = r(4) == 0 ? r(4) - 1 : r(2);
        int p = person();
        int many = r(10) == 0 ? r(10) - 1 : 1 + r(4);
        int phrase = phrase(many);
        switch (r(9)) {
            case 0: case 1:
                compare("found(" + phrase + ", " + many + ", " + what + ")",
                        () -> x.found(phrase, many, what), () -> m.found(phrase, many, what));
                break;
            case 2:
                compare("again(" + what + ")", () -> x.again(what), () -> m.again(what));
                break;
            case 3:
                compare("tritones()", x::tritones, m::tritones);
                break;
            case 4:
                int up = r(14) - 1;
                compare("interval(" + up + ")", () -> x.interval(up), () -> m.interval(up));
                break;
            case 5:
                int i = r(m.count(4) / 2 + 3) - 1;
                compare("own(" + p + ", " + i + ")", () -> x.own(p, i), () -> m.own(p, i));
                break;
            case 6:
                compare("breath(" + what + ")", () -> x.breath(what), () -> m.breath(what));
                break;
            case 7:
                compare("palindrome()", x::palindrome, m::palindrome);
                compare("tonic()", x::tonic, m::tonic);
                break;
            default:
                compare("like(" + what + ")", () -> x.like(what), () -> m.like(what));
                break;
        }
    }

    private void suppose() {
        int what = r(5) == 0 ? r(5) - 1 : r(2);
        int many = r(10) == 0 ? r(10) - 1 : 1 + r(3);
        int phrase = phrase(many);
        int length = m.count(4);
        switch (r(12)) {
            case 0:
                int ahead = r(5) == 0 ? r(404) - 2 : length + r(170) - 5;
                compare("then(" + ahead + ")", () -> x.then(ahead), () -> m.then(ahead));
                break;
            case 1:
                compare("when(" + phrase + ", " + many + ")", () -> x.when(phrase, many), () -> m.when(phrase, many));
                break;
            case 2:
                int years = r(10) == 0 ? r(13) - 1 : 1 + r(4);
                compare("quiet(" + years + ")", () -> x.quiet(years), () -> m.quiet(years));
                break;
            case 3:
                compare("match()", x::match, m::match);
                break;
            case 4: case 5:
                hear(length);
                break;
            case 6: case 7:
                compare("spy(" + what + ")", () -> x.spy(what), () -> m.spy(what));
                compare("spy(2)", () -> x.spy(2), () -> m.spy(2));
                break;
            case 8:
                compare("listen(" + what + ")", () -> x.listen(what), () -> m.listen(what));
                if (r(4) == 0) {
                    compare("forget()", () -> done(x::forget), () -> done(m::forget));
                }
                break;
            case 9:
                compare("vote()", x::vote, m::vote);
                break;
            case 10:
                int a = r(12) == 0 ? r(6) - 1 : r(4);
                int b = r(12) == 0 ? r(6) - 1 : r(4);
                compare("game(" + a + ", " + b + ", " + what + ")",
                        () -> x.game(a, b, what), () -> m.game(a, b, what));
                break;
            default:
                int seed = random.nextInt();
                int n = r(23) - 1;
                compare("century(" + seed + ", " + n + ", " + what + ")",
                        () -> x.century(seed, n, what), () -> m.century(seed, n, what));
                break;
        }
    }

    /** Often what comes if one is turned, so that there is somebody to suspect. */
    private void hear(int length) {
        int place = r(10) == 0 ? r(404) - 2 : Math.max(0, length + r(20) - 4);
        int likely = place >= 0 && place < 400 ? m.then(place) : 0;
        int sign = likely < 0 || r(8) == 0 ? r(15) - 1 : r(3) == 0 ? (likely + 11) % 12 : likely;
        compare("hear(" + place + ", " + sign + ")", () -> x.hear(place, sign), () -> m.hear(place, sign));
    }
}
