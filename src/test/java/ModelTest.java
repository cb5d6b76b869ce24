import java.util.ArrayList;
import java.util.List;
import java.util.NoSuchElementException;

/**
 * All promises: runs of mixed calls, drawn by the draws of the document, each answered by the class and by the Model.
 * With two numbers, a first seed and how many runs, it goes on from there: for more runs than .ci/run has time for.
 */
public final class ModelTest {
    private static final int CALLS_LIMIT = 512;
    private static final String[] NAMES = {"a", "b", "c", "d", "e", "f", "g", "h", "i", "j", "k", "l", "ann", "try",
        "night", "opened", "shut", "hour", "day", "mark", "far", "times", "which", "abcdefgh"};
    private static final String[] WORDS = {"hand", "marks", "slip", "trust", "door", "near", "street", "gossip", "guard",
        "to", "learn", "feel", "not", "and", "or", "owner", "maid", "child", "dog", "twin", "mean", "nearest", "counts",
        "cheap", "nervous", "bank", "try", "night", "opened", "shut", "hour", "day", "mark", "far", "times", "which", "(",
        ")", "<", "=", "+", "-", "*", ";", "0", "3", "9", "10", "99", "100", "9999", "12345", "abcdefgh", "abcdefghi",
        "A", "~", "a", "b", "c", "h", "i", "j"};
    private static final String[] LAWS = {"1", "2", "9", "trust", "1+opened", "1+opened*trust", "(far<30)*2", "times<3",
        "opened", "not opened", "hour<12", "1+day", "trust-times", "(hour=0)*9", "3-times", "opened or times=2"};
    private static final String[] FEELINGS = {"mark", "mark", "9-mark", "mark*(which<2)", "mark+hour*0", "mark+day",
        "(mark<5)*4+which", "mark-which", "mark*2-5", "mark+(hour<12)", "which"};

    private final Due due;
    private final Model.Draw draw;
    private final KnowLocks x = new KnowLocks();
    private final Model model = new Model();
    private final List<String> hands = new ArrayList<>();
    private final List<String> doors = new ArrayList<>();
    private final String run;
    private int calls;

    private ModelTest(Due due, int seed) {
        this.due = due;
        draw = new Model.Draw(seed);
        run = "run " + seed;
    }

    public static void main(String[] args) {
        int first = args.length > 1 ? Integer.parseInt(args[0]) : 1;
        int many = args.length > 1 ? Integer.parseInt(args[1]) : 400;
        Due due = new Due();
        for (int seed = first; seed < first + many; seed++) {
            new ModelTest(due, seed).go();
        }
        due.end();
    }

    private void go() {
        if (chance(1, 10)) {
            someCalls(20);
        }
        int quarters = 1 + draw.below(3);
        for (int i = 0; i < quarters; i++) {
            tell(quarterText(), true);
            if (chance(2, 3)) {
                tell(historyText(), false);
            }
            someCalls(20 + draw.below(80));
        }
        due.is(run + " stays within " + CALLS_LIMIT + " calls", calls <= CALLS_LIMIT, true);
    }

    private boolean chance(int of, int all) {
        return draw.below(all) < of;
    }

    private String one(String[] of) {
        return of[draw.below(of.length)];
    }

    // ---- texts

    /** One in four has a token that is put in, put in the place of another, or left out. */
    private void tell(List<String> tokens, boolean quarter) {
        for (int i = draw.below(8); i >= 6 && !tokens.isEmpty(); i--) {
            int at = draw.below(tokens.size());
            int how = draw.below(4);
            String other = chance(1, 3) ? tokens.get(draw.below(tokens.size())) : one(WORDS);
            if (how > 0) {
                tokens.remove(at);
            }
            if (how < 3) {
                tokens.add(at, other);
            }
        }
        StringBuilder text = new StringBuilder();
        for (String token : tokens) {
            boolean apart = text.length() > 0 && Character.isLetterOrDigit(text.charAt(text.length() - 1))
                && Character.isLetterOrDigit(token.charAt(0));
            text.append(apart || chance(1, 12) ? chance(1, 9) ? "\n" : " " : "").append(token);
        }
        // Without a feed for what follows, an object would be called too often.
        for (int at = 0; at < text.length() && calls < CALLS_LIMIT - 2; at += 24) {
            long a = Due.eight(text.toString(), at);
            long b = Due.eight(text.toString(), at + 8);
            long c = Due.eight(text.toString(), at + 16);
            is("feed", x.feed(a, b, c), model.feed(a, b, c));
        }
        if (quarter) {
            is("quarter of " + text, x.quarter(), model.quarter());
        } else {
            is("history of " + text, x.history(), model.history());
        }
    }

    private List<String> quarterText() {
        hands.clear();
        doors.clear();
        List<String> tokens = new ArrayList<>();
        int from = draw.below(NAMES.length);
        int hand = chance(1, 12) ? draw.below(9) : 2 + draw.below(4);
        int door = chance(1, 12) ? draw.below(7) : 2 + draw.below(4);
        int[] about = {draw.below(10), draw.below(10), draw.below(10), draw.below(10)};
        for (int i = 0; i < hand; i++) {
            addHand(tokens, NAMES[(from + i) % NAMES.length], about);
        }
        for (int i = 0; i < door; i++) {
            addDoor(tokens, NAMES[(from + hand + i) % NAMES.length]);
        }
        for (int i = 0; i < doors.size(); i++) {
            for (int j = 0; j < i; j++) {
                if (chance(1, 2)) {
                    boolean turned = chance(1, 2);
                    add(tokens, "street", doors.get(turned ? i : j), doors.get(turned ? j : i), ";");
                }
            }
        }
        if (chance(3, 4)) {
            add(tokens, "gossip", "" + draw.below(chance(1, 3) ? 10 : 3), ";");
        }
        if (chance(1, 3)) {
            int least = draw.below(24);
            add(tokens, "guard", "" + least, "to", "" + (least + draw.below(24 - least)), ";");
        }
        if (chance(2, 3)) {
            add(tokens, "learn", chance(2, 3) ? one(LAWS) : tests(0, true), ";");
        }
        if (chance(1, 2)) {
            add(tokens, "feel", chance(2, 3) ? one(FEELINGS) : tests(0, false), ";");
        }
        return tokens;
    }

    private static void add(List<String> tokens, String... more) {
        tokens.addAll(List.of(more));
    }

    private void addHand(List<String> tokens, String name, int[] about) {
        String[] kinds = {"owner", "owner", "maid", "child", "dog", "dog", "twin"};
        String kind = one(kinds);
        if (kind.equals("twin") && hands.isEmpty()) {
            kind = "owner";
        }
        add(tokens, "hand", name, kind);
        if (kind.equals("twin")) {
            add(tokens, hands.get(draw.below(hands.size())));
        } else {
            add(tokens, "marks");
            for (int i = 0; i < 4; i++) {
                int mark = chance(1, 6) ? draw.below(10) : about[i] + draw.below(5) - 2;
                add(tokens, "" + Math.max(0, Math.min(9, mark)));
            }
        }
        add(tokens, "slip", "" + draw.below(chance(1, 4) ? 4 : 2), "trust", "" + draw.below(chance(1, 2) ? 4 : 10), ";");
        hands.add(name);
    }

    private void addDoor(List<String> tokens, String name) {
        String[] kinds = {"mean", "mean", "nearest", "nearest", "counts", "counts", "cheap", "cheap", "nervous", "nervous", "bank"};
        String kind = one(kinds);
        add(tokens, "door", name, kind, "near", "" + draw.below(chance(1, 5) ? 100 : 25), ";");
        doors.add(name);
    }

    private List<String> historyText() {
        List<String> tokens = new ArrayList<>();
        int steps = chance(1, 12) ? draw.below(40) : draw.below(12);
        for (int i = 0; i < steps && !hands.isEmpty() && !doors.isEmpty(); i++) {
            if (chance(1, 5)) {
                add(tokens, "night", ";");
            } else {
                String hand = hands.get(draw.below(hands.size()));
                String door = doors.get(draw.below(chance(1, 2) ? 1 : doors.size()));
                add(tokens, "try", hand, door, chance(1, 3) ? "opened" : "shut", ";");
            }
        }
        return tokens;
    }

    private String tests(int depth, boolean learn) {
        StringBuilder text = new StringBuilder(test(depth, learn));
        while (chance(1, 4)) {
            text.append(chance(1, 2) ? " and " : " or ").append(test(depth, learn));
        }
        return text.toString();
    }

    private String test(int depth, boolean learn) {
        String sum = sum(depth, learn);
        return chance(1, 4) ? sum + (chance(1, 2) ? "<" : "=") + sum(depth, learn) : sum;
    }

    private String sum(int depth, boolean learn) {
        StringBuilder text = new StringBuilder(product(depth, learn));
        while (chance(1, 3)) {
            text.append(chance(1, 2) ? "+" : "-").append(product(depth, learn));
        }
        return text.toString();
    }

    private String product(int depth, boolean learn) {
        StringBuilder text = new StringBuilder(part(depth, learn));
        while (chance(1, 5)) {
            text.append("*").append(part(depth, learn));
        }
        return text.toString();
    }

    /** Now and then one within five others, which is one too many. */
    private String part(int depth, boolean learn) {
        String[] ofLearn = {"hour", "day", "opened", "trust", "times", "far"};
        String[] ofFeel = {"hour", "day", "mark", "mark", "mark", "which"};
        int what = depth < 5 ? draw.below(8) : 7;
        switch (what) {
            case 0: return "not " + part(depth + 1, learn);
            case 1: return "(" + tests(depth + 1, learn) + ")";
            case 2: return "" + draw.below(chance(1, 3) ? 10000 : 6);
            default: return one(learn ? ofLearn : ofFeel);
        }
    }

    // ---- calls

    private void is(String call, long got, long want) {
        calls++;
        due.is(run + ", call " + calls + ": " + call, got, want);
    }

    private void is(String call, boolean got, boolean want) {
        is(call, got ? 1 : 0, want ? 1 : 0);
    }

    private void someCalls(int many) {
        for (int i = 0; i < many && calls < CALLS_LIMIT - 120; i++) {
            if (chance(1, 3)) {
                someQuestion(draw.below(15));
            } else {
                someCall(draw.below(24));
            }
        }
    }

    private int drawn(int most) {
        int[] wrong = {-1, -2, most, most + 1, 99, Integer.MIN_VALUE, Integer.MAX_VALUE};
        return chance(1, 25) || most <= 0 ? wrong[draw.below(wrong.length)] : draw.below(most);
    }

    private int drawnSlips(int hand) {
        int most = Math.max(0, x.hand(hand, 5));
        calls++;
        if (chance(1, 12)) {
            return drawn(2401);
        }
        if (chance(1, 3)) {
            return 1200;
        }
        int slips = 0;
        for (int i = 0; i < 4; i++) {
            slips = 7 * slips + 3 + draw.below(2 * most + 1) - most;
        }
        return slips;
    }

    private void someCall(int which) {
        int d = drawn(doors.size());
        int h = drawn(hands.size());
        int what;
        switch (which) {
            case 0 -> is("hand " + h, x.hand(h, what = drawn(7)), model.hand(h, what));
            case 1, 2 -> is("door " + d, x.door(d, what = drawn(6)), model.door(d, what));
            case 3, 4 -> is("knows " + d, x.knows(d, what = drawn(chance(1, 2) ? 5 : 40)), model.knows(d, what));
            case 5, 6 -> is("far " + d + " " + h, x.far(d, h), model.far(d, h));
            case 7, 8 -> is("opens " + d + " " + h, x.opens(d, h, what = drawnSlips(h)), model.opens(d, h, what));
            case 9, 10, 11, 12, 13, 14, 15 -> is("knock " + d + " " + h, x.knock(d, h, what = drawnSlips(h)), model.knock(d, h, what));
            case 16 -> is("near " + d, x.near(d, what = drawn(chance(1, 2) ? 100 : 30)), model.near(d, what));
            case 17 -> is("undo", x.undo(), model.undo());
            case 18, 19 -> is("hours", x.hours(what = drawn(chance(1, 9) ? 1001 : 30)), model.hours(what));
            case 20, 21 -> is("count", x.count(what = drawn(10)), model.count(what));
            case 22 -> is("mark", x.mark(what = drawn(4), false), model.mark(what, false));
            default -> {
                if (chance(1, 3)) {
                    is("mark back", x.mark(what = drawn(4), true), model.mark(what, true));
                }
            }
        }
    }

    private void someQuestion(int which) {
        int d = drawn(doors.size());
        int h = drawn(hands.size());
        int o = drawn(hands.size());
        int what;
        String of = " " + d + " " + h + " " + o;
        switch (which) {
            case 0 -> is("patience" + of, x.patience(d, h), model.patience(d, h));
            case 1 -> is("unseen" + of, x.unseen(d, h), model.unseen(d, h));
            case 2 -> is("breaks" + of, x.breaks(d, h, what = drawn(5) - 1), model.breaks(d, h, what));
            case 3 -> is("defence" + of, x.defence(d, h, what = drawn(22)), model.defence(d, h, what));
            case 4 -> is("chance" + of, x.chance(d, h, what = drawn(2)), model.chance(d, h, what));
            case 5 -> is("best" + of, x.best(d, h, o, what = drawn(3)), model.best(d, h, o, what));
            case 6 -> is("street" + of, x.street(h, d, what = drawn(doors.size())), model.street(h, d, what));
            case 7 -> is("judged", x.judged(), model.judged());
            case 8 -> {
                int kind = drawn(5);
                is("fits" + of, x.fits(d, kind, what = drawn(3)), model.fits(d, kind, what));
            }
            case 9 -> is("tells" + of, x.tells(d), model.tells(d));
            case 10 -> is("taken" + of, x.taken(h, o), model.taken(h, o));
            case 11 -> is("apart" + of, x.apart(d, h, o), model.apart(d, h, o));
            case 12 -> is("trained" + of, x.trained(d, h, o, what = drawn(6) - 1), model.trained(d, h, o, what));
            case 13 -> is("rests" + of, x.rests(d, what = drawn(6) - 1), model.rests(d, what));
            default -> years();
        }
    }

    private void years() {
        int seed = drawn(10000);
        int days = drawn(chance(1, 4) ? 42 : 8);
        int what = drawn(3);
        int got;
        int want;
        try {
            got = x.years(seed, days, what);
        } catch (NoSuchElementException e) {
            got = -9;
        }
        try {
            want = model.years(seed, days, what);
        } catch (NoSuchElementException e) {
            want = -9;
        }
        is("years " + seed + " " + days + " " + what, got, want);
    }
}
