import java.util.ArrayList;
import java.util.HashSet;
import java.util.List;
import java.util.Map;
import java.util.NoSuchElementException;
import java.util.Set;
import java.util.function.IntPredicate;

/**
 * A second reading of the document, sentence by sentence, with the Java library and without a thought for speed: each
 * question is asked of a copy of all that is. It shares no code with the class, so that a slip in one of both shows.
 */
final class Model {
    private static final int NONE = -1;
    private static final List<String> HAND_KINDS = List.of("owner", "maid", "child", "dog", "twin");
    private static final List<String> DOOR_KINDS = List.of("mean", "nearest", "counts", "cheap", "nervous", "bank");
    private static final Set<String> NO_NAMES = Set.of("hand", "marks", "slip", "trust", "door", "near", "street",
        "gossip", "guard", "to", "learn", "feel", "not", "and", "or");

    private String tape = "";
    private State now = new State();
    private final List<State> undone = new ArrayList<>();
    private final State[] laid = new State[4];

    // ---- what is told

    /** What E looks at. */
    private static final class Facts {
        int hour;
        int day;
        int opened;
        int trust;
        int times;
        int far;
        int mark;
        int which;
    }

    private interface Expression {
        int of(Facts facts);
    }

    private record Hand(String name, String kind, List<Integer> marks, int slip, int trust) {
        int believed() {
            return kind.equals("maid") ? 2 * trust : kind.equals("child") || kind.equals("dog") ? 0 : trust;
        }

        boolean isChild() {
            return kind.equals("child");
        }

        boolean livesHere() {
            return kind.equals("owner") || kind.equals("maid");
        }
    }

    /** A try; a night has no hand (NONE). */
    private record Step(int hand, int door, boolean opened) {
    }

    private record DoorTold(String name, String kind, int near) {
    }

    private static final class Quarter {
        final List<Hand> hands = new ArrayList<>();
        final List<DoorTold> doors = new ArrayList<>();
        final List<List<Integer>> streets = new ArrayList<>();
        int gossip;
        int guardFrom = 99;
        int guardTo = NONE;
        Expression learn = facts -> 1 + facts.opened;
        Expression feel = facts -> facts.mark;

        int handNamed(String name) {
            for (Hand hand : hands) {
                if (hand.name.equals(name)) {
                    return hands.indexOf(hand);
                }
            }
            return NONE;
        }

        int doorNamed(String name) {
            for (DoorTold door : doors) {
                if (door.name.equals(name)) {
                    return doors.indexOf(door);
                }
            }
            return NONE;
        }
    }

    // ---- what the doors learn

    private static final class Door {
        String kind;
        int near;
        int weight;
        int[] sums = new int[4];
        List<int[]> rows = new ArrayList<>();
        int[][] counts = new int[4][10];
        int today;
        int tries;
        int opened;
        int shutAtLast;
        boolean opensNoMore;

        Door(String kind, int near) {
            this.kind = kind;
            this.near = near;
        }

        Door copy() {
            Door copy = new Door(kind, near);
            copy.weight = weight;
            copy.sums = sums.clone();
            copy.rows = new ArrayList<>(rows);
            for (int i = 0; i < 4; i++) {
                copy.counts[i] = counts[i].clone();
            }
            copy.today = today;
            copy.tries = tries;
            copy.opened = opened;
            copy.shutAtLast = shutAtLast;
            copy.opensNoMore = opensNoMore;
            return copy;
        }

        boolean knowsSums() {
            return kind.equals("mean") || kind.equals("cheap") || kind.equals("nervous");
        }

        int far(int[] felt) {
            if (kind.equals("bank")) {
                return NONE;
            }
            if (kind.equals("counts")) {
                int all = 0;
                for (int i = 0; i < 4; i++) {
                    all += counts[i][felt[i]];
                }
                return all;
            }
            if (kind.equals("nearest")) {
                int least = NONE;
                for (int[] row : rows) {
                    int all = 0;
                    for (int i = 0; i < 4; i++) {
                        all += Math.abs(row[i] - felt[i]);
                    }
                    least = least == NONE ? 10 * all : Math.min(least, 10 * all);
                }
                return least;
            }
            long all = 0;
            for (int i = 0; i < 4; i++) {
                all += Math.abs(sums[i] - weight * felt[i]);
            }
            return weight == 0 ? NONE : (int) (10 * all / weight);
        }

        boolean opensTo(Hand hand, int[] felt) {
            if (kind.equals("bank")) {
                return false;
            }
            if (hand.isChild()) {
                return true;
            }
            if (opensNoMore) {
                return false;
            }
            int far = far(felt);
            return kind.equals("counts") ? far >= near : far != NONE && far <= near;
        }

        void learn(int[] marks, int much) {
            if (knowsSums()) {
                for (int i = 0; i < 4; i++) {
                    sums[i] += much * marks[i];
                }
                weight += much;
            }
            if (kind.equals("nearest") && much > 0) {
                rows.add(0, marks.clone());
                if (rows.size() > 6) {
                    rows.remove(6);
                }
            }
            if (kind.equals("counts")) {
                for (int i = 0; i < 4; i++) {
                    counts[i][marks[i]] = Math.min(9999, counts[i][marks[i]] + much);
                }
            }
        }

        /** Null: it tells nothing. */
        int[] tells() {
            int[] told = new int[4];
            if (kind.equals("nearest")) {
                return rows.isEmpty() ? null : rows.get(0).clone();
            }
            if (knowsSums()) {
                for (int i = 0; i < 4 && weight > 0; i++) {
                    told[i] = Math.min(9, sums[i] / weight);
                }
                return weight > 0 ? told : null;
            }
            boolean some = false;
            for (int i = 0; i < 4; i++) {
                for (int mark = 9; mark >= 0; mark--) {
                    some |= counts[i][mark] > 0;
                    if (counts[i][mark] >= counts[i][told[i]]) {
                        told[i] = mark;
                    }
                }
            }
            return some && kind.equals("counts") ? told : null;
        }

        void midnight() {
            if (kind.equals("cheap")) {
                for (int i = 0; i < 4; i++) {
                    sums[i] = sums[i] / 2;
                }
                weight = weight / 2;
            }
            opensNoMore = false;
            today = 0;
            shutAtLast = 0;
        }
    }

    private static final class State {
        Quarter quarter = new Quarter();
        List<Step> history = List.of();
        int hour;
        int day;
        List<Door> doors = new ArrayList<>();

        static State asTold(Quarter quarter) {
            State state = new State();
            state.quarter = quarter;
            for (DoorTold door : quarter.doors) {
                state.doors.add(new Door(door.kind, door.near));
            }
            return state;
        }

        State copy() {
            State copy = new State();
            copy.quarter = quarter;
            copy.history = history;
            copy.hour = hour;
            copy.day = day;
            for (Door door : doors) {
                copy.doors.add(door.copy());
            }
            return copy;
        }

        int[] felt(List<Integer> marks, int[] slips) {
            int[] felt = new int[4];
            Facts facts = new Facts();
            facts.hour = hour;
            facts.day = day;
            for (int i = 0; i < 4; i++) {
                facts.mark = within(marks.get(i) + slips[i]);
                facts.which = i;
                felt[i] = within(quarter.feel.of(facts));
            }
            return felt;
        }

        int far(int door, int hand) {
            return doors.get(door).far(felt(quarter.hands.get(hand).marks, new int[4]));
        }

        boolean opens(int door, int hand, int... slips) {
            Hand asked = quarter.hands.get(hand);
            return doors.get(door).opensTo(asked, felt(asked.marks, slips.length == 0 ? new int[4] : slips));
        }

        boolean attempt(int door, int hand, int... slips) {
            Hand asked = quarter.hands.get(hand);
            Door tried = doors.get(door);
            int[] felt = felt(asked.marks, slips.length == 0 ? new int[4] : slips);
            boolean opened = tried.opensTo(asked, felt);
            if (!asked.isChild()) {
                Facts facts = new Facts();
                facts.hour = hour;
                facts.day = day;
                facts.opened = opened ? 1 : 0;
                facts.trust = asked.believed();
                facts.times = tried.today;
                facts.far = tried.far(felt);
                tried.learn(felt, within(quarter.learn.of(facts)));
            }
            tried.today++;
            tried.tries++;
            tried.opened += opened ? 1 : 0;
            tried.shutAtLast = opened ? 0 : tried.shutAtLast + 1;
            if (tried.kind.equals("nervous") && tried.shutAtLast == 3) {
                tried.opensNoMore = true;
            }
            return opened;
        }

        void passHour() {
            hour++;
            if (hour == 24) {
                hour = 0;
                day++;
                midnight();
            }
        }

        void passToMidnight() {
            do {
                passHour();
            } while (hour != 0);
        }

        private void midnight() {
            List<int[]> told = new ArrayList<>();
            for (Door door : doors) {
                door.midnight();
                told.add(door.tells());
            }
            for (List<Integer> street : quarter.streets) {
                int first = street.get(0);
                int second = street.get(1);
                if (told.get(first) != null) {
                    doors.get(second).learn(told.get(first), quarter.gossip);
                }
                if (told.get(second) != null) {
                    doors.get(first).learn(told.get(second), quarter.gossip);
                }
            }
        }

        boolean isGuarded() {
            return quarter.guardFrom <= hour && hour <= quarter.guardTo;
        }

        /** The tries of the HISTORY that are not as told, of all doors, gone through from where this stands. */
        List<Integer> wrongTries(IntPredicate ofDoor) {
            List<Integer> wrong = new ArrayList<>();
            int number = 0;
            for (Step step : history) {
                if (step.hand == NONE) {
                    passToMidnight();
                    continue;
                }
                if (attempt(step.door, step.hand) != step.opened && ofDoor.test(step.door)) {
                    wrong.add(number);
                }
                number++;
            }
            return wrong;
        }
    }

    private static int within(int value) {
        return Math.max(0, Math.min(9, value));
    }

    // ---- texts

    private record Token(String text, int place) {
        boolean isWord() {
            return text.matches("[a-z]{1,8}");
        }

        boolean isNumber() {
            return text.matches("[0-9]{1,4}");
        }

        boolean isName() {
            return isWord() && !NO_NAMES.contains(text) && !HAND_KINDS.contains(text) && !DOOR_KINDS.contains(text);
        }
    }

    private static final class Fault extends RuntimeException {
        private static final long serialVersionUID = 1;
        final int number;

        Fault(int kind, Token token) {
            number = kind + 16 * token.place;
        }
    }

    private static final class Text {
        private final List<Token> tokens = new ArrayList<>();
        private int at;

        Text(String text) {
            int place = 0;
            while (place < text.length()) {
                int end = place + 1;
                String alike = "[a-z]+|[0-9]+";
                while (end < text.length() && text.substring(place, end + 1).matches(alike)) {
                    end++;
                }
                if (!text.substring(place, end).isBlank()) {
                    tokens.add(new Token(text.substring(place, end), place));
                }
                place = end;
            }
            tokens.add(new Token("", text.length()));
        }

        Token next() {
            return tokens.get(at);
        }

        boolean isAtEnd() {
            return next().text.isEmpty();
        }

        boolean has(String... texts) {
            return List.of(texts).contains(next().text);
        }

        Token take() {
            return tokens.get(at++);
        }

        Token take(int fault, boolean allowed) {
            if (!allowed) {
                throw new Fault(fault, next());
            }
            return take();
        }

        void due(String text) {
            take(1, has(text));
        }

        int number(int least, int most) {
            if (!next().isNumber()) {
                throw new Fault(1, next());
            }
            int number = Integer.parseInt(next().text);
            take(4, number >= least && number <= most);
            return number;
        }

        Token name() {
            if (!next().isName()) {
                throw new Fault(1, next());
            }
            return next();
        }
    }

    private static Quarter readQuarter(Text text) {
        Quarter told = new Quarter();
        Set<String> once = new HashSet<>();
        while (!text.isAtEnd()) {
            Token first = text.take(1, text.has("hand", "door", "street", "gossip", "guard", "learn", "feel"));
            boolean isOnce = List.of("gossip", "guard", "learn", "feel").contains(first.text);
            if (isOnce && !once.add(first.text)) {
                throw new Fault(3, first);
            }
            if (first.text.equals("hand") && told.hands.size() == 7 || first.text.equals("door") && told.doors.size() == 5) {
                throw new Fault(5, first);
            }
            switch (first.text) {
                case "hand" -> readHand(text, told);
                case "door" -> readDoor(text, told);
                case "street" -> readStreet(text, told);
                case "gossip" -> told.gossip = text.number(0, 9);
                case "guard" -> {
                    told.guardFrom = text.number(0, 23);
                    text.due("to");
                    told.guardTo = text.number(told.guardFrom, 23);
                }
                case "learn" -> told.learn = readTests(text, 0, Set.of("hour", "day", "opened", "trust", "times", "far"));
                default -> told.feel = readTests(text, 0, Set.of("hour", "day", "mark", "which"));
            }
            text.due(";");
        }
        return told;
    }

    private static String readNewName(Text text, Quarter told) {
        String name = text.name().text;
        text.take(3, told.handNamed(name) == NONE && told.doorNamed(name) == NONE);
        return name;
    }

    private static void readHand(Text text, Quarter told) {
        String name = readNewName(text, told);
        String kind = text.take(1, HAND_KINDS.contains(text.next().text)).text;
        List<Integer> marks = new ArrayList<>();
        if (kind.equals("twin")) {
            int twin = told.handNamed(text.name().text);
            text.take(2, twin != NONE);
            marks = told.hands.get(twin).marks;
        } else {
            text.due("marks");
            for (int i = 0; i < 4; i++) {
                marks.add(text.number(0, 9));
            }
        }
        text.due("slip");
        int slip = text.number(0, 3);
        text.due("trust");
        told.hands.add(new Hand(name, kind, marks, slip, text.number(0, 9)));
    }

    private static void readDoor(Text text, Quarter told) {
        String name = readNewName(text, told);
        String kind = text.take(1, DOOR_KINDS.contains(text.next().text)).text;
        text.due("near");
        told.doors.add(new DoorTold(name, kind, text.number(0, 99)));
    }

    private static void readStreet(Text text, Quarter told) {
        int first = told.doorNamed(text.name().text);
        text.take(2, first != NONE);
        int second = told.doorNamed(text.name().text);
        if (second == NONE) {
            throw new Fault(2, text.next());
        }
        boolean isNew = !told.streets.contains(List.of(first, second)) && !told.streets.contains(List.of(second, first));
        text.take(3, isNew && first != second);
        told.streets.add(List.of(first, second));
    }

    private static Expression readTests(Text text, int depth, Set<String> facts) {
        Expression all = readTest(text, depth, facts);
        while (text.has("and", "or")) {
            boolean isAnd = text.take().text.equals("and");
            Expression left = all;
            Expression right = readTest(text, depth, facts);
            all = f -> isAnd ? truth(left.of(f) != 0 & right.of(f) != 0) : truth(left.of(f) != 0 | right.of(f) != 0);
        }
        return all;
    }

    private static int truth(boolean is) {
        return is ? 1 : 0;
    }

    private static Expression readTest(Text text, int depth, Set<String> facts) {
        Expression left = readSum(text, depth, facts);
        if (text.has("<")) {
            text.take();
            Expression right = readSum(text, depth, facts);
            return f -> truth(left.of(f) < right.of(f));
        }
        if (text.has("=")) {
            text.take();
            Expression right = readSum(text, depth, facts);
            return f -> truth(left.of(f) == right.of(f));
        }
        return left;
    }

    private static Expression readSum(Text text, int depth, Set<String> facts) {
        Expression all = readProduct(text, depth, facts);
        while (text.has("+", "-")) {
            int sign = text.take().text.equals("+") ? 1 : -1;
            Expression left = all;
            Expression right = readProduct(text, depth, facts);
            all = f -> left.of(f) + sign * right.of(f);
        }
        return all;
    }

    private static Expression readProduct(Text text, int depth, Set<String> facts) {
        Expression all = readPart(text, depth, facts);
        while (text.has("*")) {
            text.take();
            Expression left = all;
            Expression right = readPart(text, depth, facts);
            all = f -> left.of(f) * right.of(f);
        }
        return all;
    }

    private static Expression readPart(Text text, int depth, Set<String> facts) {
        Token first = text.next();
        if (!first.isNumber() && !text.has("not", "(") && !facts.contains(first.text)) {
            throw new Fault(1, first);
        }
        text.take(5, depth < 5);
        if (first.isNumber()) {
            int number = Integer.parseInt(first.text);
            return f -> number;
        }
        switch (first.text) {
            case "not":
                Expression part = readPart(text, depth + 1, facts);
                return f -> truth(part.of(f) == 0);
            case "(":
                Expression inside = readTests(text, depth + 1, facts);
                text.due(")");
                return inside;
            case "hour": return f -> f.hour;
            case "day": return f -> f.day;
            case "opened": return f -> f.opened;
            case "trust": return f -> f.trust;
            case "times": return f -> f.times;
            case "far": return f -> f.far;
            case "mark": return f -> f.mark;
            default: return f -> f.which;
        }
    }

    private static List<Step> readHistory(Text text, Quarter told) {
        List<Step> steps = new ArrayList<>();
        int tries = 0;
        int nights = 0;
        while (!text.isAtEnd()) {
            Token first = text.take(1, text.has("try", "night"));
            boolean isTry = first.text.equals("try");
            tries += isTry ? 1 : 0;
            nights += isTry ? 0 : 1;
            if (tries > 24 || nights > 12) {
                throw new Fault(5, first);
            }
            if (isTry) {
                int hand = told.handNamed(text.name().text);
                text.take(2, hand != NONE);
                int door = told.doorNamed(text.name().text);
                text.take(2, door != NONE);
                boolean opened = text.take(1, text.has("opened", "shut")).text.equals("opened");
                steps.add(new Step(hand, door, opened));
            } else {
                steps.add(new Step(NONE, NONE, false));
            }
            text.due(";");
        }
        return steps;
    }

    // ---- promises 1 to 13

    int feed(long a, long b, long c) {
        for (long bytes : new long[] {a, b, c}) {
            for (int i = 7; i >= 0; i--) {
                char sign = (char) (bytes >> 8 * i & 0xff);
                if ((sign == '\n' || sign >= ' ' && sign <= '~') && tape.length() < 1000) {
                    tape += sign;
                }
            }
        }
        return tape.length();
    }

    int quarter() {
        Text text = new Text(tape);
        tape = "";
        try {
            now = State.asTold(readQuarter(text));
        } catch (Fault fault) {
            return fault.number;
        }
        undone.clear();
        return 0;
    }

    int history() {
        Text text = new Text(tape);
        tape = "";
        try {
            now.history = readHistory(text, now.quarter);
        } catch (Fault fault) {
            return fault.number;
        }
        // A history is not what is undone.
        for (State state : undone) {
            state.history = now.history;
        }
        return 0;
    }

    int hand(int hand, int what) {
        if (!isHand(hand)) {
            return NONE;
        }
        Hand asked = now.quarter.hands.get(hand);
        Map<Integer, Integer> answers = Map.of(0, asked.marks.get(0), 1, asked.marks.get(1), 2, asked.marks.get(2),
            3, asked.marks.get(3), 4, HAND_KINDS.indexOf(asked.kind), 5, asked.slip, 6, asked.believed());
        return answers.getOrDefault(what, NONE);
    }

    int door(int door, int what) {
        if (!isDoor(door)) {
            return NONE;
        }
        Door asked = now.doors.get(door);
        Map<Integer, Integer> answers = Map.of(0, DOOR_KINDS.indexOf(asked.kind), 1, asked.near, 2, asked.today,
            3, asked.tries, 4, asked.opened, 5, asked.shutAtLast);
        return answers.getOrDefault(what, NONE);
    }

    int knows(int door, int i) {
        if (!isDoor(door) || i < 0) {
            return NONE;
        }
        Door asked = now.doors.get(door);
        List<Integer> known = new ArrayList<>();
        if (asked.knowsSums()) {
            for (int sum : asked.sums) {
                known.add(sum);
            }
            known.add(asked.weight);
        }
        if (asked.kind.equals("nearest")) {
            for (int[] row : asked.rows) {
                for (int mark : row) {
                    known.add(mark);
                }
            }
        }
        if (asked.kind.equals("counts")) {
            for (int[] counts : asked.counts) {
                for (int count : counts) {
                    known.add(count);
                }
            }
        }
        return i < known.size() ? known.get(i) : NONE;
    }

    int far(int door, int hand) {
        return isDoor(door) && isHand(hand) ? now.far(door, hand) : NONE;
    }

    int opens(int door, int hand, int slips) {
        int[] read = isDoor(door) && isHand(hand) ? readSlips(hand, slips) : null;
        return read == null ? NONE : truth(now.opens(door, hand, read));
    }

    int knock(int door, int hand, int slips) {
        int[] read = isDoor(door) && isHand(hand) ? readSlips(hand, slips) : null;
        if (read == null) {
            return NONE;
        }
        remember();
        return truth(now.attempt(door, hand, read));
    }

    boolean near(int door, int near) {
        if (!isDoor(door) || near < 0 || near > 99 || now.doors.get(door).near == near) {
            return false;
        }
        remember();
        now.doors.get(door).near = near;
        return true;
    }

    boolean undo() {
        if (undone.isEmpty()) {
            return false;
        }
        now = undone.remove(undone.size() - 1);
        return true;
    }

    int hours(int many) {
        if (many < 1 || many > 1000) {
            return NONE;
        }
        undone.clear();
        for (int i = 0; i < many; i++) {
            now.passHour();
        }
        return now.hour + 24 * now.day;
    }

    private void remember() {
        undone.add(now.copy());
        if (undone.size() > 16) {
            undone.remove(0);
        }
    }

    private boolean isHand(int hand) {
        return hand >= 0 && hand < now.quarter.hands.size();
    }

    private boolean isDoor(int door) {
        return door >= 0 && door < now.doors.size();
    }

    /** Null: no four figures, or one beyond slip. */
    private int[] readSlips(int hand, int slips) {
        if (slips < 0) {
            return null;
        }
        String figures = Integer.toString(slips, 7);
        if (figures.length() > 4) {
            return null;
        }
        figures = "0".repeat(4 - figures.length()) + figures;
        int[] read = new int[4];
        for (int i = 0; i < 4; i++) {
            read[i] = figures.charAt(3 - i) - '0' - 3;
            if (Math.abs(read[i]) > now.quarter.hands.get(hand).slip) {
                return null;
            }
        }
        return read;
    }

    // ---- promises 14 to 28

    int patience(int door, int hand) {
        return isDoor(door) && isHand(hand) ? firstToOpen(now, door, hand, now.doors.get(door).near, 99) : NONE;
    }

    private static int firstToOpen(State from, int door, int hand, int near, int tries) {
        State trial = from.copy();
        trial.doors.get(door).near = near;
        for (int i = 1; i <= tries; i++) {
            if (trial.attempt(door, hand)) {
                return i;
            }
        }
        return NONE;
    }

    int unseen(int door, int hand) {
        if (!isDoor(door) || !isHand(hand)) {
            return NONE;
        }
        State trial = now.copy();
        for (int behind = 0; behind <= 240; behind++) {
            if (!trial.isGuarded() && trial.attempt(door, hand)) {
                return behind;
            }
            trial.passHour();
        }
        return NONE;
    }

    int breaks(int door, int hand, int what) {
        if (!isDoor(door) || !isHand(hand)) {
            return NONE;
        }
        int choices = now.quarter.hands.get(hand).slip > 0 ? 9 : 1;
        for (int many = 1; many <= 4; many++) {
            List<Integer> row = firstBreak(now, door, hand, choices, many - 1);
            if (row != null) {
                return what == NONE ? many : what >= 0 && what < row.size() ? row.get(what) : NONE;
            }
        }
        return NONE;
    }

    /** The first row of just so many that is followed by a try that opens; null if there is none. */
    private static List<Integer> firstBreak(State from, int door, int hand, int choices, int many) {
        if (many == 0) {
            return from.copy().attempt(door, hand) ? new ArrayList<>() : null;
        }
        for (int choice = 0; choice < choices; choice++) {
            int[] slips = new int[4];
            if (choice > 0) {
                slips[(choice - 1) / 2] = choice % 2 == 0 ? 1 : -1;
            }
            State trial = from.copy();
            trial.attempt(door, hand, slips);
            List<Integer> rest = firstBreak(trial, door, hand, choices, many - 1);
            if (rest != null) {
                rest.add(0, choice);
                return rest;
            }
        }
        return null;
    }

    int defence(int door, int hand, int tries) {
        if (!isDoor(door) || !isHand(hand) || tries < 1 || tries > 20) {
            return NONE;
        }
        int weakest = NONE;
        for (int near = 0; near <= 99; near++) {
            boolean keepsOut = firstToOpen(now, door, hand, near, tries) == NONE;
            boolean isFirst = weakest == NONE || !now.doors.get(door).kind.equals("counts");
            if (keepsOut && isFirst) {
                weakest = near;
            }
        }
        return weakest;
    }

    int chance(int door, int hand, int what) {
        if (!isDoor(door) || !isHand(hand) || what < 0 || what > 1) {
            return NONE;
        }
        int[] openings = openings(door, hand);
        return lowest(openings[now.doors.get(door).near], openings[100])[what];
    }

    /** By each near, of how many choices of SLIPS the door opens, and behind these how many choices there are. */
    private int[] openings(int door, int hand) {
        Hand asked = now.quarter.hands.get(hand);
        Door trial = now.doors.get(door).copy();
        int slip = asked.slip;
        int[] answer = new int[101];
        for (int a = -slip; a <= slip; a++) {
            for (int b = -slip; b <= slip; b++) {
                for (int c = -slip; c <= slip; c++) {
                    for (int d = -slip; d <= slip; d++) {
                        int[] felt = now.felt(asked.marks, new int[] {a, b, c, d});
                        for (int near = 0; near <= 99; near++) {
                            trial.near = near;
                            answer[near] += truth(trial.opensTo(asked, felt));
                        }
                        answer[100]++;
                    }
                }
            }
        }
        return answer;
    }

    private static int[] lowest(int above, int below) {
        int by = below;
        while (above % by != 0 || below % by != 0) {
            by--;
        }
        return new int[] {above / by, below / by};
    }

    int best(int door, int owner, int other, int what) {
        if (!isDoor(door) || !isHand(owner) || !isHand(other) || what < 0 || what > 2) {
            return NONE;
        }
        int[] first = openings(door, owner);
        int[] second = openings(door, other);
        int best = NONE;
        int least = 0;
        for (int near = 0; near <= 99; near++) {
            int both = (first[100] - first[near]) * second[100] + second[near] * first[100];
            if (best == NONE || both < least) {
                best = near;
                least = both;
            }
        }
        return what == 0 ? best : lowest(least, first[100] * second[100])[what - 1];
    }

    int street(int hand, int door, int other) {
        if (!isHand(hand) || !isDoor(door) || !isDoor(other) || door == other) {
            return NONE;
        }
        State trial = now.copy();
        trial.attempt(door, hand);
        int midnights = 0;
        while (!trial.opens(other, hand)) {
            trial.passToMidnight();
            trial.attempt(door, hand);
            midnights++;
            if (midnights > 30) {
                return NONE;
            }
        }
        return midnights;
    }

    private State asTold() {
        State state = State.asTold(now.quarter);
        state.history = now.history;
        return state;
    }

    int judged() {
        List<Integer> wrong = asTold().wrongTries(door -> true);
        return wrong.isEmpty() ? NONE : wrong.get(0);
    }

    /** Null: the tries of the door are not as told. Else all as it is behind the HISTORY. */
    private State behindHistory(int door, int kind, int near) {
        State trial = asTold();
        trial.doors.set(door, new Door(DOOR_KINDS.get(kind), near));
        return trial.wrongTries(tried -> tried == door).isEmpty() ? trial : null;
    }

    int fits(int door, int kind, int what) {
        if (!isDoor(door) || kind < 0 || kind > 4 || what < 0 || what > 2) {
            return NONE;
        }
        List<Integer> nears = new ArrayList<>();
        for (int near = 0; near <= 99; near++) {
            if (behindHistory(door, kind, near) != null) {
                nears.add(near);
            }
        }
        if (nears.isEmpty()) {
            return NONE;
        }
        return what == 0 ? nears.size() : what == 1 ? nears.get(0) : nears.get(nears.size() - 1);
    }

    int tells(int door) {
        if (!isDoor(door)) {
            return NONE;
        }
        List<State> fitting = new ArrayList<>();
        for (int kind = 0; kind <= 4; kind++) {
            for (int near = 0; near <= 99; near++) {
                State behind = behindHistory(door, kind, near);
                if (behind != null) {
                    fitting.add(behind);
                }
            }
        }
        int tells = NONE;
        int greatest = 0;
        for (int hand = 0; hand < now.quarter.hands.size(); hand++) {
            int open = 0;
            for (State state : fitting) {
                open += truth(state.opens(door, hand));
            }
            int lesser = Math.min(open, fitting.size() - open);
            if (lesser > greatest) {
                greatest = lesser;
                tells = hand;
            }
        }
        return tells;
    }

    int taken(int one, int other) {
        if (!isHand(one) || !isHand(other) || one == other) {
            return NONE;
        }
        int bits = 0;
        for (int door = now.doors.size() - 1; door >= 0; door--) {
            bits = 2 * bits + truth(now.opens(door, one) && now.opens(door, other));
        }
        return bits;
    }

    int apart(int door, int one, int other) {
        if (!isDoor(door) || !isHand(one) || !isHand(other) || !now.opens(door, one)) {
            return NONE;
        }
        int least = NONE;
        Hand second = now.quarter.hands.get(other);
        int[] asFirst = now.felt(now.quarter.hands.get(one).marks, new int[4]);
        int[] asSecond = now.felt(second.marks, new int[4]);
        for (int set = 0; set < 16; set++) {
            int[] felt = asFirst.clone();
            for (int i = 0; i < 4; i++) {
                felt[i] = (set >> i) % 2 == 1 ? asSecond[i] : felt[i];
            }
            boolean isFewer = least == NONE || Integer.bitCount(set) < Integer.bitCount(least);
            if (isFewer && !now.doors.get(door).opensTo(second, felt)) {
                least = set;
            }
        }
        return least;
    }

    int trained(int door, int one, int other, int what) {
        if (!isDoor(door) || !isHand(one) || !isHand(other) || one == other) {
            return NONE;
        }
        for (int many = 1; many <= 4; many++) {
            List<Integer> row = firstTraining(now, door, one, other, many);
            if (row != null) {
                return what == NONE ? many : what >= 0 && what < many ? row.get(what) : NONE;
            }
        }
        return NONE;
    }

    private static List<Integer> firstTraining(State from, int door, int one, int other, int many) {
        if (many == 0) {
            return from.opens(door, one) && !from.opens(door, other) ? new ArrayList<>() : null;
        }
        for (int hand = 0; hand < from.quarter.hands.size(); hand++) {
            State trial = from.copy();
            trial.attempt(door, hand);
            List<Integer> rest = firstTraining(trial, door, one, other, many - 1);
            if (rest != null) {
                rest.add(0, hand);
                return rest;
            }
        }
        return null;
    }

    int rests(int door, int what) {
        if (!isDoor(door) || now.doors.get(door).kind.equals("bank")) {
            return NONE;
        }
        int hands = now.quarter.hands.size();
        int[][] pays = new int[10][hands];
        int[] shutOut = new int[10];
        for (int ten = 1; ten <= 9; ten++) {
            shutOut[ten] = shutOut(door, 10 * ten);
            for (int hand = 0; hand < hands; hand++) {
                pays[ten][hand] = pays(door, 10 * ten, hand);
            }
        }
        List<Integer> rests = new ArrayList<>();
        for (int ten = 1; ten <= 9; ten++) {
            for (int hand = 0; hand < hands; hand++) {
                if (!now.quarter.hands.get(hand).isChild() && neitherMoves(pays, shutOut, ten, hand)) {
                    rests.add(100 * hand + 10 * ten);
                }
            }
        }
        return what == NONE ? rests.size() : what >= 0 && what < rests.size() ? rests.get(what) : NONE;
    }

    private boolean neitherMoves(int[][] pays, int[] shutOut, int ten, int hand) {
        for (int other = 1; other <= 9; other++) {
            if (pays[other][hand] - shutOut[other] > pays[ten][hand] - shutOut[ten]) {
                return false;
            }
        }
        for (int other = 0; other < now.quarter.hands.size(); other++) {
            if (!now.quarter.hands.get(other).isChild() && pays[ten][other] < pays[ten][hand]) {
                return false;
            }
        }
        return true;
    }

    private int pays(int door, int near, int hand) {
        int patience = firstToOpen(now, door, hand, near, 99);
        return patience == NONE ? 100 : patience;
    }

    private int shutOut(int door, int near) {
        State trial = now.copy();
        trial.doors.get(door).near = near;
        int fine = 0;
        for (int hand = 0; hand < now.quarter.hands.size(); hand++) {
            fine += now.quarter.hands.get(hand).livesHere() && !trial.opens(door, hand) ? 5 : 0;
        }
        return fine;
    }

    int years(int seed, int days, int what) {
        boolean asked = seed >= 0 && seed <= 9999 && days >= 1 && days <= 40 && what >= 0 && what <= 2;
        if (!asked || now.quarter.hands.isEmpty() || now.doors.isEmpty()) {
            throw new NoSuchElementException();
        }
        int[] often = new int[3];
        Draw draw = new Draw(seed);
        State trial = now.copy();
        trial.passToMidnight();
        for (int day = 0; day < days; day++) {
            for (int hour = 0; hour < 24; hour++) {
                if (hour % 6 == 0) {
                    drawTry(trial, draw, often);
                }
                trial.passHour();
            }
        }
        return often[what];
    }

    private static void drawTry(State trial, Draw draw, int[] often) {
        int hand = draw.below(trial.quarter.hands.size());
        int door = draw.below(trial.doors.size());
        Hand drawn = trial.quarter.hands.get(hand);
        int[] slips = new int[4];
        for (int i = 0; i < 4; i++) {
            slips[i] = draw.below(2 * drawn.slip + 1) - drawn.slip;
        }
        boolean opened = trial.attempt(door, hand, slips);
        often[0] += truth(drawn.livesHere() && !opened);
        often[1] += truth(!drawn.livesHere() && opened);
        often[2] += truth(opened);
    }

    /** The DRAWS of the document, which the tests draw their runs by as well. */
    static final class Draw {
        private long g;

        Draw(long seed) {
            g = seed;
        }

        int below(int m) {
            g = (g * 1103515245 + 12345) % 2147483648L;
            return (int) (g / 65536 % m);
        }
    }

    // ---- promises 29 and 30

    boolean mark(int mark, boolean back) {
        if (mark < 0 || mark > 3 || back && laid[mark] == null) {
            return false;
        }
        if (back) {
            now = laid[mark].copy();
            undone.clear();
        } else {
            laid[mark] = now.copy();
        }
        return true;
    }

    int count(int what) {
        int nights = (int) now.history.stream().filter(step -> step.hand == NONE).count();
        int[] counts = {now.quarter.hands.size(), now.doors.size(), now.quarter.streets.size(), now.hour, now.day,
            now.quarter.gossip, now.history.size() - nights, nights, undone.size(), tape.length()};
        return what >= 0 && what < counts.length ? counts[what] : NONE;
    }
}
