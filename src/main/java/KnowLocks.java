import java.util.Arrays;
import java.util.NoSuchElementException;

/** Locks that get to know the hands that try them. */
public final class KnowLocks {
    public static final int NONE = -1;

    private static final int TAPE_LIMIT = 1000;
    private static final int MARKS = 4;
    private static final int UNDO_LIMIT = 16;
    private static final int HOURS_LIMIT = 1000;

    private static final int HANDS = 7;
    private static final int DOORS = 5;
    private static final int STREETS = 10;
    private static final int TRIES = 24;
    private static final int NIGHTS = 12;
    private static final int DAY_HOURS = 24;
    private static final int NEARS = 100;
    private static final int MOST_COUNT = 9999;
    private static final int ROWS = 6;
    private static final int SHUT_LIMIT = 3;

    private static final int OWNER = 0;
    private static final int MAID = 1;
    private static final int CHILD = 2;
    private static final int DOG = 3;
    private static final int TWIN = 4;

    private static final int MEAN = 0;
    private static final int NEAREST = 1;
    private static final int COUNTS = 2;
    private static final int CHEAP = 3;
    private static final int NERVOUS = 4;
    private static final int BANK = 5;

    private static final int NO_SLIPS = 1200;
    private static final int SLIPS = 2401;
    private static final int[] SEVENS = {1, 7, 49, 343};

    // In a formula a sign of 0 or more is a NUMBER, a FACT is -1 less its place, the rest is worked out.
    private static final int HOUR = 0;
    private static final int DAY = 1;
    private static final int OPENED = 2;
    private static final int TRUST = 3;
    private static final int TIMES = 4;
    private static final int FAR = 5;
    private static final int MARK = 6;
    private static final int WHICH = 7;
    private static final int FACTS = 8;
    private static final int NOT = -20;
    private static final int AND = -21;
    private static final int OR = -22;
    private static final int LESS = -23;
    private static final int SAME = -24;
    private static final int PLUS = -25;
    private static final int MINUS = -26;
    private static final int BY = -27;
    private static final int PART_DEPTH = 5;
    private static final int STACK = 32;

    private final StringBuilder tape = new StringBuilder();
    private final World now;
    private final World[] held = new World[MARKS];
    private final boolean[] laid = new boolean[MARKS];
    private final Door[] undoDoors = new Door[UNDO_LIMIT];
    private final int[] undoPlaces = new int[UNDO_LIMIT];
    private int undoFirst;
    private int undoCount;
    private final Burglar burglar;
    private final Smith smith;
    private final Judge judge;

    public KnowLocks() {
        Quarter empty = new Quarter(0);
        History nothing = new History();
        now = new World(empty, nothing);
        World trial = new World(empty, nothing);
        for (int i = 0; i < MARKS; i++) {
            held[i] = new World(empty, nothing);
        }
        for (int i = 0; i < UNDO_LIMIT; i++) {
            undoDoors[i] = new Door();
        }
        burglar = new Burglar(now, trial);
        smith = new Smith(now, trial, burglar);
        judge = new Judge(now, trial);
    }

    public int feed(long a, long b, long c) {
        feedBytes(a);
        feedBytes(b);
        feedBytes(c);
        return tape.length();
    }

    public int quarter() {
        String text = takeTape();
        Quarter told = new Quarter(text.length());
        Reader reader = new Reader(text, told);
        if (!reader.readQuarter()) {
            return reader.fault;
        }
        now.begin(told);
        now.past = new History();
        undoCount = 0;
        return 0;
    }

    public int history() {
        Reader reader = new Reader(takeTape(), now.told);
        History past = new History();
        if (!reader.readHistory(past)) {
            return reader.fault;
        }
        now.past = past;
        return 0;
    }

    public int hand(int hand, int what) {
        if (!isHand(hand)) {
            return NONE;
        }
        Hand asked = now.told.hands[hand];
        if (what >= 0 && what < 4) {
            return asked.marks[what];
        }
        switch (what) {
            case 4: return asked.kind;
            case 5: return asked.slip;
            case 6: return asked.believed();
            default: return NONE;
        }
    }

    public int door(int door, int what) {
        if (!isDoor(door)) {
            return NONE;
        }
        Door asked = now.doors[door];
        switch (what) {
            case 0: return asked.kind;
            case 1: return asked.near;
            case 2: return asked.today;
            case 3: return asked.tries;
            case 4: return asked.opened;
            case 5: return asked.shutRow;
            default: return NONE;
        }
    }

    public int knows(int door, int i) {
        return isDoor(door) ? now.doors[door].known(i) : NONE;
    }

    public int far(int door, int hand) {
        return isPair(door, hand) ? now.distanceTo(door, hand, NO_SLIPS) : NONE;
    }

    public int opens(int door, int hand, int slips) {
        if (!canTry(door, hand, slips)) {
            return NONE;
        }
        return now.wouldOpen(door, hand, slips) ? 1 : 0;
    }

    public int knock(int door, int hand, int slips) {
        if (!canTry(door, hand, slips)) {
            return NONE;
        }
        remember(door);
        return now.attempt(door, hand, slips) ? 1 : 0;
    }

    public boolean near(int door, int near) {
        if (!isDoor(door) || near < 0 || near >= NEARS || now.doors[door].near == near) {
            return false;
        }
        remember(door);
        now.doors[door].near = near;
        return true;
    }

    public boolean undo() {
        if (undoCount <= 0) {
            return false;
        }
        undoCount--;
        int slot = (undoFirst + undoCount) % UNDO_LIMIT;
        now.doors[undoPlaces[slot]].copyFrom(undoDoors[slot]);
        return true;
    }

    public int hours(int many) {
        if (many < 1 || many > HOURS_LIMIT) {
            return NONE;
        }
        for (int i = 0; i < many; i++) {
            now.passHour();
        }
        undoCount = 0;
        return now.hour + DAY_HOURS * now.day;
    }

    public int patience(int door, int hand) {
        return isPair(door, hand) ? burglar.patienceNow(door, hand) : NONE;
    }

    public int unseen(int door, int hand) {
        return isPair(door, hand) ? burglar.hoursUnseen(door, hand) : NONE;
    }

    public int breaks(int door, int hand, int what) {
        if (!isPair(door, hand) || what < NONE) {
            return NONE;
        }
        int many = burglar.fewestBySlips(door, hand);
        if (what == NONE) {
            return many;
        }
        return what < many - 1 ? burglar.rowAt(what) : NONE;
    }

    public int defence(int door, int hand, int tries) {
        if (!isPair(door, hand) || tries < 1 || tries > 20) {
            return NONE;
        }
        return smith.weakestNear(door, hand, tries);
    }

    public int chance(int door, int hand, int what) {
        if (!isPair(door, hand) || what < 0 || what > 1) {
            return NONE;
        }
        smith.weighChance(door, hand);
        return what == 0 ? smith.above : smith.below;
    }

    public int best(int door, int owner, int other, int what) {
        if (!isPair(door, owner) || !isHand(other) || what < 0 || what > 2) {
            return NONE;
        }
        int near = smith.bestNear(door, owner, other);
        switch (what) {
            case 0: return near;
            case 1: return smith.above;
            default: return smith.below;
        }
    }

    public int street(int hand, int door, int other) {
        if (!isPair(door, hand) || !isDoor(other) || door == other) {
            return NONE;
        }
        return burglar.midnightsOfGossip(hand, door, other);
    }

    public int judged() {
        return judge.firstNotAsTold();
    }

    public int fits(int door, int kind, int what) {
        if (!isDoor(door) || kind < 0 || kind >= BANK || what < 0 || what > 2) {
            return NONE;
        }
        judge.weighKind(door, kind);
        if (judge.fitting == 0) {
            return NONE;
        }
        switch (what) {
            case 0: return judge.fitting;
            case 1: return judge.leastNear;
            default: return judge.greatestNear;
        }
    }

    public int tells(int door) {
        return isDoor(door) ? judge.tellingHand(door) : NONE;
    }

    public int taken(int one, int other) {
        if (!isHand(one) || !isHand(other) || one == other) {
            return NONE;
        }
        int set = 0;
        for (int d = 0; d < now.told.doorCount; d++) {
            if (now.wouldOpen(d, one, NO_SLIPS) && now.wouldOpen(d, other, NO_SLIPS)) {
                set |= 1 << d;
            }
        }
        return set;
    }

    public int apart(int door, int one, int other) {
        if (!isPair(door, one) || !isHand(other) || !now.wouldOpen(door, one, NO_SLIPS)) {
            return NONE;
        }
        for (int size = 0; size <= 4; size++) {
            for (int set = 0; set < 16; set++) {
                if (Integer.bitCount(set) == size && !now.wouldOpenMixed(door, one, other, set)) {
                    return set;
                }
            }
        }
        return NONE;
    }

    public int trained(int door, int one, int other, int what) {
        if (!isPair(door, one) || !isHand(other) || one == other || what < NONE) {
            return NONE;
        }
        int many = burglar.shortestTraining(door, one, other);
        if (what == NONE) {
            return many;
        }
        return what < many ? burglar.rowAt(what) : NONE;
    }

    public int rests(int door, int what) {
        if (!isDoor(door) || now.doors[door].kind == BANK || what < NONE) {
            return NONE;
        }
        smith.layGame(door);
        int many = smith.countRests();
        if (what == NONE) {
            return many;
        }
        return what < many ? smith.restAt(what) : NONE;
    }

    public int years(int seed, int days, int what) throws NoSuchElementException {
        boolean asked = seed >= 0 && seed <= 9999 && days >= 1 && days <= 40 && what >= 0 && what <= 2;
        if (!asked || now.told.handCount == 0 || now.told.doorCount == 0) {
            throw new NoSuchElementException();
        }
        burglar.drawYears(seed, days);
        switch (what) {
            case 0: return burglar.ownersShutOut;
            case 1: return burglar.othersLetIn;
            default: return burglar.openings;
        }
    }

    public boolean mark(int mark, boolean back) {
        if (mark < 0 || mark >= MARKS || back && !laid[mark]) {
            return false;
        }
        if (back) {
            now.copyFrom(held[mark]);
            undoCount = 0;
        } else {
            held[mark].copyFrom(now);
            laid[mark] = true;
        }
        return true;
    }

    public int count(int what) {
        switch (what) {
            case 0: return now.told.handCount;
            case 1: return now.told.doorCount;
            case 2: return now.told.streetCount;
            case 3: return now.hour;
            case 4: return now.day;
            case 5: return now.told.gossip;
            case 6: return now.past.tries;
            case 7: return now.past.nights;
            case 8: return undoCount;
            case 9: return tape.length();
            default: return NONE;
        }
    }

    private void feedBytes(long signs) {
        for (int shift = 56; shift >= 0; shift -= 8) {
            int sign = (int) (signs >>> shift) & 255;
            boolean taken = sign == 10 || sign >= 32 && sign <= 126;
            if (taken && tape.length() < TAPE_LIMIT) {
                tape.append((char) sign);
            }
        }
    }

    private String takeTape() {
        String text = tape.toString();
        tape.setLength(0);
        return text;
    }

    private boolean isHand(int hand) {
        return hand >= 0 && hand < now.told.handCount;
    }

    private boolean isDoor(int door) {
        return door >= 0 && door < now.told.doorCount;
    }

    private boolean isPair(int door, int hand) {
        return isDoor(door) && isHand(hand);
    }

    private boolean canTry(int door, int hand, int slips) {
        if (!isPair(door, hand) || slips < 0 || slips >= SLIPS) {
            return false;
        }
        int most = now.told.hands[hand].slip;
        for (int i = 0; i < 4; i++) {
            if (Math.abs(slipOf(slips, i)) > most) {
                return false;
            }
        }
        return true;
    }

    /** A ring, so that the oldest of seventeen goes by itself. */
    private void remember(int door) {
        if (undoCount >= UNDO_LIMIT) {
            undoFirst = (undoFirst + 1) % UNDO_LIMIT;
            undoCount--;
        }
        int slot = (undoFirst + undoCount) % UNDO_LIMIT;
        undoPlaces[slot] = door;
        undoDoors[slot].copyFrom(now.doors[door]);
        undoCount++;
    }

    private static int slipOf(int slips, int which) {
        return slips / SEVENS[which] % 7 - 3;
    }

    private static int digit(int value) {
        return value < 0 ? 0 : value > 9 ? 9 : value;
    }

    private static int handKindOf(String word) {
        if (word.equals("owner")) {
            return OWNER;
        }
        if (word.equals("maid")) {
            return MAID;
        }
        if (word.equals("child")) {
            return CHILD;
        }
        if (word.equals("dog")) {
            return DOG;
        }
        return word.equals("twin") ? TWIN : NONE;
    }

    private static int doorKindOf(String word) {
        if (word.equals("mean")) {
            return MEAN;
        }
        if (word.equals("nearest")) {
            return NEAREST;
        }
        if (word.equals("counts")) {
            return COUNTS;
        }
        if (word.equals("cheap")) {
            return CHEAP;
        }
        if (word.equals("nervous")) {
            return NERVOUS;
        }
        return word.equals("bank") ? BANK : NONE;
    }

    /** The KINDS are no NAMES either, but are asked for apart. */
    private static boolean isReserved(String word) {
        return word.equals("hand") || word.equals("marks") || word.equals("slip") || word.equals("trust")
            || word.equals("door") || word.equals("near") || word.equals("street") || word.equals("gossip")
            || word.equals("guard") || word.equals("to") || word.equals("learn") || word.equals("feel")
            || word.equals("not") || word.equals("and") || word.equals("or");
    }

    private static final class Hand {
        String name = "";
        int kind;
        int slip;
        int trust;
        final int[] marks = new int[4];

        int believed() {
            switch (kind) {
                case MAID: return 2 * trust;
                case CHILD: return 0;
                case DOG: return 0;
                default: return trust;
            }
        }
    }

    /** What a text told; it stays as it was told, so that marks may share it. */
    private static final class Quarter {
        final Hand[] hands = new Hand[HANDS];
        final Door[] doors = new Door[DOORS];
        final int[] streetFirst = new int[STREETS];
        final int[] streetSecond = new int[STREETS];
        int handCount;
        int doorCount;
        int streetCount;
        int gossip;
        int guardFrom = NONE;
        int guardTo = NONE;
        final Formula learn;
        final Formula feel;

        Quarter(int signs) {
            for (int i = 0; i < HANDS; i++) {
                hands[i] = new Hand();
            }
            for (int i = 0; i < DOORS; i++) {
                doors[i] = new Door();
            }
            learn = new Formula(signs + 3);
            learn.put(1);
            learn.put(-1 - OPENED);
            learn.put(PLUS);
            feel = new Formula(signs + 1);
            feel.put(-1 - MARK);
        }

        int handNamed(String name) {
            for (int i = 0; i < handCount; i++) {
                if (hands[i].name.equals(name)) {
                    return i;
                }
            }
            return NONE;
        }

        int doorNamed(String name) {
            for (int i = 0; i < doorCount; i++) {
                if (doors[i].name.equals(name)) {
                    return i;
                }
            }
            return NONE;
        }

        boolean hasStreet(int one, int other) {
            for (int i = 0; i < streetCount; i++) {
                boolean along = streetFirst[i] == one && streetSecond[i] == other;
                boolean back = streetFirst[i] == other && streetSecond[i] == one;
                if (along || back) {
                    return true;
                }
            }
            return false;
        }

        void addStreet(int one, int other) {
            if (streetCount < STREETS) {
                streetFirst[streetCount] = one;
                streetSecond[streetCount] = other;
                streetCount++;
            }
        }

        boolean isGuarded(int hour) {
            return guardFrom != NONE && hour >= guardFrom && hour <= guardTo;
        }
    }

    private static final class History {
        final int[] doors = new int[TRIES + NIGHTS];
        final int[] hands = new int[TRIES + NIGHTS];
        final boolean[] opened = new boolean[TRIES + NIGHTS];
        int steps;
        int tries;
        int nights;

        void addTry(int hand, int door, boolean open) {
            if (tries < TRIES && steps < hands.length) {
                hands[steps] = hand;
                doors[steps] = door;
                opened[steps] = open;
                steps++;
                tries++;
            }
        }

        /** A night has no HAND. */
        void addNight() {
            if (nights < NIGHTS && steps < hands.length) {
                hands[steps] = NONE;
                steps++;
                nights++;
            }
        }
    }

    /** An E with its signs behind what they work on: read from the left with a stack, it needs no recursion. */
    private static final class Formula {
        private final int[] signs;
        private int size;

        Formula(int most) {
            signs = new int[most];
        }

        void clear() {
            size = 0;
        }

        void put(int sign) {
            if (size < signs.length) {
                signs[size] = sign;
                size++;
            }
        }

        int value(int[] facts, int[] stack) {
            int top = 0;
            for (int i = 0; i < size; i++) {
                int sign = signs[i];
                if (sign > NOT) {
                    if (top < stack.length) {
                        stack[top] = sign >= 0 ? sign : facts[-1 - sign];
                        top++;
                    }
                } else if (sign == NOT && top > 0) {
                    stack[top - 1] = stack[top - 1] == 0 ? 1 : 0;
                } else if (top > 1) {
                    top--;
                    stack[top - 1] = joined(sign, stack[top - 1], stack[top]);
                }
            }
            return stack[0];
        }

        private static int joined(int sign, int left, int right) {
            switch (sign) {
                case AND: return left != 0 && right != 0 ? 1 : 0;
                case OR: return left != 0 || right != 0 ? 1 : 0;
                case LESS: return left < right ? 1 : 0;
                case SAME: return left == right ? 1 : 0;
                case PLUS: return left + right;
                case MINUS: return left - right;
                default: return left * right;
            }
        }
    }

    private static final class Lexer {
        static final int END = 0;
        static final int NOTHING = 1;
        static final int WORD = 2;
        static final int NUMBER = 3;
        static final int SIGN = 4;

        final String text;
        private int next;
        int kind;
        int place;
        int number;
        String word = "";
        char sign;

        Lexer(String text) {
            this.text = text;
        }

        void step() {
            int length = text.length();
            while (next < length && (text.charAt(next) == ' ' || text.charAt(next) == '\n')) {
                next++;
            }
            place = next;
            if (next >= length) {
                kind = END;
                return;
            }
            char first = text.charAt(next);
            if (isLetter(first)) {
                stepWord();
            } else if (isFigure(first)) {
                stepNumber();
            } else {
                kind = "()<=+-*;".indexOf(first) >= 0 ? SIGN : NOTHING;
                sign = first;
                next++;
            }
        }

        boolean isWord(String asked) {
            return kind == WORD && word.equals(asked);
        }

        boolean isSign(char asked) {
            return kind == SIGN && sign == asked;
        }

        private void stepWord() {
            while (next < text.length() && isLetter(text.charAt(next))) {
                next++;
            }
            kind = next - place <= 8 ? WORD : NOTHING;
            if (kind == WORD) {
                word = text.substring(place, next);
            }
        }

        private void stepNumber() {
            number = 0;
            while (next < text.length() && isFigure(text.charAt(next))) {
                number = number * 10 + text.charAt(next) - '0';
                next++;
            }
            kind = next - place <= 4 ? NUMBER : NOTHING;
        }

        private static boolean isLetter(char c) {
            return c >= 'a' && c <= 'z';
        }

        private static boolean isFigure(char c) {
            return c >= '0' && c <= '9';
        }
    }

    /** Each take.. reads on behind what it took; false is a FAULT, and nothing is read behind it. */
    private static final class Reader {
        private final Lexer lexer;
        private final Quarter told;
        private Formula formula;
        private boolean inLearn;
        private int value;
        private String name = "";
        private boolean gossipTold;
        private boolean guardTold;
        private boolean learnTold;
        private boolean feelTold;
        int fault;

        Reader(String text, Quarter told) {
            lexer = new Lexer(text);
            this.told = told;
            formula = told.learn;
        }

        boolean readQuarter() {
            lexer.step();
            boolean right = true;
            for (int i = 0; i <= lexer.text.length() && right && lexer.kind != Lexer.END; i++) {
                if (lexer.isWord("hand")) {
                    right = takeHand();
                } else if (lexer.isWord("door")) {
                    right = takeDoor();
                } else if (lexer.isWord("street")) {
                    right = takeStreet();
                } else if (lexer.isWord("gossip")) {
                    right = takeGossip();
                } else if (lexer.isWord("guard")) {
                    right = takeGuard();
                } else if (lexer.isWord("learn")) {
                    right = takeFormula(true);
                } else if (lexer.isWord("feel")) {
                    right = takeFormula(false);
                } else {
                    right = wrong(1);
                }
            }
            return right;
        }

        boolean readHistory(History past) {
            lexer.step();
            for (int i = 0; i <= lexer.text.length() && lexer.kind != Lexer.END; i++) {
                if (!takeStep(past)) {
                    return false;
                }
            }
            return true;
        }

        private boolean takeHand() {
            if (told.handCount >= HANDS) {
                return wrong(5);
            }
            Hand hand = told.hands[told.handCount];
            lexer.step();
            if (!takeNewName()) {
                return false;
            }
            hand.name = name;
            hand.kind = lexer.kind == Lexer.WORD ? handKindOf(lexer.word) : NONE;
            if (hand.kind == NONE) {
                return wrong(1);
            }
            lexer.step();
            if (hand.kind == TWIN && !takeTwin(hand)) {
                return false;
            }
            if (hand.kind != TWIN && !takeWord("marks")) {
                return false;
            }
            for (int i = 0; i < 4 && hand.kind != TWIN; i++) {
                if (!takeNumber(0, 9)) {
                    return false;
                }
                hand.marks[i] = value;
            }
            if (!takeWord("slip") || !takeNumber(0, 3)) {
                return false;
            }
            hand.slip = value;
            if (!takeWord("trust") || !takeNumber(0, 9)) {
                return false;
            }
            hand.trust = value;
            if (!takeSign(';')) {
                return false;
            }
            told.handCount++;
            return true;
        }

        private boolean takeTwin(Hand hand) {
            if (!isName()) {
                return wrong(1);
            }
            int twin = told.handNamed(lexer.word);
            if (twin == NONE) {
                return wrong(2);
            }
            System.arraycopy(told.hands[twin].marks, 0, hand.marks, 0, 4);
            lexer.step();
            return true;
        }

        private boolean takeDoor() {
            if (told.doorCount >= DOORS) {
                return wrong(5);
            }
            Door door = told.doors[told.doorCount];
            lexer.step();
            if (!takeNewName()) {
                return false;
            }
            door.name = name;
            door.kind = lexer.kind == Lexer.WORD ? doorKindOf(lexer.word) : NONE;
            if (door.kind == NONE) {
                return wrong(1);
            }
            lexer.step();
            if (!takeWord("near") || !takeNumber(0, NEARS - 1)) {
                return false;
            }
            door.near = value;
            if (!takeSign(';')) {
                return false;
            }
            told.doorCount++;
            return true;
        }

        private boolean takeStreet() {
            lexer.step();
            if (!takeDoorName()) {
                return false;
            }
            int first = value;
            if (isName()) {
                int second = told.doorNamed(lexer.word);
                if (second != NONE && (second == first || told.hasStreet(first, second))) {
                    return wrong(3);
                }
            }
            if (!takeDoorName()) {
                return false;
            }
            int second = value;
            if (!takeSign(';')) {
                return false;
            }
            told.addStreet(first, second);
            return true;
        }

        private boolean takeGossip() {
            if (gossipTold) {
                return wrong(3);
            }
            gossipTold = true;
            lexer.step();
            if (!takeNumber(0, 9)) {
                return false;
            }
            told.gossip = value;
            return takeSign(';');
        }

        private boolean takeGuard() {
            if (guardTold) {
                return wrong(3);
            }
            guardTold = true;
            lexer.step();
            if (!takeNumber(0, DAY_HOURS - 1)) {
                return false;
            }
            told.guardFrom = value;
            if (!takeWord("to") || !takeNumber(told.guardFrom, DAY_HOURS - 1)) {
                return false;
            }
            told.guardTo = value;
            return takeSign(';');
        }

        private boolean takeStep(History past) {
            if (lexer.isWord("try")) {
                return takeTry(past);
            }
            if (!lexer.isWord("night")) {
                return wrong(1);
            }
            if (past.nights >= NIGHTS) {
                return wrong(5);
            }
            lexer.step();
            past.addNight();
            return takeSign(';');
        }

        private boolean takeTry(History past) {
            if (past.tries >= TRIES) {
                return wrong(5);
            }
            lexer.step();
            if (!isName()) {
                return wrong(1);
            }
            int hand = told.handNamed(lexer.word);
            if (hand == NONE) {
                return wrong(2);
            }
            lexer.step();
            if (!takeDoorName()) {
                return false;
            }
            boolean open = lexer.isWord("opened");
            if (!open && !lexer.isWord("shut")) {
                return wrong(1);
            }
            lexer.step();
            past.addTry(hand, value, open);
            return takeSign(';');
        }

        private boolean takeFormula(boolean ofLearn) {
            if (ofLearn ? learnTold : feelTold) {
                return wrong(3);
            }
            learnTold = learnTold || ofLearn;
            feelTold = feelTold || !ofLearn;
            inLearn = ofLearn;
            formula = ofLearn ? told.learn : told.feel;
            formula.clear();
            lexer.step();
            return takeTests(0) && takeSign(';');
        }

        private boolean takeTests(int depth) {
            if (!takeTest(depth)) {
                return false;
            }
            for (int i = 0; i <= lexer.text.length() && (lexer.isWord("and") || lexer.isWord("or")); i++) {
                int sign = lexer.isWord("and") ? AND : OR;
                lexer.step();
                if (!takeTest(depth)) {
                    return false;
                }
                formula.put(sign);
            }
            return true;
        }

        private boolean takeTest(int depth) {
            if (!takeSum(depth)) {
                return false;
            }
            if (!lexer.isSign('<') && !lexer.isSign('=')) {
                return true;
            }
            int sign = lexer.isSign('<') ? LESS : SAME;
            lexer.step();
            if (!takeSum(depth)) {
                return false;
            }
            formula.put(sign);
            return true;
        }

        private boolean takeSum(int depth) {
            if (!takeProduct(depth)) {
                return false;
            }
            for (int i = 0; i <= lexer.text.length() && (lexer.isSign('+') || lexer.isSign('-')); i++) {
                int sign = lexer.isSign('+') ? PLUS : MINUS;
                lexer.step();
                if (!takeProduct(depth)) {
                    return false;
                }
                formula.put(sign);
            }
            return true;
        }

        private boolean takeProduct(int depth) {
            if (!takePart(depth)) {
                return false;
            }
            for (int i = 0; i <= lexer.text.length() && lexer.isSign('*'); i++) {
                lexer.step();
                if (!takePart(depth)) {
                    return false;
                }
                formula.put(BY);
            }
            return true;
        }

        /** The depth is how many of not and ( ) are open round the PART. */
        private boolean takePart(int depth) {
            boolean number = lexer.kind == Lexer.NUMBER;
            boolean not = lexer.isWord("not");
            boolean round = lexer.isSign('(');
            int fact = factTold();
            if (!number && !not && !round && fact == NONE) {
                return wrong(1);
            }
            if (depth >= PART_DEPTH) {
                return wrong(5);
            }
            int sign = number ? lexer.number : -1 - fact;
            lexer.step();
            if (round) {
                return takeTests(depth + 1) && takeSign(')');
            }
            if (not && !takePart(depth + 1)) {
                return false;
            }
            formula.put(not ? NOT : sign);
            return true;
        }

        private int factTold() {
            if (lexer.isWord("hour")) {
                return HOUR;
            }
            if (lexer.isWord("day")) {
                return DAY;
            }
            if (inLearn && lexer.isWord("opened")) {
                return OPENED;
            }
            if (inLearn && lexer.isWord("trust")) {
                return TRUST;
            }
            if (inLearn && lexer.isWord("times")) {
                return TIMES;
            }
            if (inLearn && lexer.isWord("far")) {
                return FAR;
            }
            if (!inLearn && lexer.isWord("mark")) {
                return MARK;
            }
            return !inLearn && lexer.isWord("which") ? WHICH : NONE;
        }

        private boolean isName() {
            return lexer.kind == Lexer.WORD && !isReserved(lexer.word)
                && handKindOf(lexer.word) == NONE && doorKindOf(lexer.word) == NONE;
        }

        private boolean takeNewName() {
            if (!isName()) {
                return wrong(1);
            }
            name = lexer.word;
            if (told.handNamed(name) != NONE || told.doorNamed(name) != NONE) {
                return wrong(3);
            }
            lexer.step();
            return true;
        }

        private boolean takeDoorName() {
            if (!isName()) {
                return wrong(1);
            }
            value = told.doorNamed(lexer.word);
            if (value == NONE) {
                return wrong(2);
            }
            lexer.step();
            return true;
        }

        private boolean takeWord(String due) {
            if (!lexer.isWord(due)) {
                return wrong(1);
            }
            lexer.step();
            return true;
        }

        private boolean takeSign(char due) {
            if (!lexer.isSign(due)) {
                return wrong(1);
            }
            lexer.step();
            return true;
        }

        private boolean takeNumber(int least, int most) {
            if (lexer.kind != Lexer.NUMBER) {
                return wrong(1);
            }
            value = lexer.number;
            if (value < least || value > most) {
                return wrong(4);
            }
            lexer.step();
            return true;
        }

        private boolean wrong(int kind) {
            fault = kind + 16 * lexer.place;
            return false;
        }
    }

    /** A door keeps room for what each KIND knows, since FITS asks of it as if it were of another KIND. */
    private static final class Door {
        String name = "";
        int kind;
        int near;
        int today;
        int tries;
        int opened;
        int shutRow;
        private boolean startled;
        private int weight;
        private int rowCount;
        private final int[] sums = new int[4];
        private final int[] rows = new int[4 * ROWS];
        private final int[] counts = new int[40];

        void copyFrom(Door from) {
            name = from.name;
            kind = from.kind;
            near = from.near;
            today = from.today;
            tries = from.tries;
            opened = from.opened;
            shutRow = from.shutRow;
            startled = from.startled;
            weight = from.weight;
            rowCount = from.rowCount;
            System.arraycopy(from.sums, 0, sums, 0, 4);
            System.arraycopy(from.rows, 0, rows, 0, 4 * ROWS);
            System.arraycopy(from.counts, 0, counts, 0, 40);
        }

        int known(int i) {
            switch (kind) {
                case BANK: return NONE;
                case NEAREST: return i >= 0 && i < 4 * rowCount ? rows[i] : NONE;
                case COUNTS: return i >= 0 && i < 40 ? counts[i] : NONE;
                default: return i >= 0 && i < 4 ? sums[i] : i == 4 ? weight : NONE;
            }
        }

        int distance(int[] felt) {
            switch (kind) {
                case BANK: return NONE;
                case NEAREST: return rowDistance(felt);
                case COUNTS: return countOf(felt);
                default: return sumDistance(felt);
            }
        }

        private int sumDistance(int[] felt) {
            if (weight == 0) {
                return NONE;
            }
            int all = 0;
            for (int i = 0; i < 4; i++) {
                all += Math.abs(sums[i] - weight * felt[i]);
            }
            return 10 * all / weight;
        }

        private int rowDistance(int[] felt) {
            int least = NONE;
            for (int row = 0; row < rowCount; row++) {
                int all = 0;
                for (int i = 0; i < 4; i++) {
                    all += Math.abs(rows[4 * row + i] - felt[i]);
                }
                if (least == NONE || all < least) {
                    least = all;
                }
            }
            return least == NONE ? NONE : 10 * least;
        }

        private int countOf(int[] felt) {
            int all = 0;
            for (int i = 0; i < 4; i++) {
                all += counts[10 * i + felt[i]];
            }
            return all;
        }

        boolean alwaysLets(int handKind) {
            return handKind == CHILD && kind != BANK;
        }

        boolean neverLets(int handKind) {
            return kind == BANK || startled && handKind != CHILD;
        }

        boolean lets(int handKind, int distance) {
            if (alwaysLets(handKind)) {
                return true;
            }
            if (neverLets(handKind)) {
                return false;
            }
            if (kind == COUNTS) {
                return distance >= near;
            }
            return distance != NONE && distance <= near;
        }

        void note(boolean open) {
            today++;
            tries++;
            if (open) {
                opened++;
                shutRow = 0;
                return;
            }
            shutRow++;
            if (kind == NERVOUS && shutRow >= SHUT_LIMIT) {
                startled = true;
            }
        }

        /** The four marks stand from a place on, so that gossip can be learnt as well as what is felt. */
        void learn(int[] marks, int from, int amount) {
            switch (kind) {
                case BANK:
                    break;
                case NEAREST:
                    learnRow(marks, from, amount);
                    break;
                case COUNTS:
                    learnCounts(marks, from, amount);
                    break;
                default:
                    learnSums(marks, from, amount);
                    break;
            }
        }

        private void learnSums(int[] marks, int from, int amount) {
            for (int i = 0; i < 4; i++) {
                sums[i] += amount * marks[from + i];
            }
            weight += amount;
        }

        private void learnRow(int[] marks, int from, int amount) {
            if (amount <= 0) {
                return;
            }
            System.arraycopy(rows, 0, rows, 4, 4 * (ROWS - 1));
            System.arraycopy(marks, from, rows, 0, 4);
            rowCount = Math.min(ROWS, rowCount + 1);
        }

        private void learnCounts(int[] marks, int from, int amount) {
            for (int i = 0; i < 4; i++) {
                int place = 10 * i + marks[from + i];
                counts[place] = Math.min(MOST_COUNT, counts[place] + amount);
            }
        }

        void beginDay() {
            if (kind == CHEAP) {
                for (int i = 0; i < 4; i++) {
                    sums[i] /= 2;
                }
                weight /= 2;
            }
            startled = false;
            today = 0;
            shutRow = 0;
        }

        /** False if it has nothing to tell. */
        boolean tellInto(int[] into, int at) {
            switch (kind) {
                case BANK: return false;
                case NEAREST: return tellRow(into, at);
                case COUNTS: return tellCounts(into, at);
                default: return tellSums(into, at);
            }
        }

        private boolean tellSums(int[] into, int at) {
            if (weight == 0) {
                return false;
            }
            for (int i = 0; i < 4; i++) {
                into[at + i] = digit(sums[i] / weight);
            }
            return true;
        }

        private boolean tellRow(int[] into, int at) {
            if (rowCount == 0) {
                return false;
            }
            System.arraycopy(rows, 0, into, at, 4);
            return true;
        }

        private boolean tellCounts(int[] into, int at) {
            boolean some = false;
            for (int i = 0; i < 4; i++) {
                int most = 0;
                for (int mark = 0; mark < 10; mark++) {
                    if (counts[10 * i + mark] > counts[10 * i + most]) {
                        most = mark;
                    }
                }
                into[at + i] = most;
                some = some || counts[10 * i + most] > 0;
            }
            return some;
        }
    }

    /** A quarter at an HOUR, with what its doors have learnt till then. */
    private static final class World {
        Quarter told;
        History past;
        int hour;
        int day;
        final Door[] doors = new Door[DOORS];
        private final int[] felt = new int[4];
        private final int[] facts = new int[FACTS];
        private final int[] stack = new int[STACK];
        private final int[] rumours = new int[4 * DOORS];
        private final boolean[] tells = new boolean[DOORS];
        // What each mark feels like in this HOUR: a question may ask it thousands of times.
        private final int[] feltMarks = new int[40];

        World(Quarter told, History past) {
            this.told = told;
            this.past = past;
            for (int i = 0; i < DOORS; i++) {
                doors[i] = new Door();
            }
            Arrays.fill(feltMarks, NONE);
        }

        void copyFrom(World from) {
            told = from.told;
            past = from.past;
            for (int i = 0; i < DOORS; i++) {
                doors[i].copyFrom(from.doors[i]);
            }
            turnTo(from.day, from.hour);
        }

        void begin(Quarter quarter) {
            told = quarter;
            for (int i = 0; i < DOORS; i++) {
                doors[i].copyFrom(quarter.doors[i]);
            }
            turnTo(0, 0);
        }

        void turnTo(int dayThen, int hourThen) {
            day = dayThen;
            hour = hourThen;
            facts[DAY] = day;
            facts[HOUR] = hour;
            Arrays.fill(feltMarks, NONE);
        }

        void passHour() {
            if (hour == DAY_HOURS - 1) {
                passToMidnight();
            } else {
                turnTo(day, hour + 1);
            }
        }

        void passToMidnight() {
            turnTo(day + 1, 0);
            for (int d = 0; d < told.doorCount; d++) {
                doors[d].beginDay();
            }
            gossip();
        }

        private void gossip() {
            for (int d = 0; d < told.doorCount; d++) {
                tells[d] = doors[d].tellInto(rumours, 4 * d);
            }
            for (int i = 0; i < told.streetCount; i++) {
                int first = told.streetFirst[i];
                int second = told.streetSecond[i];
                if (tells[first]) {
                    doors[second].learn(rumours, 4 * first, told.gossip);
                }
                if (tells[second]) {
                    doors[first].learn(rumours, 4 * second, told.gossip);
                }
            }
        }

        int distanceTo(int d, int h, int slips) {
            for (int i = 0; i < 4; i++) {
                felt[i] = feltMark(i, digit(told.hands[h].marks[i] + slipOf(slips, i)));
            }
            return doors[d].distance(felt);
        }

        boolean wouldOpen(int d, int h, int slips) {
            return doors[d].lets(told.hands[h].kind, distanceTo(d, h, slips));
        }

        /** The marks in the set are felt as of the other HAND, the rest as of the one. */
        boolean wouldOpenMixed(int d, int one, int other, int set) {
            for (int i = 0; i < 4; i++) {
                int from = (set >> i & 1) == 1 ? other : one;
                felt[i] = feltMark(i, told.hands[from].marks[i]);
            }
            return doors[d].lets(told.hands[other].kind, doors[d].distance(felt));
        }

        boolean attempt(int d, int h, int slips) {
            Hand hand = told.hands[h];
            Door door = doors[d];
            int distance = distanceTo(d, h, slips);
            boolean open = door.lets(hand.kind, distance);
            if (hand.kind != CHILD && door.kind != BANK) {
                facts[OPENED] = open ? 1 : 0;
                facts[TRUST] = hand.believed();
                facts[TIMES] = door.today;
                facts[FAR] = distance;
                door.learn(felt, 0, digit(told.learn.value(facts, stack)));
            }
            door.note(open);
            return open;
        }

        private int feltMark(int which, int mark) {
            int place = 10 * which + mark;
            if (feltMarks[place] == NONE) {
                facts[MARK] = mark;
                facts[WHICH] = which;
                feltMarks[place] = digit(told.feel.value(facts, stack));
            }
            return feltMarks[place];
        }
    }

    /** Whoever tries doors in a world of trial, while the real one stays as it is. */
    private static final class Burglar {
        static final int PATIENCE_LIMIT = 99;
        private static final int UNSEEN_LIMIT = 240;
        private static final int MIDNIGHTS_LIMIT = 30;
        private static final int ROW_LIMIT = 4;
        private static final int SLIP_CHOICES = 9;

        private final World now;
        private final World trial;
        private final int[] row = new int[ROW_LIMIT];
        private long drawn;
        int ownersShutOut;
        int othersLetIn;
        int openings;

        Burglar(World now, World trial) {
            this.now = now;
            this.trial = trial;
        }

        int rowAt(int i) {
            return i >= 0 && i < ROW_LIMIT ? row[i] : NONE;
        }

        int patienceNow(int d, int h) {
            trial.copyFrom(now);
            return opensWithin(d, h, now.doors[d].near, PATIENCE_LIMIT);
        }

        /** The trial must stand at the real HOUR; only this door is laid anew. */
        int opensWithin(int d, int h, int near, int tries) {
            trial.doors[d].copyFrom(now.doors[d]);
            trial.doors[d].near = near;
            for (int i = 1; i <= tries; i++) {
                if (trial.attempt(d, h, NO_SLIPS)) {
                    return i;
                }
            }
            return NONE;
        }

        int hoursUnseen(int d, int h) {
            trial.copyFrom(now);
            for (int i = 0; i <= UNSEEN_LIMIT; i++) {
                if (!trial.told.isGuarded(trial.hour) && trial.attempt(d, h, NO_SLIPS)) {
                    return i;
                }
                trial.passHour();
            }
            return NONE;
        }

        int midnightsOfGossip(int h, int d, int other) {
            trial.copyFrom(now);
            for (int i = 0; i <= MIDNIGHTS_LIMIT; i++) {
                trial.attempt(d, h, NO_SLIPS);
                if (trial.wouldOpen(other, h, NO_SLIPS)) {
                    return i;
                }
                trial.passToMidnight();
            }
            return NONE;
        }

        int fewestBySlips(int d, int h) {
            trial.copyFrom(now);
            int choices = now.told.hands[h].slip >= 1 ? SLIP_CHOICES : 1;
            int rows = 1;
            for (int many = 1; many <= ROW_LIMIT; many++) {
                for (int i = 0; i < rows; i++) {
                    layRow(i, many - 1, choices);
                    if (breaksByRow(d, h, many)) {
                        return many;
                    }
                }
                rows *= choices;
            }
            return NONE;
        }

        private boolean breaksByRow(int d, int h, int many) {
            trial.doors[d].copyFrom(now.doors[d]);
            for (int i = 0; i < many - 1; i++) {
                trial.attempt(d, h, chosenSlips(row[i]));
            }
            return trial.wouldOpen(d, h, NO_SLIPS);
        }

        private static int chosenSlips(int choice) {
            if (choice <= 0 || choice >= SLIP_CHOICES) {
                return NO_SLIPS;
            }
            int by = choice % 2 == 1 ? -1 : 1;
            return NO_SLIPS + by * SEVENS[(choice - 1) / 2];
        }

        int shortestTraining(int d, int one, int other) {
            trial.copyFrom(now);
            int rows = 1;
            for (int many = 1; many <= ROW_LIMIT; many++) {
                rows *= now.told.handCount;
                for (int i = 0; i < rows; i++) {
                    layRow(i, many, now.told.handCount);
                    if (trainsByRow(d, one, other, many)) {
                        return many;
                    }
                }
            }
            return NONE;
        }

        private boolean trainsByRow(int d, int one, int other, int many) {
            trial.doors[d].copyFrom(now.doors[d]);
            for (int i = 0; i < many; i++) {
                trial.attempt(d, row[i], NO_SLIPS);
            }
            return trial.wouldOpen(d, one, NO_SLIPS) && !trial.wouldOpen(d, other, NO_SLIPS);
        }

        /** The first of the row is the highest figure, so that rows come in their order. */
        private void layRow(int number, int many, int base) {
            int rest = number;
            for (int i = many - 1; i >= 0; i--) {
                row[i] = base > 0 ? rest % base : 0;
                rest = base > 0 ? rest / base : 0;
            }
        }

        void drawYears(int seed, int days) {
            trial.copyFrom(now);
            drawn = seed;
            ownersShutOut = 0;
            othersLetIn = 0;
            openings = 0;
            trial.passToMidnight();
            for (int day = 0; day < days; day++) {
                for (int i = 0; i < 4; i++) {
                    trial.turnTo(trial.day, 6 * i);
                    drawTry();
                }
                trial.passToMidnight();
            }
        }

        private void drawTry() {
            int h = drawBelow(trial.told.handCount);
            int d = drawBelow(trial.told.doorCount);
            Hand hand = trial.told.hands[h];
            int slips = 0;
            for (int i = 0; i < 4; i++) {
                int slip = drawBelow(2 * hand.slip + 1) - hand.slip;
                slips += (slip + 3) * SEVENS[i];
            }
            boolean open = trial.attempt(d, h, slips);
            boolean owned = hand.kind == OWNER || hand.kind == MAID;
            if (open) {
                openings++;
            }
            if (open && !owned) {
                othersLetIn++;
            }
            if (!open && owned) {
                ownersShutOut++;
            }
        }

        private int drawBelow(int most) {
            drawn = (drawn * 1103515245L + 12345L) % 2147483648L;
            return most > 0 ? (int) (drawn / 65536L % most) : 0;
        }
    }

    /** Whoever chooses the nears of doors. */
    private static final class Smith {
        private static final int GAME_NEARS = 9;
        private static final int NO_PATIENCE = 100;

        private final World now;
        private final World trial;
        private final Burglar burglar;
        private final int[] distances = new int[NEARS + 1];
        private final int[] ownerOpens = new int[NEARS];
        private final int[] otherOpens = new int[NEARS];
        private final int[] paid = new int[GAME_NEARS * HANDS];
        private final int[] losses = new int[GAME_NEARS];
        private final int[] restings = new int[GAME_NEARS * HANDS];
        int above;
        int below;

        Smith(World now, World trial, Burglar burglar) {
            this.now = now;
            this.trial = trial;
            this.burglar = burglar;
        }

        int weakestNear(int d, int h, int tries) {
            trial.copyFrom(now);
            boolean upwards = now.doors[d].kind == COUNTS;
            for (int i = 0; i < NEARS; i++) {
                int near = upwards ? i : NEARS - 1 - i;
                if (burglar.opensWithin(d, h, near, tries) == NONE) {
                    return near;
                }
            }
            return NONE;
        }

        void weighChance(int d, int h) {
            int near = now.doors[d].near;
            int all = countOpenings(d, h, ownerOpens);
            lower(near >= 0 && near < NEARS ? ownerOpens[near] : 0, all);
        }

        int bestNear(int d, int owner, int other) {
            int ownerAll = countOpenings(d, owner, ownerOpens);
            int otherAll = countOpenings(d, other, otherOpens);
            int best = 0;
            int least = 0;
            for (int near = 0; near < NEARS; near++) {
                int errors = (ownerAll - ownerOpens[near]) * otherAll + otherOpens[near] * ownerAll;
                if (near == 0 || errors < least) {
                    best = near;
                    least = errors;
                }
            }
            lower(least, ownerAll * otherAll);
            return best;
        }

        /** By each near, of how many choices of SLIPS the door opens; answers how many choices there are. */
        private int countOpenings(int d, int h, int[] openings) {
            Hand hand = now.told.hands[h];
            Door door = now.doors[d];
            int side = 2 * hand.slip + 1;
            int all = side * side * side * side;
            if (door.alwaysLets(hand.kind) || door.neverLets(hand.kind)) {
                Arrays.fill(openings, door.alwaysLets(hand.kind) ? all : 0);
                return all;
            }
            countDistances(d, h, side, all);
            int sum = 0;
            if (door.kind == COUNTS) {
                sum = distances[NEARS];
                for (int near = NEARS - 1; near >= 0; near--) {
                    sum += distances[near];
                    openings[near] = sum;
                }
            } else {
                for (int near = 0; near < NEARS; near++) {
                    sum += distances[near];
                    openings[near] = sum;
                }
            }
            return all;
        }

        private void countDistances(int d, int h, int side, int all) {
            Arrays.fill(distances, 0);
            for (int i = 0; i < all; i++) {
                int distance = now.distanceTo(d, h, slipsOf(i, side));
                if (distance != NONE) {
                    distances[Math.min(distance, NEARS)]++;
                }
            }
        }

        private static int slipsOf(int choice, int side) {
            int rest = choice;
            int slips = 0;
            for (int i = 0; i < 4 && side > 0; i++) {
                slips += (rest % side - side / 2 + 3) * SEVENS[i];
                rest /= side;
            }
            return slips;
        }

        private void lower(int upper, int lower) {
            int one = upper;
            int other = lower;
            for (int i = 0; i < 64 && other != 0; i++) {
                int rest = one % other;
                one = other;
                other = rest;
            }
            above = one > 0 ? upper / one : upper;
            below = one > 0 ? lower / one : lower;
        }

        int restAt(int i) {
            return i >= 0 && i < restings.length ? restings[i] : NONE;
        }

        /** Of the game that was laid. */
        int countRests() {
            int many = 0;
            for (int n = 0; n < GAME_NEARS; n++) {
                for (int h = 0; h < now.told.handCount; h++) {
                    if (plays(h) && burglarStays(n, h) && makerStays(n, h)) {
                        restings[many] = 100 * h + 10 * (n + 1);
                        many++;
                    }
                }
            }
            return many;
        }

        private boolean plays(int h) {
            return now.told.hands[h].kind != CHILD;
        }

        void layGame(int d) {
            trial.copyFrom(now);
            for (int n = 0; n < GAME_NEARS; n++) {
                int near = 10 * (n + 1);
                losses[n] = 5 * countShutOut(d, near);
                for (int h = 0; h < now.told.handCount; h++) {
                    int patience = burglar.opensWithin(d, h, near, Burglar.PATIENCE_LIMIT);
                    paid[n * HANDS + h] = patience == NONE ? NO_PATIENCE : patience;
                }
            }
        }

        private int countShutOut(int d, int near) {
            trial.doors[d].copyFrom(now.doors[d]);
            trial.doors[d].near = near;
            int many = 0;
            for (int h = 0; h < now.told.handCount; h++) {
                int kind = now.told.hands[h].kind;
                if ((kind == OWNER || kind == MAID) && !trial.wouldOpen(d, h, NO_SLIPS)) {
                    many++;
                }
            }
            return many;
        }

        private boolean burglarStays(int n, int h) {
            for (int i = 0; i < now.told.handCount; i++) {
                if (plays(i) && paid[n * HANDS + i] < paid[n * HANDS + h]) {
                    return false;
                }
            }
            return true;
        }

        private boolean makerStays(int n, int h) {
            int has = paid[n * HANDS + h] - losses[n];
            for (int i = 0; i < GAME_NEARS; i++) {
                if (paid[i * HANDS + h] - losses[i] > has) {
                    return false;
                }
            }
            return true;
        }
    }

    /** Whoever goes through the HISTORY from a QUARTER as told. */
    private static final class Judge {
        private final World now;
        private final World trial;
        private final int[] opens = new int[HANDS];
        int fitting;
        int leastNear;
        int greatestNear;

        Judge(World now, World trial) {
            this.now = now;
            this.trial = trial;
        }

        int firstNotAsTold() {
            trial.begin(now.told);
            return firstWrong(NONE);
        }

        void weighKind(int d, int kind) {
            fitting = 0;
            for (int near = 0; near < NEARS; near++) {
                layTrial(d, kind, near);
                if (firstWrong(d) != NONE) {
                    continue;
                }
                if (fitting == 0) {
                    leastNear = near;
                }
                greatestNear = near;
                fitting++;
            }
        }

        int tellingHand(int d) {
            Arrays.fill(opens, 0);
            int all = 0;
            for (int kind = 0; kind < BANK; kind++) {
                for (int near = 0; near < NEARS; near++) {
                    layTrial(d, kind, near);
                    if (firstWrong(d) == NONE) {
                        all++;
                        countOpening(d);
                    }
                }
            }
            int telling = NONE;
            int most = 0;
            for (int h = 0; h < now.told.handCount; h++) {
                int lesser = Math.min(opens[h], all - opens[h]);
                if (lesser > most) {
                    most = lesser;
                    telling = h;
                }
            }
            return telling;
        }

        private void countOpening(int d) {
            for (int h = 0; h < now.told.handCount; h++) {
                if (trial.wouldOpen(d, h, NO_SLIPS)) {
                    opens[h]++;
                }
            }
        }

        private void layTrial(int d, int kind, int near) {
            trial.begin(now.told);
            trial.doors[d].kind = kind;
            trial.doors[d].near = near;
        }

        /** The first try of this door, or of any one, that is not as told. */
        private int firstWrong(int onlyDoor) {
            History past = now.past;
            int tries = 0;
            for (int i = 0; i < past.steps; i++) {
                if (past.hands[i] == NONE) {
                    trial.passToMidnight();
                    continue;
                }
                boolean asked = onlyDoor == NONE || onlyDoor == past.doors[i];
                boolean open = trial.attempt(past.doors[i], past.hands[i], NO_SLIPS);
                if (asked && open != past.opened[i]) {
                    return tries;
                }
                tries++;
            }
            return NONE;
        }
    }
}
