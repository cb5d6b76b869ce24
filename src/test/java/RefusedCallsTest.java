import java.util.NoSuchElementException;

/**
 * Each refused call of each promise, with what it answers, and that all stays as it is then:
 * without hands or doors, with one of both alone, and in the midst of a day.
 */
public final class RefusedCallsTest {
    private static final int NO_SLIPS = 1200;
    private static final int NEW = 0;
    private static final int HANDS = 1;
    private static final int DOORS = 2;
    private static final int ALL = 3;
    private static final int[] MANY_HANDS = {0, 2, 0, 3};
    private static final int[] MANY_DOORS = {0, 0, 3, 4};
    private static final int LEAST = Integer.MIN_VALUE;
    private static final int MOST = Integer.MAX_VALUE;

    public static void main(String[] args) {
        Due due = new Due();
        for (int stage = NEW; stage <= ALL; stage++) {
            String ahead = state(made(due, stage));
            KnowLocks x = made(due, stage);
            refusedByHands(due, x, MANY_HANDS[stage], MANY_DOORS[stage]);
            same(due, "hands refused, " + stage, ahead, x);
            x = made(due, stage);
            refusedByDoors(due, x, MANY_HANDS[stage], MANY_DOORS[stage]);
            same(due, "doors refused, " + stage, ahead, x);
            x = made(due, stage);
            refusedByOthers(due, x);
            same(due, "others refused, " + stage, ahead, x);
        }
        String ahead = state(made(due, ALL));
        KnowLocks x = made(due, ALL);
        refusedOfAll(due, x);
        same(due, "what is beyond", ahead, x);
        x = made(due, ALL);
        asked(x);
        same(due, "asking", ahead, x);
        faults(due);
        due.end();
    }

    private static KnowLocks made(Due due, int stage) {
        KnowLocks x = new KnowLocks();
        if (stage == HANDS) {
            due.quarter(x, "hand a owner marks 1 2 3 4 slip 0 trust 1;hand b child marks 1 1 1 1 slip 3 trust 2;gossip 3;");
            due.history(x, "night;");
            x.hours(30);
        } else if (stage == DOORS) {
            due.quarter(x, "door m mean near 0;door n nearest near 9;door o counts near 3;street m o;");
            x.hours(31);
            x.near(0, 99);
        } else if (stage == ALL) {
            due.quarter(x, "hand a owner marks 5 5 5 5 slip 1 trust 1;hand b dog marks 5 5 5 8 slip 2 trust 1;hand c child marks 0 0 0 0 slip 0 trust 0;"
                + "door m mean near 3;door n nearest near 4;door o counts near 5;door k bank near 6;street m n;street n o;gossip 2;guard 3 to 4;learn 1+opened;");
            due.history(x, "try a m shut;night;try b n opened;");
            x.knock(0, 1, NO_SLIPS);
            x.hours(27);
            x.mark(1, false);
            for (int d = 0; d < 4; d++) {
                x.knock(d, 0, NO_SLIPS + 1);
                x.near(d, 20 + d);
            }
        }
        Due.feed(x, "goss");
        return x;
    }

    private static void same(Due due, String what, String ahead, KnowLocks x) {
        String behind = state(x);
        due.is(what + ": all stays, " + ahead + " and " + behind, ahead.equals(behind), true);
    }

    /** All that can be seen: of what is, what can be undone, what is on the marks, what is on the tape. */
    private static String state(KnowLocks x) {
        StringBuilder all = new StringBuilder();
        for (int what = 0; what < 10; what++) {
            put(all, x.count(what));
        }
        for (int h = 0; h < x.count(0); h++) {
            for (int what = 0; what < 7; what++) {
                put(all, x.hand(h, what));
            }
        }
        put(all, x.judged());
        for (int d = 0; d < x.count(1); d++) {
            for (int what = 0; what < 6; what++) {
                put(all, x.door(d, what));
            }
            int many = x.door(d, 0) == 1 ? 24 : x.door(d, 0) == 2 ? 40 : 5;
            for (int i = 0; i < many; i++) {
                put(all, x.knows(d, i));
            }
            put(all, x.fits(d, 0, 0));
            put(all, x.tells(d));
            for (int h = 0; h < x.count(0); h++) {
                put(all, x.unseen(d, h));
            }
        }
        for (int i = 0; i < 17 && x.undo(); i++) {
            put(all, x.count(8));
            put(all, x.door(0, 1));
            put(all, x.knows(1, 0));
        }
        for (int mark = 0; mark < 4; mark++) {
            put(all, x.mark(mark, true) ? 1 : 0);
            put(all, x.count(3));
            put(all, x.knows(0, 4));
        }
        Due.feed(x, "ip 7;");
        put(all, x.quarter());
        put(all, x.count(5));
        return all.toString();
    }

    private static void put(StringBuilder all, int value) {
        all.append(value).append(' ');
    }

    private static void refusedByHands(Due due, KnowLocks x, int hands, int doors) {
        for (int no : new int[] {-1, hands, 7, LEAST, MOST}) {
            due.is("hand " + no, x.hand(no, 0), -1);
            due.is("far, hand " + no, x.far(0, no), -1);
            due.is("opens, hand " + no, x.opens(0, no, NO_SLIPS), -1);
            due.is("knock, hand " + no, x.knock(0, no, NO_SLIPS), -1);
            due.is("patience, hand " + no, x.patience(0, no), -1);
            due.is("unseen, hand " + no, x.unseen(0, no), -1);
            due.is("breaks, hand " + no, x.breaks(0, no, -1), -1);
            due.is("defence, hand " + no, x.defence(0, no, 1), -1);
            due.is("chance, hand " + no, x.chance(0, no, 1), -1);
            due.is("best, owner " + no, x.best(0, no, 0, 0), -1);
            due.is("best, other " + no, x.best(0, 0, no, 0), -1);
            due.is("street, hand " + no, x.street(no, 0, 1), -1);
            due.is("taken, one " + no, x.taken(no, 0), -1);
            due.is("taken, other " + no, x.taken(0, no), -1);
            due.is("taken, both " + no, x.taken(no, no), -1);
            due.is("apart, one " + no, x.apart(0, no, 0), -1);
            due.is("apart, other " + no, x.apart(0, 0, no), -1);
            due.is("trained, one " + no, x.trained(0, no, 0, -1), -1);
            due.is("trained, other " + no, x.trained(0, 0, no, -1), -1);
        }
        due.is("taken, the same", x.taken(0, 0), -1);
        due.is("trained, the same", x.trained(0, 0, 0, -1), -1);
        due.is("hands", x.count(0) * 10 + x.count(1), hands * 10 + doors);
    }

    private static void refusedByDoors(Due due, KnowLocks x, int hands, int doors) {
        for (int no : new int[] {-1, doors, 5, LEAST, MOST}) {
            due.is("door " + no, x.door(no, 0), -1);
            due.is("knows, door " + no, x.knows(no, 0), -1);
            due.is("far, door " + no, x.far(no, 0), -1);
            due.is("opens, door " + no, x.opens(no, 0, NO_SLIPS), -1);
            due.is("knock, door " + no, x.knock(no, 0, NO_SLIPS), -1);
            due.is("near, door " + no, x.near(no, 1), false);
            due.is("patience, door " + no, x.patience(no, 0), -1);
            due.is("unseen, door " + no, x.unseen(no, 0), -1);
            due.is("breaks, door " + no, x.breaks(no, 0, -1), -1);
            due.is("defence, door " + no, x.defence(no, 0, 1), -1);
            due.is("chance, door " + no, x.chance(no, 0, 1), -1);
            due.is("best, door " + no, x.best(no, 0, 0, 0), -1);
            due.is("street, door " + no, x.street(0, no, 0), -1);
            due.is("street, other " + no, x.street(0, 0, no), -1);
            due.is("fits, door " + no, x.fits(no, 0, 0), -1);
            due.is("tells, door " + no, x.tells(no), -1);
            due.is("apart, door " + no, x.apart(no, 0, 0), -1);
            due.is("trained, door " + no, x.trained(no, 0, 1, -1), -1);
            due.is("rests, door " + no, x.rests(no, -1), -1);
        }
        if (hands == 0 || doors == 0) {
            due.is("years", year(x, 0, 1, 0), -100);
            due.is("far of none", x.far(0, 0), -1);
            due.is("opens of none", x.opens(0, 0, NO_SLIPS), -1);
            due.is("knock of none", x.knock(0, 0, NO_SLIPS), -1);
            due.is("chance of none", x.chance(0, 0, 0), -1);
            due.is("best of none", x.best(0, 0, 0, 0), -1);
            due.is("tells of none", x.tells(0), -1);
            due.is("patience of none", x.patience(0, 0), -1);
            due.is("defence of none", x.defence(0, 0, 1), -1);
        }
        due.is("doors", x.count(0) * 10 + x.count(1), hands * 10 + doors);
    }

    private static void refusedByOthers(Due due, KnowLocks x) {
        for (int many : new int[] {0, -1, 1001, LEAST, MOST}) {
            due.is("hours " + many, x.hours(many), -1);
        }
        for (int mark : new int[] {-1, 4, LEAST, MOST}) {
            due.is("laying " + mark, x.mark(mark, false), false);
            due.is("going back to " + mark, x.mark(mark, true), false);
        }
        for (int mark : new int[] {0, 2, 3}) {
            due.is("nothing on " + mark, x.mark(mark, true), false);
        }
        for (int what : new int[] {-1, 10, LEAST, MOST}) {
            due.is("count " + what, x.count(what), -1);
        }
        for (int seed : new int[] {-1, 10000, LEAST, MOST}) {
            due.is("years, seed " + seed, year(x, seed, 1, 0), -100);
        }
        for (int days : new int[] {0, -1, 41, LEAST, MOST}) {
            due.is("years, days " + days, year(x, 1, days, 0), -100);
        }
        for (int what : new int[] {-1, 3, LEAST, MOST}) {
            due.is("years, what " + what, year(x, 1, 1, what), -100);
            due.is("best, what " + what, x.best(0, 0, 0, what), -1);
            due.is("fits, what " + what, x.fits(0, 0, what), -1);
        }
        for (int what : new int[] {-1, 7, LEAST, MOST}) {
            due.is("hand, what " + what, x.hand(0, what), -1);
        }
        for (int what : new int[] {-1, 6, LEAST, MOST}) {
            due.is("door, what " + what, x.door(0, what), -1);
        }
        for (int what : new int[] {-1, 2, LEAST, MOST}) {
            due.is("chance, what " + what, x.chance(0, 0, what), -1);
        }
        for (int i : new int[] {-1, 5, 24, 40, LEAST, MOST}) {
            due.is("knows " + i, x.knows(0, i), -1);
        }
        for (int kind : new int[] {-1, 5, LEAST, MOST}) {
            due.is("fits, kind " + kind, x.fits(0, kind, 0), -1);
        }
        for (int tries : new int[] {0, -1, 21, LEAST, MOST}) {
            due.is("defence, tries " + tries, x.defence(0, 0, tries), -1);
        }
        for (int near : new int[] {-1, 100, LEAST, MOST}) {
            due.is("near " + near, x.near(0, near), false);
        }
        for (int slips : new int[] {-1, 2401, LEAST, MOST}) {
            due.is("opens, slips " + slips, x.opens(0, 0, slips), -1);
            due.is("knock, slips " + slips, x.knock(0, 0, slips), -1);
        }
        for (int what : new int[] {-2, 3, 4, LEAST, MOST}) {
            due.is("breaks, what " + what, x.breaks(0, 0, what), -1);
        }
        for (int what : new int[] {-2, 4, 5, LEAST, MOST}) {
            due.is("trained, what " + what, x.trained(0, 0, 1, what), -1);
        }
        for (int what : new int[] {-2, 63, LEAST, MOST}) {
            due.is("rests, what " + what, x.rests(0, what), -1);
        }
        due.is("feed of nothing", x.feed(0, -1L, 0x7f1f0b0900000000L), 4);
    }

    private static void refusedOfAll(Due due, KnowLocks x) {
        due.is("a slip of 2 by a slip 1", x.opens(0, 0, NO_SLIPS + 2), -1);
        due.is("a try by it", x.knock(0, 0, NO_SLIPS - 2 * 343), -1);
        due.is("a slip of 3 by a slip 2", x.knock(0, 1, NO_SLIPS + 3 * 7), -1);
        due.is("a child's slip of none", x.knock(0, 2, NO_SLIPS - 1), -1);
        due.is("near as it is", x.near(0, 20), false);
        due.is("near of the bank as it is", x.near(3, 23), false);
        due.is("a bank knows nothing", x.knows(3, 0), -1);
        due.is("no such row", x.knows(1, 8), -1);
        due.is("far of a bank", x.far(3, 0), -1);
        due.is("patience at a bank", x.patience(3, 0), -1);
        due.is("unseen at a bank", x.unseen(3, 0), -1);
        due.is("breaks of a bank", x.breaks(3, 0, -1), -1);
        due.is("a street to a bank", x.street(0, 0, 3), -1);
        due.is("a street to itself", x.street(0, 1, 1), -1);
        due.is("a bank's game", x.rests(3, -1), -1);
        due.is("a bank's first rest", x.rests(3, 0), -1);
        due.is("fits of a bank's kind", x.fits(0, 5, 0), -1);
        due.is("apart at a bank", x.apart(3, 0, 1), -1);
        due.is("trained, a bank", x.trained(3, 0, 1, -1), -1);
        due.is("trained, to keep a child out", x.trained(0, 0, 2, -1), -1);
        due.is("breaks, beyond", x.breaks(0, 0, 3), -1);
        due.is("trained, beyond", x.trained(0, 0, 1, 4), -1);
        due.is("rests, beyond", x.rests(0, 63), -1);
        due.is("defence of a child", x.defence(0, 2, 1), -1);
        due.is("no eighth hand", x.hand(7, 0), -1);
    }

    private static void asked(KnowLocks x) {
        for (int d = 0; d < 4; d++) {
            x.far(d, 1);
            x.opens(d, 1, NO_SLIPS + 1);
            x.patience(d, 1);
            x.unseen(d, 1);
            x.breaks(d, 0, 0);
            x.defence(d, 1, 20);
            x.chance(d, 1, 0);
            x.best(d, 0, 1, 1);
            x.street(0, d, (d + 1) % 4);
            x.judged();
            x.fits(d, 4, 1);
            x.tells(d);
            x.taken(0, 1);
            x.apart(d, 0, 1);
            x.trained(d, 0, 1, 0);
            x.rests(d, 0);
            year(x, 77, 40, d % 3);
            x.door(d, 2);
            x.knows(d, 0);
            x.count(d);
            x.hand(d, 0);
        }
    }

    /** Promises 3 and 4: with a fault all stays, but the tape is taken. */
    private static void faults(Due due) {
        String[] quarters = {"", " 1;~", "ip 1", ";", " hand z owner marks 1 1 1 1 slip 0 trust 0;x", "ip 1;hand z dog marks 0 0 0 0 slip 0 trust 0;door z mean near 0;",
            "ip 5;learn 9;feel 9;guard 0 to 23;learn 9;", "ip 8;hand y owner marks 0 0 0 0 slip 0 trust 0;door z mean near 1;street z z;"};
        for (int stage = NEW; stage <= ALL; stage++) {
            for (String text : quarters) {
                KnowLocks x = made(due, stage);
                x.quarter();
                String ahead = state(x);
                x = made(due, stage);
                Due.feed(x, text);
                due.is("a fault of a quarter: goss" + text, x.quarter() > 0, true);
                due.is("the tape is taken", x.count(9), 0);
                same(due, "goss" + text, ahead, x);
            }
        }
        String[] histories = {"goss", "night;night;x", "try a m shut;try a m shut;try a x shut;", "night;try b m opened", "night;".repeat(12) + "night;",
            "try a m shut;".repeat(25)};
        for (String text : histories) {
            KnowLocks x = made(due, ALL);
            x.quarter();
            String ahead = state(x);
            x = made(due, ALL);
            x.history();
            Due.feed(x, text);
            due.is("a fault of a history: " + text, x.history() > 0, true);
            due.is("the tape is taken", x.count(9), 0);
            same(due, text, ahead, x);
        }
    }

    /** -100 for a NoSuchElementException. */
    private static int year(KnowLocks x, int seed, int days, int what) {
        try {
            return x.years(seed, days, what);
        } catch (NoSuchElementException e) {
            return -100;
        }
    }
}
