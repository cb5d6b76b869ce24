/** Promises 29 and 30 at their bounds, both sides of each: marks 0 to 3, what they hold, counts. */
public final class MarkBoundsTest {
    private static final int NO_SLIPS = 1200;
    private static final int[] WRONG = {-1, 4, 5, Integer.MIN_VALUE, Integer.MAX_VALUE};

    public static void main(String[] args) {
        Due due = new Due();
        whichMarks(due);
        eachMarkByItself(due);
        whatAMarkHolds(due);
        rowsAndCountsOfAMark(due);
        startledInAMark(due);
        triesOfAMark(due);
        quartersOfMarks(due);
        marksAndUndo(due);
        marksAndTape(due);
        whatIsCounted(due);
        due.end();
    }

    private static void whichMarks(Due due) {
        KnowLocks x = new KnowLocks();
        for (int mark = 0; mark < 4; mark++) {
            due.is("nothing on mark " + mark, x.mark(mark, true), false);
        }
        for (int mark : WRONG) {
            due.is("laying mark " + mark, x.mark(mark, false), false);
            due.is("going back to mark " + mark, x.mark(mark, true), false);
        }
        for (int mark = 0; mark < 4; mark++) {
            due.is("nothing yet on mark " + mark, x.mark(mark, true), false);
            due.is("laid, mark " + mark, x.mark(mark, false), true);
            due.is("laid over, mark " + mark, x.mark(mark, false), true);
            due.is("gone back to, mark " + mark, x.mark(mark, true), true);
            due.is("once more, mark " + mark, x.mark(mark, true), true);
        }
        for (int only = 0; only < 4; only++) {
            x = new KnowLocks();
            x.mark(only, false);
            for (int mark = 0; mark < 4; mark++) {
                due.is("laid " + only + ", back to " + mark, x.mark(mark, true), mark == only);
            }
        }
    }

    private static void eachMarkByItself(Due due) {
        KnowLocks x = due.told("door m mean near 0;");
        for (int mark = 0; mark < 4; mark++) {
            x.hours(mark + 1);
            x.near(0, 10 * mark + 5);
            x.mark(mark, false);
        }
        x.hours(100);
        x.near(0, 99);
        int[] hours = {1, 3, 6, 10};
        for (int mark : new int[] {2, 0, 3, 1, 1, 0}) {
            x.mark(mark, true);
            due.is("the hour on mark " + mark, x.count(3), hours[mark]);
            due.is("the day on mark " + mark, x.count(4), 0);
            due.is("the near on mark " + mark, x.door(0, 1), 10 * mark + 5);
        }
        x.hours(5);
        x.mark(2, false);
        x.hours(5);
        x.mark(2, true);
        due.is("laid over", x.count(3), 6);
        x.mark(3, true);
        due.is("the others stay", x.count(3), 10);
    }

    private static void whatAMarkHolds(Due due) {
        KnowLocks x = due.told("hand a owner marks 1 2 3 4 slip 1 trust 2;hand b child marks 0 0 0 0 slip 0 trust 0;door m mean near 3;door k bank near 1;"
            + "street m k;gossip 6;guard 3 to 4;learn 2+(hour=2);feel mark+1;");
        due.history(x, "try a m shut;try a m opened;night;");
        x.hours(26);
        x.knock(0, 0, NO_SLIPS);
        x.knock(0, 1, NO_SLIPS);
        x.knock(1, 1, NO_SLIPS);
        x.near(0, 44);
        x.mark(0, false);
        due.history(x, "try a k opened;night;night;");
        x.knock(0, 0, NO_SLIPS);
        x.hours(50);
        x.near(0, 12);
        due.quarter(x, "hand z dog marks 9 9 9 9 slip 0 trust 9;door y counts near 7;");
        x.knock(0, 0, NO_SLIPS);
        for (int i = 0; i < 2; i++) {
            due.is("back", x.mark(0, true), true);
            int[] counts = {2, 2, 1, 2, 1, 6, 2, 1, 0, 0};
            for (int what = 0; what < 10; what++) {
                due.is("count(" + what + ") of the mark", x.count(what), counts[what]);
            }
            int[] door = {0, 44, 2, 2, 1, 0};
            int[] bank = {5, 1, 1, 1, 0, 1};
            for (int what = 0; what < 6; what++) {
                due.is("door(0, " + what + ") of the mark", x.door(0, what), door[what]);
                due.is("door(1, " + what + ") of the mark", x.door(1, what), bank[what]);
            }
            int[] known = {6, 9, 12, 15, 3};
            for (int j = 0; j < 5; j++) {
                due.is("knows(0, " + j + ") of the mark", x.knows(0, j), known[j]);
            }
            due.is("a hand of the mark", x.hand(0, 3) * 100 + x.hand(0, 5) * 10 + x.hand(1, 4), 412);
            due.is("the history of the mark", x.judged(), -1);
            due.is("the guard of the mark", x.unseen(0, 1), 0);
            x.hours(1);
            due.is("the guard of the next hours", x.unseen(0, 1), 2);
            x.knock(0, 0, NO_SLIPS);
            due.is("its laws", x.knows(0, 4) * 100 + x.knows(0, 0), 510);
            x.hours(24);
        }
    }

    private static void rowsAndCountsOfAMark(Due due) {
        KnowLocks x = due.told("hand a owner marks 1 3 5 9 slip 3 trust 1;hand b owner marks 0 0 0 0 slip 0 trust 1;door n nearest near 0;door o counts near 0;"
            + "door s cheap near 0;door v nervous near 0;learn 3;");
        for (int row = 0; row < 6; row++) {
            x.knock(0, 0, NO_SLIPS - 2 + row % 5);
            x.knock(1, 0, NO_SLIPS + 7 * (row % 3));
        }
        x.knock(2, 0, NO_SLIPS);
        x.knock(3, 0, NO_SLIPS);
        x.mark(1, false);
        String ahead = known(x);
        for (int d = 0; d < 4; d++) {
            for (int i = 0; i < 7; i++) {
                x.knock(d, 1, NO_SLIPS);
            }
        }
        x.hours(24);
        x.mark(1, true);
        String behind = known(x);
        due.is("all that is known: " + ahead + " and " + behind, ahead.equals(behind), true);
        due.is("six rows of it", x.knows(0, 23), 9);
        due.is("the last count of it", x.knows(1, 39), 18);
        x.mark(1, true);
        due.is("once more", ahead.equals(known(x)), true);
    }

    private static String known(KnowLocks x) {
        StringBuilder all = new StringBuilder();
        for (int i = 0; i < 24; i++) {
            all.append(x.knows(0, i)).append(' ');
        }
        for (int i = 0; i < 40; i++) {
            all.append(x.knows(1, i)).append(' ');
        }
        for (int i = 0; i < 5; i++) {
            all.append(x.knows(2, i)).append(' ').append(x.knows(3, i)).append(' ');
        }
        return all.toString();
    }

    private static void startledInAMark(Due due) {
        KnowLocks x = due.told("hand a owner marks 5 5 5 5 slip 0 trust 1;hand b dog marks 0 0 0 0 slip 0 trust 0;door v nervous near 0;learn trust*(times=0);");
        x.knock(0, 0, NO_SLIPS);
        x.knock(0, 1, NO_SLIPS);
        x.mark(0, false);
        x.knock(0, 1, NO_SLIPS);
        x.mark(1, false);
        x.hours(24);
        due.is("calm", x.opens(0, 0, NO_SLIPS), 1);
        x.mark(1, true);
        due.is("startled on mark 1", x.opens(0, 0, NO_SLIPS), 0);
        due.is("three times shut", x.door(0, 5), 3);
        x.mark(0, true);
        due.is("not yet on mark 0", x.opens(0, 0, NO_SLIPS), 1);
        due.is("two times shut", x.door(0, 5), 2);
        x.knock(0, 1, NO_SLIPS);
        due.is("by the third", x.opens(0, 0, NO_SLIPS), 0);
    }

    /** Tries since midnight and tries in all, told apart on a mark and by undo. */
    private static void triesOfAMark(Due due) {
        KnowLocks x = due.told("hand a owner marks 5 5 5 5 slip 0 trust 1;hand c child marks 5 5 5 5 slip 0 trust 1;door m mean near 0;learn 0;");
        x.knock(0, 1, NO_SLIPS);
        x.knock(0, 1, NO_SLIPS);
        x.knock(0, 0, NO_SLIPS);
        x.hours(24);
        x.knock(0, 0, NO_SLIPS);
        x.knock(0, 1, NO_SLIPS);
        x.knock(0, 0, NO_SLIPS);
        int[] door = {0, 0, 3, 6, 3, 1};
        x.mark(0, false);
        x.near(0, 7);
        x.knock(0, 0, NO_SLIPS);
        x.undo();
        x.undo();
        for (int what = 0; what < 6; what++) {
            due.is("undone, door(0, " + what + ")", x.door(0, what), door[what]);
        }
        x.hours(48);
        x.mark(0, true);
        for (int what = 0; what < 6; what++) {
            due.is("gone back to, door(0, " + what + ")", x.door(0, what), door[what]);
        }
    }

    /** Promises 3 and 29: marks stay when a quarter is told. */
    private static void quartersOfMarks(Due due) {
        KnowLocks x = new KnowLocks();
        x.hours(7);
        x.mark(0, false);
        due.quarter(x, "hand a owner marks 1 2 3 4 slip 0 trust 1;door m mean near 0;learn 2;");
        x.mark(1, false);
        due.quarter(x, "hand b owner marks 4 3 2 1 slip 0 trust 1;hand c owner marks 1 1 1 1 slip 0 trust 1;door n nearest near 9;learn 3;");
        x.knock(0, 1, NO_SLIPS);
        x.mark(2, false);
        due.faultOfQuarter(x, 1, "gossip 1;@x");
        due.quarter(x, "");
        x.mark(2, true);
        due.is("two hands", x.count(0) * 10 + x.knows(0, 3), 21);
        due.history(x, "try b n shut;");
        x.mark(1, true);
        due.is("one hand", x.count(0) * 10 + x.hand(0, 3), 14);
        due.is("its history is none", x.count(6), 0);
        due.faultOfHistory(x, 2, "try @b m shut;");
        due.history(x, "try a m shut;");
        x.mark(0, true);
        due.is("no hand, no door", x.count(0) + x.count(1), 0);
        due.is("hour 7", x.count(3), 7);
        due.is("no history of it", x.count(6), 0);
        x.mark(1, true);
        due.is("no history was told when it was laid", x.count(6), 0);
        x.knock(0, 0, NO_SLIPS);
        due.is("its law", x.knows(0, 4), 2);
    }

    /** Laying a mark keeps what can be undone, going back takes it; what is undone does not change a mark. */
    private static void marksAndUndo(Due due) {
        KnowLocks x = due.told("hand a owner marks 1 2 3 4 slip 0 trust 1;door m mean near 0;learn 1;");
        for (int i = 0; i < 16; i++) {
            x.knock(0, 0, NO_SLIPS);
        }
        x.mark(3, false);
        due.is("16 still", x.count(8), 16);
        x.knock(0, 0, NO_SLIPS);
        due.is("16 of 17", x.count(8), 16);
        for (int i = 0; i < 16; i++) {
            due.is("undone " + i, x.undo(), true);
        }
        due.is("one is left", x.knows(0, 4), 1);
        due.is("the one behind the 16", x.undo(), false);
        x.mark(3, true);
        due.is("as marked", x.knows(0, 4), 16);
        due.is("nothing can be undone", x.count(8), 0);
        due.is("nothing is undone", x.undo(), false);
        x.knock(0, 0, NO_SLIPS);
        due.is("a try behind it can be", x.undo(), true);
        due.is("that one alone", x.undo(), false);
        due.is("as marked still", x.knows(0, 4), 16);
        x.knock(0, 0, NO_SLIPS);
        x.mark(2, true);
        due.is("no mark, nothing is taken", x.count(8), 1);
        x.mark(4, true);
        due.is("none such, nothing is taken", x.count(8), 1);
    }

    /** The tape is not gone back to: what was fed is behind it still. */
    private static void marksAndTape(Due due) {
        KnowLocks x = new KnowLocks();
        Due.feed(x, "goss");
        x.mark(0, false);
        Due.feed(x, "ip ");
        due.is("seven signs", x.count(9), 7);
        x.mark(0, true);
        due.is("seven signs still", x.count(9), 7);
        due.quarter(x, "8;");
        due.is("they are read together", x.count(5), 8);
        x.mark(0, true);
        due.is("taken is taken", x.count(9), 0);
    }

    private static void whatIsCounted(Due due) {
        KnowLocks x = new KnowLocks();
        for (int what = 0; what < 10; what++) {
            due.is("count(" + what + ") of a new object", x.count(what), 0);
        }
        for (int what : new int[] {-1, 10, 11, Integer.MIN_VALUE, Integer.MAX_VALUE}) {
            due.is("count(" + what + ")", x.count(what), -1);
        }
        StringBuilder text = new StringBuilder("gossip 9;");
        for (int h = 0; h < 7; h++) {
            text.append("hand ").append((char) ('a' + h)).append(" dog marks 1 1 1 1 slip 0 trust 0;");
        }
        for (int d = 0; d < 5; d++) {
            text.append("door ").append((char) ('p' + d)).append(" mean near 1;");
            for (int e = 0; e < d; e++) {
                text.append("street ").append((char) ('p' + e)).append(' ').append((char) ('p' + d)).append(';');
            }
        }
        due.quarter(x, text.toString());
        due.history(x, ("try a p shut;".repeat(2) + "night;").repeat(12));
        x.hours(1000);
        x.hours(1000);
        x.hours(7);
        for (int i = 0; i < 17; i++) {
            x.knock(0, 0, NO_SLIPS);
        }
        Due.feed(x, " ".repeat(1000));
        int[] most = {7, 5, 10, 15, 83, 9, 24, 12, 16, 1000};
        for (int what = 0; what < 10; what++) {
            due.is("count(" + what + ") of all", x.count(what), most[what]);
        }
        x.quarter();
        for (int what = 0; what < 10; what++) {
            due.is("count(" + what + ") of an empty quarter", x.count(what), 0);
        }
    }
}
