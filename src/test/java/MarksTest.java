/** Promises 29 and 30: marks and counts. */
public final class MarksTest {
    private static final int NO_SLIPS = 1200;
    private static final int[] WRONG = {-1, 4, 99, Integer.MIN_VALUE, Integer.MAX_VALUE};

    public static void main(String[] args) {
        Due due = new Due();
        none(due);
        laidAndGoneBackTo(due);
        overQuarters(due);
        counts(due);
        due.end();
    }

    private static void none(Due due) {
        KnowLocks x = new KnowLocks();
        for (int mark : WRONG) {
            due.is("lay " + mark, x.mark(mark, false), false);
            due.is("back to " + mark, x.mark(mark, true), false);
        }
        for (int mark = 0; mark < 4; mark++) {
            due.is("nothing on " + mark, x.mark(mark, true), false);
            due.is("lay " + mark, x.mark(mark, false), true);
            due.is("back to " + mark, x.mark(mark, true), true);
        }
    }

    private static void laidAndGoneBackTo(Due due) {
        KnowLocks x = due.told("hand a owner marks 1 2 3 4 slip 0 trust 1;door m mean near 0;door n nearest near 1;"
            + "door o counts near 2;door v nervous near 3;");
        due.history(x, "try a m shut;night;");
        for (int d = 0; d < 4; d++) {
            x.knock(d, 0, NO_SLIPS);
        }
        x.near(0, 7);
        x.hours(5);
        x.knock(0, 0, NO_SLIPS);
        x.mark(1, false);
        due.is("what can be undone stays when a mark is laid", x.count(8), 1);
        x.knock(0, 0, NO_SLIPS);
        x.hours(40);
        x.near(0, 9);
        due.history(x, "try a m opened;try a m opened;");
        for (int d = 0; d < 4; d++) {
            x.knock(d, 0, NO_SLIPS);
        }
        for (int i = 0; i < 2; i++) {
            due.is("back", x.mark(1, true), true);
            due.is("nothing can be undone", x.count(8), 0);
            due.is("nothing is undone", x.undo(), false);
            due.is("the hour", x.count(3), 5);
            due.is("the day", x.count(4), 0);
            due.is("the tries of the history", x.count(6), 1);
            due.is("the nights of it", x.count(7), 1);
            due.is("near", x.door(0, 1), 7);
            due.is("tries since midnight", x.door(0, 2), 2);
            due.is("tries in all", x.door(0, 3), 2);
            due.is("it opened", x.door(0, 4), 1);
            due.is("weight", x.knows(0, 4), 3);
            due.is("no second row", x.knows(1, 4), -1);
            due.is("counts", x.knows(2, 1), 1);
            due.is("shut at last", x.door(3, 5), 1);
            x.knock(0, 0, NO_SLIPS);
            x.knock(1, 0, NO_SLIPS);
            x.knock(2, 0, NO_SLIPS);
            x.hours(3);
        }
    }

    private static void overQuarters(Due due) {
        KnowLocks x = due.told("hand a owner marks 1 2 3 4 slip 0 trust 1;door m mean near 0;gossip 4;learn 3;");
        x.knock(0, 0, NO_SLIPS);
        x.mark(0, false);
        x.mark(3, false);
        due.quarter(x, "door k bank near 1;door p mean near 0;street k p;");
        x.mark(3, false);
        due.is("back to the first quarter", x.mark(0, true), true);
        due.is("its hands", x.count(0), 1);
        due.is("its doors", x.count(1), 1);
        due.is("its gossip", x.count(5), 4);
        x.knock(0, 0, NO_SLIPS);
        due.is("its law of learning", x.knows(0, 4), 6);
        due.history(x, "try a m shut;");
        due.is("its names", x.count(6), 1);
        due.is("back to the second quarter, laid over the first", x.mark(3, true), true);
        due.is("no hands", x.count(0), 0);
        due.is("a street", x.count(2), 1);
        due.is("no history", x.count(6), 0);
        due.is("nothing on 1", x.mark(1, true), false);
    }

    private static void counts(Due due) {
        KnowLocks x = due.told("hand a owner marks 1 2 3 4 slip 0 trust 1;hand b dog marks 1 2 3 4 slip 0 trust 1;"
            + "door m mean near 0;door n mean near 0;door o mean near 0;street m n;street o n;gossip 6;");
        due.history(x, "try a m shut;try a m shut;try a m shut;night;night;night;night;");
        x.hours(100);
        x.knock(0, 0, NO_SLIPS);
        x.knock(0, 0, NO_SLIPS);
        Due.feed(x, "street o m");
        int[] values = {2, 3, 2, 4, 4, 6, 3, 4, 2, 10};
        for (int what = 0; what < values.length; what++) {
            due.is("count(" + what + ")", x.count(what), values[what]);
        }
        for (int what : new int[] {-1, 10, Integer.MIN_VALUE, Integer.MAX_VALUE}) {
            due.is("count(" + what + ")", x.count(what), -1);
        }
    }
}
