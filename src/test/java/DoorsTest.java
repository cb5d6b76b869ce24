/** Promises 5 to 13: hands, doors, what they know, tries and nears by hand, hours. */
public final class DoorsTest {
    private static final int NO_SLIPS = 1200;
    private static final String HANDS = "hand a owner marks 2 4 6 8 slip 1 trust 3;hand b maid marks 3 4 6 8 slip 0 trust 2;"
        + "hand c child marks 0 9 0 9 slip 3 trust 9;hand d dog marks 2 4 6 7 slip 2 trust 7;hand e twin c slip 0 trust 4;";
    private static final String DOORS = "door m mean near 10;door n nearest near 10;door o counts near 8;";

    public static void main(String[] args) {
        Due due = new Due();
        hands(due);
        doors(due);
        mean(due);
        nearest(due);
        counts(due);
        cheap(due);
        nervous(due);
        bank(due);
        children(due);
        slips(due);
        nears(due);
        undos(due);
        hours(due);
        gossip(due);
        gossipByKinds(due);
        due.end();
    }

    private static void hands(Due due) {
        KnowLocks x = due.told(HANDS);
        int[][] told = {{2, 4, 6, 8, 0, 1, 3}, {3, 4, 6, 8, 1, 0, 4}, {0, 9, 0, 9, 2, 3, 0}, {2, 4, 6, 7, 3, 2, 0},
            {0, 9, 0, 9, 4, 0, 4}};
        for (int h = 0; h < told.length; h++) {
            for (int what = 0; what < 7; what++) {
                due.is("hand(" + h + ", " + what + ")", x.hand(h, what), told[h][what]);
            }
        }
        for (int wrong : new int[] {-1, 5, 7, 99, Integer.MIN_VALUE, Integer.MAX_VALUE}) {
            due.is("hand of no HAND " + wrong, x.hand(wrong, 0), -1);
        }
        for (int wrong : new int[] {-1, 7, 8, Integer.MIN_VALUE, Integer.MAX_VALUE}) {
            due.is("hand(0, " + wrong + ")", x.hand(0, wrong), -1);
        }
    }

    private static void doors(Due due) {
        KnowLocks x = due.told(HANDS + "door p mean near 0;door q nearest near 1;door r counts near 98;"
            + "door s cheap near 99;door t nervous near 5;");
        int[] nears = {0, 1, 98, 99, 5};
        for (int d = 0; d < 5; d++) {
            due.is("kind of " + d, x.door(d, 0), d);
            due.is("near of " + d, x.door(d, 1), nears[d]);
            for (int what = 2; what < 6; what++) {
                due.is("door(" + d + ", " + what + ")", x.door(d, what), 0);
            }
        }
        for (int wrong : new int[] {-1, 6, Integer.MIN_VALUE, Integer.MAX_VALUE}) {
            due.is("door(0, " + wrong + ")", x.door(0, wrong), -1);
        }
        for (int wrong : new int[] {-1, 5, Integer.MIN_VALUE, Integer.MAX_VALUE}) {
            due.is("door(" + wrong + ", 0)", x.door(wrong, 0), -1);
            due.is("knows(" + wrong + ", 0)", x.knows(wrong, 0), -1);
            due.is("far(" + wrong + ", 0)", x.far(wrong, 0), -1);
            due.is("far(0, " + wrong + ")", x.far(0, wrong), -1);
            due.is("opens(" + wrong + ", 0)", x.opens(wrong, 0, NO_SLIPS), -1);
            due.is("opens(0, " + wrong + ")", x.opens(0, wrong, NO_SLIPS), -1);
            due.is("knock(" + wrong + ", 0)", x.knock(wrong, 0, NO_SLIPS), -1);
            due.is("knock(0, " + wrong + ")", x.knock(0, wrong, NO_SLIPS), -1);
            due.is("near(" + wrong + ", 0)", x.near(wrong, 0), false);
        }
        due.is("nothing was tried", x.count(8), 0);
        x = due.told("door k bank near 7;");
        due.is("a bank", x.door(0, 0), 5);
    }

    private static void mean(Due due) {
        KnowLocks x = due.told(HANDS + "door m mean near 10;");
        due.is("far of a new one", x.far(0, 0), -1);
        due.is("a new one stays shut", x.knock(0, 0, NO_SLIPS), 0);
        due.is("far of the same", x.far(0, 0), 0);
        due.is("far of one mark more", x.far(0, 1), 10);
        due.is("opens at near", x.knock(0, 1, NO_SLIPS), 1);
        int[] known = {2 + 2 * 3, 12, 18, 24, 3};
        for (int i = 0; i < 5; i++) {
            due.is("knows(0, " + i + ")", x.knows(0, i), known[i]);
        }
        due.is("knows(0, 5)", x.knows(0, 5), -1);
        due.is("knows(0, -1)", x.knows(0, -1), -1);
        due.is("far is cut", x.far(0, 0), 6);
        due.is("far of the dog", x.far(0, 3), 16);
        due.is("shut beyond near", x.knock(0, 3, NO_SLIPS), 0);
        due.is("tries today", x.door(0, 2), 3);
        due.is("tries in all", x.door(0, 3), 3);
        due.is("opened in all", x.door(0, 4), 1);
        due.is("shut at last", x.door(0, 5), 1);
        due.is("asking does not learn", x.knows(0, 4), 4);
        x.knock(0, 1, NO_SLIPS);
        due.is("opened, so none at last", x.door(0, 5), 0);
    }

    private static void nearest(Due due) {
        KnowLocks x = due.told(HANDS + "door n nearest near 10;learn trust+(trust=0);");
        due.is("no row", x.far(0, 0), -1);
        due.is("no row known", x.knows(0, 0), -1);
        x.knock(0, 0, NO_SLIPS);
        due.is("one row", x.knows(0, 3), 8);
        due.is("no second row", x.knows(0, 4), -1);
        due.is("ten by one", x.far(0, 3), 10);
        due.is("opens by a neighbour", x.knock(0, 3, NO_SLIPS), 1);
        due.is("the last row is foremost", x.knows(0, 3), 7);
        due.is("the first row is behind", x.knows(0, 7), 8);
        due.is("the nearest row counts", x.far(0, 1), 10);
        for (int i = 0; i < 4; i++) {
            x.knock(0, 0, NO_SLIPS + 7);
        }
        due.is("six rows", x.knows(0, 23), 8);
        due.is("the fifth row", x.knows(0, 19), 7);
        x.knock(0, 0, NO_SLIPS + 7);
        due.is("the seventh is gone", x.knows(0, 23), 7);
        due.is("the slipped mark", x.knows(0, 1), 5);
        due.is("no seventh row", x.knows(0, 24), -1);
        due.is("knows(0, -1)", x.knows(0, -1), -1);
        x = due.told(HANDS + "door n nearest near 10;learn opened;");
        x.knock(0, 0, NO_SLIPS);
        due.is("by 0 no row is learnt", x.knows(0, 0), -1);
    }

    private static void counts(Due due) {
        KnowLocks x = due.told(HANDS + "door o counts near 8;learn 2;");
        due.is("nothing counted", x.far(0, 0), 0);
        due.is("shut below near", x.knock(0, 0, NO_SLIPS), 0);
        due.is("counted", x.knows(0, 2), 2);
        due.is("the second mark", x.knows(0, 14), 2);
        due.is("the last mark", x.knows(0, 38), 2);
        due.is("another mark", x.knows(0, 3), 0);
        due.is("knows(0, 39)", x.knows(0, 39), 0);
        due.is("knows(0, 40)", x.knows(0, 40), -1);
        due.is("knows(0, -1)", x.knows(0, -1), -1);
        due.is("far", x.far(0, 0), 8);
        due.is("far of a neighbour", x.far(0, 3), 6);
        due.is("opens at near", x.opens(0, 0, NO_SLIPS), 1);
        due.is("shut to the neighbour", x.opens(0, 3, NO_SLIPS), 0);
        x.near(0, 0);
        due.is("near 0 opens to all", x.opens(0, 4, NO_SLIPS), 1);
        x = due.told("hand a owner marks 1 1 1 1 slip 0 trust 0;door c counts near 8;door d counts near 8;street c d;gossip 9;learn 9;");
        x.knock(0, 0, NO_SLIPS);
        for (int i = 0; i < 28; i++) {
            x.hours(984);
        }
        due.is("9,999 at most by gossip", x.knows(0, 1), 9999);
        x.knock(0, 0, NO_SLIPS);
        due.is("9,999 at most by tries", x.knows(0, 11), 9999);
    }

    private static void cheap(Due due) {
        KnowLocks x = due.told("hand a owner marks 1 2 3 5 slip 0 trust 0;door c cheap near 8;door m mean near 8;learn 3;");
        x.knock(0, 0, NO_SLIPS);
        x.knock(1, 0, NO_SLIPS);
        x.hours(23);
        due.is("not yet", x.knows(0, 4), 3);
        x.hours(1);
        int[] half = {1, 3, 4, 7, 1};
        for (int i = 0; i < 5; i++) {
            due.is("half, cut, " + i, x.knows(0, i), half[i]);
        }
        due.is("a mean one does not forget", x.knows(1, 3), 15);
        due.is("far by what is left", x.far(0, 0), 10 * (0 + 1 + 1 + 2));
        x.hours(24);
        due.is("no weight", x.knows(0, 4), 0);
        due.is("sums without weight", x.knows(0, 3), 3);
        due.is("far without weight", x.far(0, 0), -1);
        due.is("shut without weight", x.opens(0, 0, NO_SLIPS), 0);
    }

    private static void nervous(Due due) {
        KnowLocks x = due.told("hand a owner marks 5 5 5 5 slip 0 trust 0;hand b owner marks 0 0 0 0 slip 0 trust 0;"
            + "hand c child marks 0 0 0 0 slip 0 trust 0;door n nervous near 99;learn 0+opened+(far<0);");
        due.is("new", x.knock(0, 0, NO_SLIPS), 0);
        due.is("far of one", x.far(0, 0), 0);
        due.is("shut to the other", x.knock(0, 1, NO_SLIPS), 0);
        due.is("two times shut do not matter", x.knock(0, 0, NO_SLIPS), 1);
        due.is("none at last", x.door(0, 5), 0);
        x.knock(0, 1, NO_SLIPS);
        x.knock(0, 1, NO_SLIPS);
        due.is("still ready", x.opens(0, 0, NO_SLIPS), 1);
        x.knock(0, 1, NO_SLIPS);
        due.is("three at last", x.door(0, 5), 3);
        due.is("far stays", x.far(0, 0), 0);
        due.is("no more", x.opens(0, 0, NO_SLIPS), 0);
        due.is("no more by a try", x.knock(0, 0, NO_SLIPS), 0);
        due.is("four at last", x.door(0, 5), 4);
        due.is("a child is let in", x.knock(0, 2, NO_SLIPS), 1);
        due.is("none since the child", x.door(0, 5), 0);
        due.is("till midnight none the less", x.opens(0, 0, NO_SLIPS), 0);
        x.undo();
        x.undo();
        x.undo();
        due.is("undone", x.opens(0, 0, NO_SLIPS), 1);
        x.knock(0, 1, NO_SLIPS);
        x.hours(23);
        due.is("at 23", x.opens(0, 0, NO_SLIPS), 0);
        x.hours(1);
        due.is("at midnight", x.opens(0, 0, NO_SLIPS), 1);
        due.is("none at last since midnight", x.door(0, 5), 0);
        x.knock(0, 1, NO_SLIPS);
        x.knock(0, 1, NO_SLIPS);
        x.hours(24);
        x.knock(0, 1, NO_SLIPS);
        due.is("not over midnight", x.opens(0, 0, NO_SLIPS), 1);
    }

    private static void bank(Due due) {
        KnowLocks x = due.told(HANDS + "door k bank near 99;");
        due.is("shut", x.knock(0, 0, NO_SLIPS), 0);
        due.is("shut to a child", x.knock(0, 2, NO_SLIPS), 0);
        due.is("far", x.far(0, 0), -1);
        for (int i = 0; i < 5; i++) {
            due.is("it knows nothing", x.knows(0, i), -1);
        }
        due.is("tries", x.door(0, 3), 2);
        due.is("shut at last", x.door(0, 5), 2);
    }

    private static void children(Due due) {
        KnowLocks x = due.told(HANDS + DOORS + "door s cheap near 0;door t nervous near 0;");
        for (int d = 0; d < 5; d++) {
            due.is("a child is let in by " + d, x.knock(d, 2, NO_SLIPS + 3 - 3 * 7), 1);
            due.is("it is not learnt by " + d, x.far(d, 2), d == 2 ? 0 : -1);
            due.is("it opened " + d, x.door(d, 4), 1);
            due.is("a child's twin is not by " + d, x.opens(d, 4, NO_SLIPS), 0);
        }
    }

    private static void slips(Due due) {
        KnowLocks x = due.told(HANDS + "hand z owner marks 0 9 1 8 slip 3 trust 0;door n nearest near 20;");
        due.is("slip 1", x.opens(0, 0, NO_SLIPS - 1 + 7 - 49 + 343), 0);
        due.is("slip 2 of slip 1", x.opens(0, 0, NO_SLIPS + 2), -1);
        due.is("slip -2 of slip 1", x.knock(0, 0, NO_SLIPS - 2 * 343), -1);
        due.is("slip 1 of slip 0", x.knock(0, 1, NO_SLIPS + 49), -1);
        due.is("slips -1", x.opens(0, 5, -1), -1);
        due.is("slips 2401", x.knock(0, 5, 2401), -1);
        due.is("slips 2401 + 1200", x.knock(0, 0, 2401 + NO_SLIPS), -1);
        due.is("slips least", x.opens(0, 5, Integer.MIN_VALUE), -1);
        due.is("slips greatest", x.opens(0, 5, Integer.MAX_VALUE), -1);
        due.is("no try was made", x.door(0, 3), 0);
        x.knock(0, 5, 0);
        int[] least = {0, 6, 0, 5};
        for (int i = 0; i < 4; i++) {
            due.is("all 3 less, " + i, x.knows(0, i), least[i]);
        }
        x.knock(0, 5, 2400);
        int[] greatest = {3, 9, 4, 9};
        for (int i = 0; i < 4; i++) {
            due.is("all 3 more, " + i, x.knows(0, i), greatest[i]);
        }
        due.is("opens by slips", x.opens(0, 5, NO_SLIPS + 2 + 49 * 2 + 343), 1);
        due.is("not without", x.opens(0, 5, NO_SLIPS), 0);
    }

    private static void nears(Due due) {
        KnowLocks x = due.told(HANDS + DOORS);
        due.is("near 99", x.near(0, 99), true);
        due.is("near told anew", x.door(0, 1), 99);
        due.is("it is so", x.near(0, 99), false);
        due.is("near 100", x.near(0, 100), false);
        due.is("near -1", x.near(0, -1), false);
        due.is("near 0", x.near(0, 0), true);
        due.is("two can be undone", x.count(8), 2);
        due.is("others stay", x.door(1, 1), 10);
        x.knock(0, 0, NO_SLIPS);
        due.is("by the new near", x.opens(0, 1, NO_SLIPS), 0);
    }

    private static void undos(Due due) {
        KnowLocks x = due.told(HANDS + DOORS);
        x.knock(0, 0, NO_SLIPS);
        x.near(1, 50);
        x.knock(2, 0, NO_SLIPS);
        x.knock(1, 1, NO_SLIPS);
        due.is("four", x.count(8), 4);
        due.is("first", x.undo(), true);
        due.is("no row", x.knows(1, 0), -1);
        due.is("near stays", x.door(1, 1), 50);
        x.undo();
        due.is("no count", x.knows(2, 2), 0);
        due.is("no try", x.door(2, 2) + x.door(2, 3) + x.door(2, 5), 0);
        x.undo();
        due.is("near as ahead", x.door(1, 1), 10);
        due.is("one is left", x.count(8), 1);
        x.undo();
        due.is("nothing learnt", x.far(0, 0), -1);
        due.is("nothing left", x.undo(), false);
        for (int i = 0; i < 20; i++) {
            x.knock(0, 0, NO_SLIPS);
        }
        due.is("sixteen", x.count(8), 16);
        for (int i = 0; i < 16; i++) {
            due.is("undo " + i, x.undo(), true);
        }
        due.is("the seventeenth", x.undo(), false);
        due.is("four tries are left", x.door(0, 3), 4);
        x.knock(0, 0, NO_SLIPS);
        x.hours(1);
        due.is("none when hours pass", x.undo(), false);
        due.is("none is counted", x.count(8), 0);
        x.knock(0, 0, NO_SLIPS);
        due.is("no hours", x.hours(0), -1);
        due.is("one is left by no hours", x.count(8), 1);
    }

    private static void hours(Due due) {
        KnowLocks x = due.told(HANDS + DOORS);
        due.is("hours(0)", x.hours(0), -1);
        due.is("hours(-1)", x.hours(-1), -1);
        due.is("hours(1001)", x.hours(1001), -1);
        due.is("hours least", x.hours(Integer.MIN_VALUE), -1);
        due.is("hours greatest", x.hours(Integer.MAX_VALUE), -1);
        due.is("hours(1)", x.hours(1), 1);
        x.knock(0, 0, NO_SLIPS);
        due.is("hours(22)", x.hours(22), 23);
        due.is("tries since midnight", x.door(0, 2), 1);
        due.is("hours(1) more", x.hours(1), 24);
        due.is("the hour", x.count(3), 0);
        due.is("the day", x.count(4), 1);
        due.is("tries begin at 0", x.door(0, 2), 0);
        due.is("none shut at last", x.door(0, 5), 0);
        due.is("tries in all", x.door(0, 3), 1);
        due.is("hours(1000)", x.hours(1000), 1024);
        due.is("the hour then", x.count(3), 16);
        due.is("the day then", x.count(4), 42);
    }

    private static void gossip(Due due) {
        String quarter = "hand a owner marks 1 3 5 7 slip 0 trust 0;hand b owner marks 2 3 5 8 slip 0 trust 0;"
            + "door p mean near 0;door q mean near 0;door r mean near 0;street p q;street q r;";
        KnowLocks x = due.told(quarter + "gossip 2;");
        x.knock(0, 0, NO_SLIPS);
        x.knock(0, 1, NO_SLIPS);
        x.hours(24);
        due.is("q learns the mean, cut", x.knows(1, 3), 14);
        due.is("q learns it twice", x.knows(1, 4), 2);
        due.is("p learns nothing", x.knows(0, 4), 2);
        due.is("r learns nothing, as q knew nothing", x.knows(2, 4), 0);
        x.hours(24);
        due.is("r learns the day after", x.knows(2, 4), 2);
        due.is("q learns from p alone", x.knows(1, 4), 4);
        due.is("p learns from q", x.knows(0, 4), 4);
        x = due.told(quarter);
        x.knock(0, 0, NO_SLIPS);
        x.hours(24);
        due.is("gossip 0", x.knows(1, 4), 0);
        x = due.told("hand a owner marks 1 3 5 9 slip 0 trust 0;door c cheap near 0;door q mean near 0;street c q;gossip 1;learn 3;");
        x.knock(0, 0, NO_SLIPS);
        x.hours(24);
        due.is("half ahead of gossip", x.knows(0, 4), 1);
        due.is("half sums by half weight", x.knows(1, 1), 4);
        due.is("9 at most", x.knows(1, 3), 9);
        x.hours(24);
        due.is("half, then told by the other", x.knows(0, 4), 1);
        due.is("who has no weight tells nothing", x.knows(1, 4), 1);
    }

    private static void gossipByKinds(Due due) {
        String hands = "hand a owner marks 1 3 5 7 slip 0 trust 0;hand b owner marks 2 3 5 8 slip 0 trust 0;";
        KnowLocks x = due.told(hands + "door n nearest near 0;door c counts near 0;door v nervous near 0;door k bank near 0;"
            + "street n c;street c v;street v n;street k n;street c k;gossip 1;learn 1;");
        x.knock(0, 0, NO_SLIPS);
        x.knock(0, 1, NO_SLIPS);
        x.hours(24);
        due.is("counts learns the foremost row", x.knows(1, 2), 1);
        due.is("not the other one", x.knows(1, 1), 0);
        due.is("nervous learns it", x.knows(2, 3), 8);
        due.is("its weight", x.knows(2, 4), 1);
        due.is("no row comes back, as they knew nothing", x.knows(0, 8), -1);
        x.knock(1, 0, NO_SLIPS);
        due.is("counts of the first mark alike", x.knows(1, 1) - x.knows(1, 2), 0);
        x.hours(24);
        due.is("c's telling is learnt ahead of v's", x.knows(0, 4), 1);
        due.is("the least such mark is told", x.knows(0, 7), 7);
        due.is("v's telling is foremost", x.knows(0, 0), 2);
        due.is("the bank knows nothing", x.knows(3, 0), -1);
        x = due.told(hands + "door n nearest near 0;door q nearest near 0;street n q;");
        x.knock(0, 0, NO_SLIPS);
        x.hours(24);
        due.is("no row by gossip 0", x.knows(1, 0), -1);
        x = due.told(hands + "door n nearest near 0;door q nearest near 0;door r nearest near 0;street r q;street q n;gossip 1;");
        x.knock(0, 0, NO_SLIPS);
        x.knock(1, 1, NO_SLIPS);
        x.hours(24);
        due.is("q's first telling goes to r", x.knows(2, 0), 2);
        due.is("by what they knew ahead of it", x.knows(0, 0), 2);
        due.is("n's telling is q's foremost", x.knows(1, 0), 1);
        due.is("r told nothing", x.knows(1, 8), -1);
    }
}
