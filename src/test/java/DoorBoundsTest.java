/** Promises 5 to 13 at their bounds, both sides of each: hands, doors, what they know, tries, nears, undo, hours, gossip. */
public final class DoorBoundsTest {
    private static final int NO_SLIPS = 1200;
    private static final int[] SEVENS = {1, 7, 49, 343};
    private static final String FIVE = "hand a owner marks 5 5 5 5 slip 0 trust 1;";
    /** A hand that is learnt by its trust, and one that is not learnt. */
    private static final String BY_TRUST = "hand a owner marks 5 5 5 5 slip 3 trust 9;hand b owner marks 5 5 5 6 slip 3 trust 1;"
        + "hand z dog marks 5 5 5 5 slip 3 trust 0;learn trust;";

    public static void main(String[] args) {
        Due due = new Due();
        believed(due);
        whichHandsAndDoors(due);
        triesAreCounted(due);
        knownBySums(due);
        knownByRows(due);
        knownByCounts(due);
        nearOfSums(due);
        farIsCut(due);
        nearOfRows(due);
        nearOfCounts(due);
        countsAtMost(due);
        cheapByHalves(due);
        nervousAtThree(due);
        childrenAndBanks(due);
        slipsOfEachHand(due);
        slipsWithinNoughtAndNine(due);
        slipsAsFigures(due);
        nears(due);
        undoSixteen(due);
        undoOfAll(due);
        whatTakesUndoAway(due);
        hoursAndMidnight(due);
        lawsByTheHour(due);
        gossipOfNoneAndNine(due);
        gossipOfCounts(due);
        gossipOfSums(due);
        gossipAhead(due);
        gossipFromEachPlace(due);
        due.end();
    }

    /** Promise 5. */
    private static void believed(Due due) {
        String[] kinds = {"owner", "maid", "child", "dog"};
        int[] times = {1, 2, 0, 0};
        for (int kind = 0; kind < 4; kind++) {
            for (int trust = 0; trust <= 9; trust++) {
                KnowLocks x = due.told("hand a " + kinds[kind] + " marks 0 9 0 9 slip 3 trust " + trust + ";hand b twin a slip 0 trust " + trust + ";"
                    + "door m mean near 0;learn trust;");
                due.is(kinds[kind] + " " + trust, x.hand(0, 6), times[kind] * trust);
                due.is("a twin " + trust, x.hand(1, 6), trust);
                x.knock(0, 0, NO_SLIPS);
                due.is("learnt by " + kinds[kind], x.knows(0, 4), Math.min(9, times[kind] * trust));
            }
        }
    }

    /** Promises 5 to 11: hands 0 to 6, doors 0 to 4, and those behind. */
    private static void whichHandsAndDoors(Due due) {
        StringBuilder text = new StringBuilder();
        for (int h = 0; h < 7; h++) {
            text.append("hand ").append((char) ('a' + h)).append(" dog marks ").append(h).append(" 1 2 3 slip 0 trust 0;");
        }
        for (int d = 0; d < 5; d++) {
            text.append("door ").append((char) ('p' + d)).append(" counts near ").append(d).append(';');
        }
        KnowLocks x = due.told(text.toString());
        for (int h = 0; h < 7; h++) {
            due.is("the mark of hand " + h, x.hand(h, 0), h);
            due.is("far of hand " + h, x.far(4, h), 0);
            due.is("opens to hand " + h, x.opens(0, h, NO_SLIPS), 1);
        }
        for (int d = 0; d < 5; d++) {
            due.is("the near of door " + d, x.door(d, 1), d);
            due.is("knows of door " + d, x.knows(d, 0), 0);
            due.is("a try at door " + d, x.knock(d, 6, NO_SLIPS), d == 0 ? 1 : 0);
            due.is("near of door " + d, x.near(d, 9), true);
        }
        due.is("the eighth hand", x.hand(7, 0), -1);
        due.is("far of the eighth hand", x.far(0, 7), -1);
        due.is("opens to the eighth hand", x.opens(0, 7, NO_SLIPS), -1);
        due.is("a try of the eighth hand", x.knock(0, 7, NO_SLIPS), -1);
        due.is("the sixth door", x.door(5, 1), -1);
        due.is("knows of the sixth door", x.knows(5, 0), -1);
        due.is("far at the sixth door", x.far(5, 0), -1);
        due.is("the sixth door opens", x.opens(5, 0, NO_SLIPS), -1);
        due.is("a try at the sixth door", x.knock(5, 0, NO_SLIPS), -1);
        due.is("near of the sixth door", x.near(5, 9), false);
        for (int what = 0; what <= 6; what++) {
            due.is("hand(6, " + what + ") is told", x.hand(6, what) >= 0, true);
        }
        due.is("hand(6, 7)", x.hand(6, 7), -1);
        due.is("hand(6, -1)", x.hand(6, -1), -1);
        for (int what = 0; what <= 5; what++) {
            due.is("door(4, " + what + ") is told", x.door(4, what) >= 0, true);
        }
        due.is("door(4, 6)", x.door(4, 6), -1);
        due.is("door(4, -1)", x.door(4, -1), -1);
        x = due.told(FIVE + "door p counts near 0;");
        due.is("of one hand", x.hand(0, 0) * 10 + x.hand(1, 0), 49);
        due.is("of one door", x.door(0, 0) * 10 + x.door(1, 0), 19);
        due.is("a hand that an earlier quarter had", x.opens(0, 1, NO_SLIPS), -1);
    }

    /** Promise 6, what 2 to 5. */
    private static void triesAreCounted(Due due) {
        KnowLocks x = due.told(FIVE + "hand c child marks 0 0 0 0 slip 0 trust 0;hand b owner marks 0 0 0 0 slip 0 trust 0;"
            + "door m mean near 0;door k bank near 0;learn far<0;");
        int[] hands = {0, 0, 2, 2, 1, 2, 0, 2, 2, 2, 2};
        int[] shut = {1, 0, 1, 2, 0, 1, 0, 1, 2, 3, 4};
        int opened = 0;
        for (int i = 0; i < hands.length; i++) {
            opened += x.knock(0, hands[i], NO_SLIPS);
            due.is("tries since midnight, " + i, x.door(0, 2), i + 1);
            due.is("tries in all, " + i, x.door(0, 3), i + 1);
            due.is("it opened, " + i, x.door(0, 4), opened);
            due.is("it did not at last, " + i, x.door(0, 5), shut[i]);
        }
        due.is("it opened in all", x.door(0, 4), 3);
        due.is("the other door was not tried", x.door(1, 3), 0);
        x.knock(1, 0, NO_SLIPS);
        x.knock(1, 1, NO_SLIPS);
        due.is("a bank's tries", x.door(1, 2) * 100 + x.door(1, 3) * 10 + x.door(1, 4), 220);
        due.is("a bank is shut to a child, too", x.door(1, 5), 2);
        x.hours(23);
        due.is("tries of this day", x.door(0, 2), 11);
        due.is("not one behind the other of this day", x.door(0, 5), 4);
        x.hours(1);
        due.is("none of the new day", x.door(0, 2) + x.door(0, 5) + x.door(1, 2) + x.door(1, 5), 0);
        due.is("in all, none the less", x.door(0, 3) * 10 + x.door(0, 4), 113);
        x.knock(0, 2, NO_SLIPS);
        due.is("one of the new day", x.door(0, 2) * 10 + x.door(0, 5), 11);
        due.is("twelve in all", x.door(0, 3), 12);
    }

    /** Promise 7: i 0 to 4 of mean, cheap, nervous. */
    private static void knownBySums(Due due) {
        KnowLocks x = due.told("hand a owner marks 0 9 1 8 slip 0 trust 1;door m mean near 0;door c cheap near 0;door n nervous near 0;learn 9;");
        int[] sums = {0, 81, 9, 72, 9};
        for (int d = 0; d < 3; d++) {
            for (int i = -1; i <= 5; i++) {
                due.is("new, knows(" + d + ", " + i + ")", x.knows(d, i), i < 0 || i > 4 ? -1 : 0);
            }
            x.knock(d, 0, NO_SLIPS);
            for (int i = -1; i <= 5; i++) {
                due.is("knows(" + d + ", " + i + ")", x.knows(d, i), i < 0 || i > 4 ? -1 : sums[i]);
            }
            due.is("the least int", x.knows(d, Integer.MIN_VALUE), -1);
            due.is("the greatest int", x.knows(d, Integer.MAX_VALUE), -1);
        }
    }

    /** Promise 7: rows, 6 at most, the foremost first. */
    private static void knownByRows(Due due) {
        KnowLocks x = due.told("hand a owner marks 4 5 4 5 slip 3 trust 1;door n nearest near 0;learn 9;");
        for (int many = 1; many <= 9; many++) {
            x.knock(0, 0, NO_SLIPS + (many - 5) % 4 * SEVENS[many % 4]);
            int rows = Math.min(6, many);
            for (int row = 0; row < rows; row++) {
                int slipped = many - row;
                for (int i = 0; i < 4; i++) {
                    int mark = 4 + i % 2 + (i == slipped % 4 ? (slipped - 5) % 4 : 0);
                    due.is("row " + row + " of " + many + ", " + i, x.knows(0, 4 * row + i), mark);
                }
            }
            due.is("behind row " + rows, x.knows(0, 4 * rows), -1);
        }
        due.is("knows(0, 23)", x.knows(0, 23) >= 0, true);
        due.is("knows(0, 24)", x.knows(0, 24), -1);
        due.is("knows(0, -1)", x.knows(0, -1), -1);
        due.is("knows(0, greatest)", x.knows(0, Integer.MAX_VALUE), -1);
    }

    /** Promise 7: 10 * which mark + mark. */
    private static void knownByCounts(Due due) {
        for (int mark = 0; mark <= 9; mark++) {
            KnowLocks x = due.told("hand a owner marks " + mark + " " + (9 - mark) + " " + mark + " 9 slip 0 trust 1;door o counts near 0;learn 2;");
            x.knock(0, 0, NO_SLIPS);
            for (int i = -1; i <= 40; i++) {
                boolean counted = i == mark || i == 10 + 9 - mark || i == 20 + mark || i == 39;
                due.is("mark " + mark + ", knows(0, " + i + ")", x.knows(0, i), i < 0 || i > 39 ? -1 : counted ? 2 : 0);
            }
        }
    }

    /** Promises 8 and 9: it opens if FAR is no more than near. */
    private static void nearOfSums(Due due) {
        for (String kind : new String[] {"mean", "cheap", "nervous"}) {
            KnowLocks x = due.told(BY_TRUST + "hand c dog marks 0 9 5 6 slip 0 trust 0;hand d dog marks 0 9 6 5 slip 0 trust 0;"
                + "door m " + kind + " near 99;");
            due.is(kind + " without weight", x.far(0, 0), -1);
            due.is(kind + " without weight is shut by 99", x.opens(0, 0, NO_SLIPS), 0);
            x.knock(0, 0, NO_SLIPS);
            due.is(kind + " far of the same", x.far(0, 0), 0);
            due.is("opens", x.opens(0, 0, NO_SLIPS), 1);
            x.knock(0, 1, NO_SLIPS);
            due.is("weight", x.knows(0, 4), 10);
            due.is("far of the first", x.far(0, 0), 1);
            due.is("far of the second", x.far(0, 1), 9);
            due.is("far 99", x.far(0, 3), 99);
            due.is("opens at 99", x.opens(0, 3, NO_SLIPS), 1);
            due.is("far 101", x.far(0, 4), 101);
            due.is("not beyond", x.opens(0, 4, NO_SLIPS), 0);
            x.near(0, 98);
            due.is("not at 98", x.opens(0, 3, NO_SLIPS), 0);
            x.near(0, 9);
            due.is("at 9", x.opens(0, 1, NO_SLIPS), 1);
            x.near(0, 8);
            due.is("not at 8", x.opens(0, 1, NO_SLIPS), 0);
            x.near(0, 1);
            due.is("at 1", x.opens(0, 0, NO_SLIPS), 1);
            x.near(0, 0);
            due.is("not at 0", x.opens(0, 0, NO_SLIPS), 0);
        }
        KnowLocks x = due.told(FIVE + "door m mean near 0;");
        x.knock(0, 0, NO_SLIPS);
        due.is("far 0 opens at 0", x.opens(0, 0, NO_SLIPS), 1);
    }

    /** Promise 8: by WEIGHT, cut. */
    private static void farIsCut(Due due) {
        KnowLocks x = due.told("hand a owner marks 5 5 5 5 slip 3 trust 2;hand b owner marks 5 5 5 6 slip 3 trust 1;door m mean near 0;learn trust;");
        x.knock(0, 0, NO_SLIPS);
        x.knock(0, 1, NO_SLIPS);
        due.is("10 * 1 / 3", x.far(0, 0), 3);
        due.is("10 * 2 / 3", x.far(0, 1), 6);
        x.near(0, 3);
        due.is("3 opens by 3", x.opens(0, 0, NO_SLIPS), 1);
        due.is("6 is shut by 3", x.opens(0, 1, NO_SLIPS), 0);
        x.near(0, 6);
        due.is("6 opens by 6, though it is more uncut", x.opens(0, 1, NO_SLIPS), 1);
        due.is("10 * (3 + 1) / 3 by a slip", x.opens(0, 0, NO_SLIPS + 1), 0);
        x.near(0, 13);
        due.is("13 opens by 13", x.opens(0, 0, NO_SLIPS + 1), 1);
        due.is("13 opens by 13, less", x.opens(0, 0, NO_SLIPS - 7), 1);
        x.near(0, 12);
        due.is("13 is shut by 12", x.opens(0, 0, NO_SLIPS + 1), 0);
        x = due.told("hand a owner marks 0 0 0 0 slip 0 trust 1;hand b dog marks 9 9 9 9 slip 0 trust 0;door m mean near 0;learn trust;");
        x.knock(0, 0, NO_SLIPS);
        due.is("the farthest", x.far(0, 1), 360);
    }

    private static void nearOfRows(Due due) {
        KnowLocks x = due.told("hand a owner marks 5 5 5 5 slip 3 trust 1;hand b dog marks 0 9 5 5 slip 0 trust 0;"
            + "hand c dog marks 0 9 4 5 slip 0 trust 0;hand d dog marks 5 6 5 4 slip 0 trust 0;door n nearest near 99;learn trust;");
        due.is("no row", x.far(0, 0), -1);
        due.is("no row is shut by 99", x.opens(0, 0, NO_SLIPS), 0);
        x.knock(0, 1, NO_SLIPS);
        due.is("a dog is no row", x.knows(0, 0), -1);
        x.knock(0, 0, NO_SLIPS);
        due.is("far 90", x.far(0, 1), 90);
        due.is("opens by 99", x.opens(0, 1, NO_SLIPS), 1);
        due.is("far 100", x.far(0, 2), 100);
        due.is("shut by 99", x.opens(0, 2, NO_SLIPS), 0);
        x.near(0, 20);
        due.is("20 opens by 20", x.opens(0, 3, NO_SLIPS), 1);
        x.near(0, 19);
        due.is("20 is shut by 19", x.opens(0, 3, NO_SLIPS), 0);
        x.near(0, 0);
        due.is("0 opens by 0", x.opens(0, 0, NO_SLIPS), 1);
        due.is("10 is shut by 0", x.opens(0, 0, NO_SLIPS + 1), 0);
        x.knock(0, 0, NO_SLIPS + 7);
        due.is("the least of two rows, the foremost", x.far(0, 3), 10);
        due.is("the least of two rows, the other", x.far(0, 0), 0);
        for (int i = 0; i < 4; i++) {
            x.knock(0, 0, NO_SLIPS + 3 * 49);
        }
        due.is("the least of six rows, the last", x.far(0, 0), 0);
        x.knock(0, 0, NO_SLIPS + 3 * 49);
        due.is("the seventh is gone", x.far(0, 0), 10);
        x.knock(0, 0, NO_SLIPS + 3 * 49);
        due.is("so is the one behind", x.far(0, 0), 30);
    }

    private static void nearOfCounts(Due due) {
        KnowLocks x = due.told("hand a owner marks 5 5 5 5 slip 1 trust 9;hand b owner marks 4 5 5 5 slip 0 trust 7;"
            + "hand z dog marks 5 5 5 5 slip 0 trust 0;door o counts near 0;learn trust;");
        due.is("0 is 0 at least", x.opens(0, 2, NO_SLIPS), 1);
        x.near(0, 1);
        due.is("0 is not 1 at least", x.opens(0, 2, NO_SLIPS), 0);
        x.knock(0, 0, NO_SLIPS);
        due.is("far 36", x.far(0, 2), 36);
        x.near(0, 36);
        due.is("36 is 36 at least", x.opens(0, 2, NO_SLIPS), 1);
        x.near(0, 37);
        due.is("36 is not 37 at least", x.opens(0, 2, NO_SLIPS), 0);
        due.is("27 by a slip", x.opens(0, 0, NO_SLIPS + 343), 0);
        x.near(0, 27);
        due.is("27 is 27 at least", x.opens(0, 0, NO_SLIPS + 343), 1);
        x.near(0, 28);
        due.is("27 is not 28 at least", x.opens(0, 0, NO_SLIPS - 343), 0);
        x.near(0, 99);
        x.knock(0, 0, NO_SLIPS);
        x.knock(0, 1, NO_SLIPS);
        due.is("far 93", x.far(0, 2), 93);
        due.is("93 is not 99 at least", x.opens(0, 2, NO_SLIPS), 0);
        x.knock(0, 0, NO_SLIPS);
        due.is("far 129", x.far(0, 2), 129);
        due.is("129 is 99 at least", x.opens(0, 2, NO_SLIPS), 1);
        x = due.told("hand a owner marks 5 5 5 5 slip 1 trust 9;hand z dog marks 5 5 5 5 slip 0 trust 0;door o counts near 99;learn trust;");
        for (int i = 0; i < 2; i++) {
            x.knock(0, 0, NO_SLIPS);
        }
        x.knock(0, 0, NO_SLIPS + 1);
        due.is("far 99", x.far(0, 1), 99);
        due.is("99 is 99 at least", x.opens(0, 1, NO_SLIPS), 1);
        x = due.told("hand a owner marks 5 5 5 5 slip 1 trust 9;hand b owner marks 5 5 6 6 slip 1 trust 1;hand c owner marks 5 5 5 6 slip 1 trust 8;"
            + "hand z dog marks 5 5 5 5 slip 0 trust 0;door o counts near 99;learn trust;");
        x.knock(0, 0, NO_SLIPS);
        x.knock(0, 0, NO_SLIPS);
        x.knock(0, 1, NO_SLIPS);
        x.knock(0, 2, NO_SLIPS);
        due.is("far 98", x.far(0, 3), 98);
        due.is("98 is not 99 at least", x.opens(0, 3, NO_SLIPS), 0);
    }

    /** 36 more by each midnight: 9,972 behind 277 of them. */
    private static void countsAtMost(Due due) {
        String quarter = FIVE + "door o counts near 0;door p mean near 0;door q mean near 0;door r nervous near 0;door s mean near 0;"
            + "street o p;street o q;street o r;street s o;gossip 9;learn 9;";
        KnowLocks x = due.told(quarter);
        for (int d = 1; d < 5; d++) {
            x.knock(d, 0, NO_SLIPS);
        }
        for (int i = 0; i < 6; i++) {
            x.hours(1000);
        }
        x.hours(277 * 24 - 6000);
        due.is("9,972", x.knows(0, 5), 9972);
        x.mark(0, false);
        x.knock(0, 0, NO_SLIPS);
        x.knock(0, 0, NO_SLIPS);
        due.is("9,990", x.knows(0, 15), 9990);
        x.knock(0, 0, NO_SLIPS);
        due.is("9,999", x.knows(0, 25), 9999);
        due.is("far of four times that", x.far(0, 0), 39996);
        x.knock(0, 0, NO_SLIPS);
        due.is("no more by a try", x.knows(0, 35), 9999);
        x.hours(24);
        due.is("no more by gossip", x.knows(0, 5), 9999);
        x.mark(0, true);
        x.hours(24);
        due.is("not 10,008 by gossip", x.knows(0, 5), 9999);
        x.mark(0, true);
        x.knock(0, 0, NO_SLIPS);
        x.knock(0, 0, NO_SLIPS);
        x.hours(23);
        due.is("9,990 ahead of midnight", x.knows(0, 5), 9990);
        x.hours(1);
        due.is("9,999 behind it", x.knows(0, 5), 9999);
    }

    private static void cheapByHalves(Due due) {
        int[] weights = {9, 4, 2, 1, 0, 0};
        int[] sums = {45, 22, 11, 5, 2, 1};
        KnowLocks x = due.told("hand a owner marks 5 5 5 0 slip 0 trust 1;door c cheap near 99;door m mean near 0;door v nervous near 0;learn 9;");
        x.knock(0, 0, NO_SLIPS);
        x.knock(1, 0, NO_SLIPS);
        x.knock(2, 0, NO_SLIPS);
        for (int day = 0; day < weights.length; day++) {
            due.is("weight of day " + day, x.knows(0, 4), weights[day]);
            due.is("sum of day " + day, x.knows(0, 0), sums[day]);
            due.is("a sum of 0", x.knows(0, 3), 0);
            due.is("it opens with weight alone, day " + day, x.opens(0, 0, NO_SLIPS), weights[day] > 0 ? 1 : 0);
            due.is("far with weight alone, day " + day, x.far(0, 0) >= 0, weights[day] > 0);
            x.hours(23);
            due.is("weight till midnight of day " + day, x.knows(0, 4), weights[day]);
            x.hours(1);
        }
        due.is("a mean one does not forget", x.knows(1, 4) * 100 + x.knows(1, 0), 945);
        due.is("a nervous one does not forget", x.knows(2, 4) * 100 + x.knows(2, 0), 945);
        x = due.told("hand a owner marks 5 5 5 0 slip 0 trust 1;door c cheap near 99;learn 9;");
        x.knock(0, 0, NO_SLIPS);
        x.hours(72);
        due.is("three midnights at once", x.knows(0, 4) * 100 + x.knows(0, 0), 105);
        due.is("far by what is left", x.far(0, 0), 0);
        x.knock(0, 0, NO_SLIPS);
        due.is("learnt upon it", x.knows(0, 4) * 100 + x.knows(0, 0), 1050);
        x = due.told("hand a owner marks 9 9 9 9 slip 0 trust 1;door c cheap near 99;learn 1+2*(day=0);");
        x.knock(0, 0, NO_SLIPS);
        x.hours(24);
        due.is("half of 27 by half of 3", x.knows(0, 4) * 100 + x.knows(0, 0), 113);
        due.is("far 10 * 4 * (13 - 9)", x.far(0, 0), 160);
        x.hours(24);
        x.knock(0, 0, NO_SLIPS);
        due.is("sums without weight count again", x.knows(0, 4) * 100 + x.knows(0, 0), 115);
    }

    private static void nervousAtThree(Due due) {
        String hands = "hand a owner marks 5 5 5 5 slip 0 trust 1;hand b dog marks 0 0 0 0 slip 0 trust 0;hand c child marks 0 0 0 0 slip 0 trust 0;"
            + "learn trust*(times=0);";
        KnowLocks x = due.told(hands + "door v nervous near 0;door m mean near 0;");
        for (int d = 0; d < 2; d++) {
            x.knock(d, 0, NO_SLIPS);
            x.knock(d, 1, NO_SLIPS);
            due.is("two times shut", x.door(d, 5), 2);
            due.is("it opens still", x.opens(d, 0, NO_SLIPS), 1);
            x.knock(d, 1, NO_SLIPS);
            due.is("three times shut", x.door(d, 5), 3);
            due.is("only the nervous one is startled", x.opens(d, 0, NO_SLIPS), d);
            due.is("a try is as asked", x.knock(d, 0, NO_SLIPS), d);
        }
        x.near(0, 99);
        due.is("no near helps", x.opens(0, 0, NO_SLIPS), 0);
        due.is("far is told", x.far(0, 0), 0);
        due.is("a child is let in", x.opens(0, 2, NO_SLIPS), 1);
        due.is("four times shut", x.door(0, 5), 4);
        x.knock(0, 2, NO_SLIPS);
        due.is("none since a child", x.door(0, 5), 0);
        due.is("till midnight", x.opens(0, 0, NO_SLIPS), 0);
        x.hours(23);
        due.is("in the last hour of the day", x.opens(0, 0, NO_SLIPS), 0);
        x.hours(1);
        due.is("from midnight on", x.opens(0, 0, NO_SLIPS), 1);
        due.is("none behind midnight", x.door(0, 5), 0);
        x.near(0, 0);
        x.knock(0, 1, NO_SLIPS);
        x.knock(0, 1, NO_SLIPS);
        x.hours(24);
        x.knock(0, 1, NO_SLIPS);
        due.is("two and one over midnight", x.opens(0, 0, NO_SLIPS), 1);
        x.knock(0, 1, NO_SLIPS);
        due.is("two of the new day", x.opens(0, 0, NO_SLIPS), 1);
        due.is("one that opens between", x.knock(0, 0, NO_SLIPS), 1);
        x.knock(0, 1, NO_SLIPS);
        x.knock(0, 1, NO_SLIPS);
        due.is("two behind it", x.opens(0, 0, NO_SLIPS), 1);
        x.knock(0, 2, NO_SLIPS);
        x.knock(0, 1, NO_SLIPS);
        x.knock(0, 1, NO_SLIPS);
        due.is("two behind a child", x.opens(0, 0, NO_SLIPS), 1);
        x.knock(0, 1, NO_SLIPS);
        due.is("three behind a child", x.opens(0, 0, NO_SLIPS), 0);
        due.is("what a startled one learns", x.knows(0, 4), 1);
        x.undo();
        due.is("undone", x.opens(0, 0, NO_SLIPS), 1);
        x = due.told(hands + "door v nervous near 0;");
        for (int i = 0; i < 3; i++) {
            x.knock(0, 1, NO_SLIPS);
        }
        x.hours(1);
        due.is("an hour is not midnight", x.door(0, 5), 3);
        x.knock(0, 0, NO_SLIPS);
        due.is("a startled one does not learn but by E", x.knows(0, 4), 0);
    }

    private static void childrenAndBanks(Due due) {
        String[] kinds = {"mean", "nearest", "counts", "cheap", "nervous", "bank"};
        for (int kind = 0; kind < 6; kind++) {
            for (int near = 0; near <= 99; near += 99) {
                KnowLocks x = due.told("hand c child marks 0 9 0 9 slip 3 trust 9;hand a owner marks 5 5 5 5 slip 0 trust 1;door d " + kinds[kind] + " near " + near + ";learn 3;");
                int lets = kind == 5 ? 0 : 1;
                due.is(kinds[kind] + " opens to a child", x.opens(0, 0, NO_SLIPS), lets);
                due.is(kinds[kind] + " opens to a child's slips", x.opens(0, 0, 0), lets);
                due.is(kinds[kind] + " lets a child in", x.knock(0, 0, 2400), lets);
                due.is(kinds[kind] + " does not learn a child", x.knows(0, 0), kind == 5 || kind == 1 ? -1 : 0);
                due.is(kinds[kind] + " has no weight of it", x.knows(0, 4), kind == 5 || kind == 1 ? -1 : 0);
                due.is(kinds[kind] + " counts the try", x.door(0, 2) * 10 + x.door(0, 3), 11);
                due.is(kinds[kind] + " far of a child", x.far(0, 0), kind == 2 ? 0 : -1);
                x.knock(0, 1, NO_SLIPS);
                due.is(kinds[kind] + " learns an owner, but a bank", x.far(0, 1), kind == 5 ? -1 : kind == 2 ? 12 : 0);
                due.is(kinds[kind] + " far of a child then", x.far(0, 0), kind == 5 ? -1 : kind == 2 ? 0 : 180);
                due.is(kinds[kind] + " opens to a child none the less", x.opens(0, 0, NO_SLIPS), lets);
            }
        }
    }

    /** Promises 9 and 10: a SLIP of each mark, no more than slip. */
    private static void slipsOfEachHand(Due due) {
        for (int slip = 0; slip <= 3; slip++) {
            String quarter = "hand a owner marks 4 4 4 4 slip " + slip + " trust 1;door n nearest near 0;";
            KnowLocks x = due.told(quarter);
            int tries = 0;
            for (int which = 0; which < 4; which++) {
                for (int by = -3; by <= 3; by++) {
                    boolean may = Math.abs(by) <= slip;
                    int slips = NO_SLIPS + by * SEVENS[which];
                    due.is("slip " + slip + ", opens by " + by, x.opens(0, 0, slips) >= 0, may);
                    due.is("slip " + slip + ", knock by " + by, x.knock(0, 0, slips) >= 0, may);
                    tries += may ? 1 : 0;
                    due.is("tries", x.door(0, 3), tries);
                    due.is("the mark felt", !may || x.knows(0, which) == 4 + by, true);
                    due.is("the next mark felt", x.knows(0, (which + 1) % 4) == 4 || !may, true);
                }
            }
            x = due.told(quarter);
            int all = 1 + 7 + 49 + 343;
            due.is("all by slip", x.opens(0, 0, NO_SLIPS + slip * all) >= 0, true);
            due.is("all by less slip", x.knock(0, 0, NO_SLIPS - slip * all) >= 0, true);
            for (int i = 0; i < 4; i++) {
                due.is("each less slip", x.knows(0, i), 4 - slip);
            }
            due.is("one of four beyond", x.opens(0, 0, NO_SLIPS + slip * all + 343) >= 0, false);
            due.is("one of four beyond, less", x.opens(0, 0, NO_SLIPS - slip * all - 1) >= 0, false);
        }
    }

    private static void slipsWithinNoughtAndNine(Due due) {
        for (int mark = 0; mark <= 9; mark++) {
            KnowLocks x = due.told("hand a owner marks " + mark + " 5 5 " + mark + " slip 3 trust 1;door n nearest near 0;");
            for (int by = -3; by <= 3; by++) {
                x.knock(0, 0, NO_SLIPS + by - by * 343);
                due.is(mark + " and " + by, x.knows(0, 0), Math.max(0, Math.min(9, mark + by)));
                due.is(mark + " less " + by, x.knows(0, 3), Math.max(0, Math.min(9, mark - by)));
            }
        }
        KnowLocks x = due.told("hand a owner marks 9 0 9 0 slip 3 trust 1;door n nearest near 0;");
        x.knock(0, 0, NO_SLIPS + 3 - 21 + 147 - 1029);
        due.is("no more than 9, no less than 0", x.far(0, 0), 0);
    }

    private static void slipsAsFigures(Due due) {
        KnowLocks x = due.told("hand a owner marks 4 4 4 4 slip 3 trust 1;hand b owner marks 4 4 4 4 slip 0 trust 1;door n nearest near 0;");
        for (int slips : new int[] {0, 1, 6, 7, 1199, 1200, 1201, 2399, 2400}) {
            int answer = x.knock(0, 0, slips);
            due.is("knock " + slips, answer >= 0, true);
            for (int i = 0; i < 4; i++) {
                due.is("figure " + i + " of " + slips, x.knows(0, i), 4 + slips / SEVENS[i] % 7 - 3);
            }
        }
        for (int slips : new int[] {-1, -7, -2401, 2401, 2402, 3601, Integer.MIN_VALUE, Integer.MAX_VALUE}) {
            due.is("opens " + slips, x.opens(0, 0, slips), -1);
            due.is("knock " + slips, x.knock(0, 0, slips), -1);
            due.is("opens without slip " + slips, x.opens(0, 1, slips), -1);
        }
        due.is("without slip but 1200", x.opens(0, 1, 1199) + x.opens(0, 1, 1201) + x.opens(0, 1, 0) + x.opens(0, 1, 2400), -4);
        due.is("nine tries", x.door(0, 3), 9);
    }

    /** Promise 11. */
    private static void nears(Due due) {
        KnowLocks x = due.told(FIVE + "door m mean near 0;door k bank near 99;door o counts near 50;");
        due.is("0, it is so", x.near(0, 0), false);
        due.is("99, it is so", x.near(1, 99), false);
        due.is("-1", x.near(0, -1), false);
        due.is("100", x.near(1, 100), false);
        due.is("the least int", x.near(0, Integer.MIN_VALUE), false);
        due.is("the greatest int", x.near(0, Integer.MAX_VALUE), false);
        due.is("nothing to undo yet", x.count(8), 0);
        due.is("all as told", x.door(0, 1) * 10000 + x.door(1, 1) * 100 + x.door(2, 1), 9950);
        due.is("1", x.near(0, 1), true);
        due.is("98", x.near(1, 98), true);
        due.is("0", x.near(2, 0), true);
        due.is("99", x.near(2, 99), true);
        due.is("told anew", x.door(0, 1) * 10000 + x.door(1, 1) * 100 + x.door(2, 1), 19899);
        due.is("four to undo", x.count(8), 4);
        due.is("no try", x.door(0, 3) + x.door(1, 3) + x.door(2, 3), 0);
        x.hours(24);
        due.is("it stays over midnight", x.door(0, 1), 1);
    }

    /** Promise 12: the last 16, and the one behind. */
    private static void undoSixteen(Due due) {
        for (int many : new int[] {0, 1, 15, 16, 17, 18, 33, 40}) {
            KnowLocks x = due.told(FIVE + "door m mean near 0;");
            for (int i = 0; i < many; i++) {
                due.is("can be undone behind " + i, x.count(8), Math.min(16, i));
                x.knock(0, 0, NO_SLIPS);
            }
            int left = Math.min(16, many);
            due.is("can be undone behind " + many, x.count(8), left);
            for (int i = 1; i <= left; i++) {
                due.is("undo " + i + " of " + many, x.undo(), true);
                due.is("tries left", x.door(0, 3), many - i);
                due.is("weight left", x.knows(0, 4), Math.max(0, 2 * (many - i) - 1));
                due.is("left to undo", x.count(8), left - i);
            }
            due.is("no more of " + many, x.undo(), false);
            due.is("tries that stay", x.door(0, 3), many - left);
        }
        KnowLocks x = due.told(FIVE + "door m mean near 0;");
        for (int i = 0; i < 20; i++) {
            x.knock(0, 0, NO_SLIPS);
        }
        for (int i = 0; i < 10; i++) {
            x.undo();
        }
        for (int i = 1; i <= 13; i++) {
            x.near(0, i);
        }
        due.is("sixteen of tries and nears", x.count(8), 16);
        for (int i = 12; i >= 0; i--) {
            x.undo();
            due.is("near undone", x.door(0, 1), i);
        }
        for (int i = 9; i >= 7; i--) {
            due.is("a try undone", x.undo(), true);
            due.is("tries", x.door(0, 3), i);
        }
        due.is("no more", x.undo(), false);
    }

    /** What each KIND knew, and all that is told of a door, comes back. */
    private static void undoOfAll(Due due) {
        String quarter = "hand a owner marks 1 2 3 4 slip 0 trust 1;hand c child marks 0 0 0 0 slip 0 trust 0;door m mean near 5;door n nearest near 5;"
            + "door o counts near 3;door s cheap near 5;door v nervous near 5;learn 2;";
        KnowLocks x = due.told(quarter);
        for (int d = 0; d < 5; d++) {
            for (int i = 0; i < 6; i++) {
                x.knock(d, 0, NO_SLIPS);
            }
            String ahead = all(x, d);
            x.knock(d, 0, NO_SLIPS);
            x.near(d, 77);
            x.knock(d, 1, NO_SLIPS);
            x.undo();
            x.undo();
            x.undo();
            String behind = all(x, d);
            due.is("as ahead: " + ahead + " and " + behind, ahead.equals(behind), true);
        }
        x = due.told(quarter);
        x.knock(4, 0, NO_SLIPS);
        x.undo();
        x.near(3, 6);
        x.knock(1, 0, NO_SLIPS);
        due.is("of two doors the last first", x.undo(), true);
        due.is("the row is gone", x.knows(1, 0), -1);
        due.is("the near is not", x.door(3, 1), 6);
        x.undo();
        due.is("now it is", x.door(3, 1), 5);
    }

    private static String all(KnowLocks x, int d) {
        StringBuilder told = new StringBuilder();
        for (int what = 0; what < 6; what++) {
            told.append(x.door(d, what)).append(' ');
        }
        int many = x.door(d, 0) == 1 ? 24 : x.door(d, 0) == 2 ? 40 : 5;
        for (int i = 0; i < many; i++) {
            told.append(x.knows(d, i)).append(' ');
        }
        return told.toString();
    }

    private static void whatTakesUndoAway(Due due) {
        String quarter = FIVE + "hand b owner marks 0 0 0 0 slip 0 trust 1;door m mean near 0;door n mean near 0;";
        KnowLocks x = due.told(quarter);
        x.knock(0, 0, NO_SLIPS);
        x.near(0, 9);
        due.is("hours refused: 0", x.hours(0), -1);
        due.is("hours refused: 1,001", x.hours(1001), -1);
        due.is("a try refused", x.knock(0, 2, NO_SLIPS), -1);
        due.is("a near refused", x.near(0, 9), false);
        due.is("a mark that is none", x.mark(4, false), false);
        due.is("no going back", x.mark(2, true), false);
        due.is("a mark laid", x.mark(0, false), true);
        due.history(x, "try a m shut;");
        due.faultOfHistory(x, 2, "try @x m shut;");
        due.faultOfQuarter(x, 1, "@x");
        x.opens(0, 0, NO_SLIPS);
        x.patience(0, 0);
        x.unseen(0, 1);
        x.judged();
        due.is("two are left by all these", x.count(8), 2);
        due.is("undo", x.undo(), true);
        due.is("near as told", x.door(0, 1), 0);
        due.is("the history stays", x.count(6), 1);
        due.is("back to the mark", x.mark(0, true), true);
        due.is("none when one is gone back to", x.count(8), 0);
        due.is("no undo", x.undo(), false);
        due.is("near as marked", x.door(0, 1), 9);
        x.knock(0, 0, NO_SLIPS);
        x.hours(1);
        due.is("none when an hour passed", x.count(8), 0);
        due.is("no undo then", x.undo(), false);
        due.is("the try stays", x.door(0, 3), 2);
        x.knock(1, 0, NO_SLIPS);
        due.is("those since the hour began", x.count(8), 1);
        due.quarter(x, quarter);
        due.is("none in a new quarter", x.count(8), 0);
        due.is("no undo in it", x.undo(), false);
    }

    /** Promise 13. */
    private static void hoursAndMidnight(Due due) {
        for (int many : new int[] {1, 2, 23, 24, 25, 47, 48, 49, 999, 1000}) {
            KnowLocks x = due.told(FIVE + "door m mean near 0;");
            due.is("hours(" + many + ")", x.hours(many), many);
            due.is("the hour behind " + many, x.count(3), many % 24);
            due.is("the day behind " + many, x.count(4), many / 24);
            due.is("and one", x.hours(1), many + 1);
            due.is("the hour", x.count(3), (many + 1) % 24);
            due.is("the day", x.count(4), (many + 1) / 24);
        }
        for (int many : new int[] {0, -1, -24, 1001, 1024, Integer.MIN_VALUE, Integer.MAX_VALUE}) {
            KnowLocks x = due.told(FIVE + "door m mean near 0;");
            due.is("hours(" + many + ")", x.hours(many), -1);
            due.is("no hour has passed", x.count(3) + x.count(4), 0);
        }
        KnowLocks x = new KnowLocks();
        due.is("without a quarter", x.hours(1000), 1000);
        due.is("and more", x.hours(1000), 2000);
        due.is("its day", x.count(4), 83);
        x = due.told(FIVE + "door m mean near 0;");
        x.hours(23);
        x.knock(0, 0, NO_SLIPS);
        due.is("a try in the last hour", x.door(0, 2), 1);
        x.hours(1);
        due.is("none in the first", x.door(0, 2), 0);
        x.knock(0, 0, NO_SLIPS);
        x.hours(23);
        due.is("one till the last hour", x.door(0, 2), 1);
        due.is("quarter: hour 0 of day 0", due.told("").hours(1), 1);
    }

    private static void lawsByTheHour(Due due) {
        KnowLocks x = due.told("hand a owner marks 5 5 5 5 slip 0 trust 1;door m mean near 0;door n nearest near 0;learn 2*(hour=23)+5*(day=1 and hour=0);"
            + "feel mark+(hour=23)-(hour=0)*(day=1)*2;");
        x.hours(22);
        x.knock(0, 0, NO_SLIPS);
        due.is("hour 22", x.knows(0, 4), 0);
        x.hours(1);
        x.knock(0, 0, NO_SLIPS);
        due.is("hour 23", x.knows(0, 4) * 100 + x.knows(0, 0), 212);
        x.hours(1);
        x.knock(0, 0, NO_SLIPS);
        due.is("hour 0 of day 1", x.knows(0, 4) * 100 + x.knows(0, 0), 727);
        x.hours(1);
        x.knock(0, 0, NO_SLIPS);
        due.is("hour 1", x.knows(0, 4), 7);
        x = due.told("hand a owner marks 5 5 5 5 slip 0 trust 1;door o counts near 0;learn times;");
        int[] counts = {0, 1, 3, 6};
        for (int i = 0; i < 4; i++) {
            x.knock(0, 0, NO_SLIPS);
            due.is("times ahead of try " + i, x.knows(0, 5), counts[i]);
        }
        x.hours(24);
        x.knock(0, 0, NO_SLIPS);
        due.is("times from midnight on", x.knows(0, 5), 6);
        x = due.told("hand a owner marks 5 5 5 5 slip 0 trust 1;hand b owner marks 5 5 5 6 slip 0 trust 1;door m mean near 0;door o counts near 0;"
            + "door n nearest near 0;learn far+2;");
        x.knock(0, 0, NO_SLIPS);
        due.is("far of no weight is -1", x.knows(0, 4), 1);
        x.knock(0, 1, NO_SLIPS);
        due.is("far 10, and 2", x.knows(0, 4), 10);
        x.knock(1, 0, NO_SLIPS);
        due.is("far of no counts is 0", x.knows(1, 5), 2);
        x.knock(1, 0, NO_SLIPS);
        due.is("far 8, and 2", x.knows(1, 5), 11);
        x = due.told("hand a owner marks 5 5 5 5 slip 0 trust 1;door n nearest near 0;learn far<0;");
        x.knock(0, 0, NO_SLIPS);
        x.knock(0, 0, NO_SLIPS);
        due.is("far of no rows is -1, then 0", x.knows(0, 3) * 10 + x.knows(0, 4), 49);
    }

    private static void gossipOfNoneAndNine(Due due) {
        String doors = "door m mean near 0;door n nearest near 0;door o counts near 0;door k bank near 0;";
        String streets = "street m n;street m o;street m k;";
        for (int gossip = 0; gossip <= 9; gossip++) {
            KnowLocks x = due.told(FIVE + doors + streets + "gossip " + gossip + ";");
            x.knock(0, 0, NO_SLIPS);
            x.knock(3, 0, NO_SLIPS);
            x.hours(23);
            due.is("not ahead of midnight", x.knows(2, 5), 0);
            x.hours(1);
            due.is("counts by gossip " + gossip, x.knows(2, 5), gossip);
            due.is("a row by gossip " + gossip, x.knows(1, 0), gossip > 0 ? 5 : -1);
            due.is("one row at most by gossip " + gossip, x.knows(1, 4), -1);
            due.is("the bank knows nothing", x.knows(3, 0), -1);
            due.is("who tells is told nothing", x.knows(0, 4), 1);
            due.is("no try by gossip", x.door(2, 3) + x.door(1, 3), 0);
            x.hours(24);
            due.is("the day after both tell it back", x.knows(0, 4), gossip > 0 ? 1 + 2 * gossip : 1);
            due.is("another row", x.knows(1, 4), gossip > 0 ? 5 : -1);
        }
        KnowLocks x = due.told(FIVE + doors + streets);
        x.knock(0, 0, NO_SLIPS);
        x.hours(24);
        due.is("gossip not told is 0", x.count(5) + x.knows(2, 5), 0);
        x = due.told(FIVE + doors + "gossip 9;");
        x.knock(0, 0, NO_SLIPS);
        x.hours(48);
        due.is("without a street", x.knows(2, 5), 0);
        due.is("none of who knows nothing", x.knows(0, 4), 1);
    }

    /** Of each mark that of the greatest count, the least such. */
    private static void gossipOfCounts(Due due) {
        for (int one = 0; one <= 9; one++) {
            int other = 9 - one;
            KnowLocks x = due.told("hand a owner marks " + one + " " + one + " 0 9 slip 0 trust 1;hand b owner marks " + other + " " + one
                + " 9 0 slip 0 trust 2;door o counts near 0;door m mean near 0;street m o;gossip 1;learn trust;");
            x.knock(0, 0, NO_SLIPS);
            x.mark(0, false);
            x.hours(24);
            due.is("the one mark " + one, x.knows(1, 0) * 10 + x.knows(1, 1), 11 * one);
            due.is("0 and 9", x.knows(1, 2) * 10 + x.knows(1, 3), 9);
            x.mark(0, true);
            x.knock(0, 1, NO_SLIPS);
            x.hours(24);
            due.is("the greater count " + other, x.knows(1, 0) * 10 + x.knows(1, 1), 10 * other + one);
            due.is("9 and 0", x.knows(1, 2) * 10 + x.knows(1, 3), 90);
            x.mark(0, true);
            x.knock(0, 0, NO_SLIPS);
            x.knock(0, 1, NO_SLIPS);
            x.hours(24);
            due.is("the least of equal counts", x.knows(1, 0), Math.min(one, other));
            due.is("0 of 0 and 9", x.knows(1, 2) + x.knows(1, 3), 0);
            due.is("once", x.knows(1, 4), 1);
        }
        for (int mark = 0; mark < 9; mark++) {
            KnowLocks x = due.told("hand a owner marks " + mark + " " + mark + " 9 9 slip 1 trust 1;door o counts near 0;door m mean near 0;street m o;gossip 1;learn 1;");
            x.knock(0, 0, NO_SLIPS + 1);
            x.knock(0, 0, NO_SLIPS + 7);
            x.hours(24);
            due.is("the least of " + mark + " and the next", x.knows(1, 0) * 10 + x.knows(1, 1), 11 * mark);
        }
        KnowLocks x = due.told(FIVE + "door o counts near 0;door m mean near 0;street m o;gossip 1;learn 0;");
        x.knock(0, 0, NO_SLIPS);
        x.hours(24);
        due.is("no count is above 0", x.knows(1, 4), 0);
    }

    private static void gossipOfSums(Due due) {
        String doors = "door c cheap near 0;door m mean near 0;door v nervous near 0;door o counts near 0;street c o;street m o;street v o;gossip 1;";
        int[] told = {9, 4, 4};
        for (int d = 0; d < 3; d++) {
            KnowLocks x = due.told("hand a owner marks 9 4 5 0 slip 0 trust 2;hand b owner marks 9 5 4 1 slip 0 trust 1;" + doors + "learn trust;");
            x.knock(d, 0, NO_SLIPS);
            x.knock(d, 1, NO_SLIPS);
            x.hours(24);
            if (d == 0) {
                due.is("27 by halves is 13 by 1: 9", x.knows(3, 9), 1);
                due.is("13 by halves is 6 by 1", x.knows(3, 16), 1);
                due.is("14 by halves is 7 by 1", x.knows(3, 27), 1);
                due.is("1 by halves is 0", x.knows(3, 30), 1);
            } else {
                due.is("27 by 3", x.knows(3, told[0]), 1);
                due.is("13 by 3, cut", x.knows(3, 10 + told[1]), 1);
                due.is("14 by 3, cut", x.knows(3, 20 + told[2]), 1);
                due.is("1 by 3, cut", x.knows(3, 30), 1);
            }
        }
        KnowLocks x = due.told(FIVE + doors);
        x.knock(0, 0, NO_SLIPS);
        x.hours(24);
        due.is("a cheap one of weight 1 has forgotten ahead of gossip", x.far(3, 0), 0);
        due.is("its sums are left", x.knows(0, 0), 2);
    }

    /** Both tell by what they know ahead of it, street by street as told, the first door's telling first. */
    private static void gossipAhead(Due due) {
        String hands = "hand a owner marks 1 1 1 1 slip 0 trust 1;hand b owner marks 2 2 2 2 slip 0 trust 1;hand c owner marks 3 3 3 3 slip 0 trust 1;";
        String doors = "door p nearest near 0;door q nearest near 0;door r nearest near 0;";
        String[] streets = {"street p q;street q r;street r p;", "street r p;street q r;street p q;", "street q p;street r q;street p r;"};
        int[][] foremost = {{32, 31, 12}, {23, 13, 21}, {32, 31, 12}};
        for (int i = 0; i < streets.length; i++) {
            KnowLocks x = due.told(hands + doors + streets[i] + "gossip 1;");
            for (int d = 0; d < 3; d++) {
                x.knock(d, d, NO_SLIPS);
            }
            x.hours(24);
            for (int d = 0; d < 3; d++) {
                due.is("two rows more, the last told ahead, door " + d + " of " + i, x.knows(d, 0) * 10 + x.knows(d, 4), foremost[i][d]);
                due.is("its own behind", x.knows(d, 8), d + 1);
                due.is("three rows", x.knows(d, 12), -1);
            }
        }
        KnowLocks x = due.told(hands + "door p mean near 0;door q mean near 0;street p q;gossip 9;");
        x.knock(0, 0, NO_SLIPS);
        x.knock(1, 1, NO_SLIPS);
        x.hours(24);
        due.is("p learns what q knew", x.knows(0, 0) * 100 + x.knows(0, 4), 1910);
        due.is("q learns what p knew", x.knows(1, 0) * 100 + x.knows(1, 4), 1110);
        x = due.told(hands + "door p mean near 0;door q mean near 0;door r mean near 0;street p q;street q r;gossip 1;");
        x.knock(0, 0, NO_SLIPS);
        x.hours(24);
        due.is("not two streets in a night", x.knows(1, 4) * 10 + x.knows(2, 4), 10);
        x.hours(24);
        due.is("the night after", x.knows(2, 4), 1);
        x = due.told(hands + "door p mean near 0;door k bank near 0;door r mean near 0;street p k;street k r;gossip 9;");
        x.knock(0, 0, NO_SLIPS);
        x.knock(1, 0, NO_SLIPS);
        x.hours(72);
        due.is("a bank tells nothing on", x.knows(2, 4), 0);
        due.is("nor back", x.knows(0, 4), 1);
    }

    /** Each of five doors, of each kind that tells, is heard by all others; who is told nothing has nothing to tell. */
    private static void gossipFromEachPlace(Due due) {
        String streets = "street p q;street p r;street p s;street p t;street q r;street q s;street q t;street r s;street r t;street s t;";
        String[] kinds = {"mean", "nearest", "counts", "cheap", "nervous"};
        for (String kind : kinds) {
            for (int place = 0; place < 5; place++) {
                StringBuilder text = new StringBuilder("hand a owner marks 6 7 8 9 slip 0 trust 1;");
                for (int d = 0; d < 5; d++) {
                    text.append("door ").append((char) ('p' + d)).append(' ').append(d == place ? kind : "nearest").append(" near 0;");
                }
                KnowLocks x = due.told(text + streets + "gossip 1;learn 4;");
                x.knock(place, 0, NO_SLIPS);
                x.hours(24);
                for (int d = 0; d < 5; d++) {
                    for (int i = 0; i < 4 && d != place; i++) {
                        due.is("mark " + i + " told by " + kind + " " + place + " to " + d, x.knows(d, i), 6 + i);
                    }
                    due.is("one row, " + kind + " " + place + " and " + d, d == place || x.knows(d, 4) == -1, true);
                }
            }
        }
    }
}
