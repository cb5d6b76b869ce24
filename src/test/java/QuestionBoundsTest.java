import java.util.NoSuchElementException;

/** Promises 14 to 28 at their bounds, both sides of each. */
public final class QuestionBoundsTest {
    private static final int NO_SLIPS = 1200;
    private static final int[] SEVENS = {1, 7, 49, 343};
    private static final String FIVE = "hand a owner marks 5 5 5 5 slip 0 trust 1;";
    private static final String CHILD = "hand c child marks 0 0 0 0 slip 0 trust 0;";

    public static void main(String[] args) {
        Due due = new Due();
        patience(due);
        unseenByGuard(due);
        unseenWithin(due);
        breaksByEachChoice(due);
        breaksWithinFour(due);
        defenceByTries(due);
        defenceByNears(due);
        chances(due);
        bestNears(due);
        bestTogether(due);
        streetWithin(due);
        streetFromEachHour(due);
        judgedFirstAndLast(due);
        fitsByKinds(due);
        fitsByOneDoor(due);
        tells(due);
        tellsByOne(due);
        taken(due);
        apart(due);
        trained(due);
        rests(due);
        restsByPatience(due);
        yearsWithin(due);
        yearsByDays(due);
        theLastOfAll(due);
        due.end();
    }

    /** Promise 14: 1 the first, 99 at most. */
    private static void patience(Due due) {
        for (int tries : new int[] {2, 3, 50, 98, 99, 100, 101}) {
            KnowLocks x = due.told(FIVE + "door o counts near 4;learn times=" + (tries - 2) + ";");
            due.is("the try that opens is " + tries, x.patience(0, 0), tries <= 99 ? tries : -1);
            due.is("again", x.patience(0, 0), tries <= 99 ? tries : -1);
            x = due.told(FIVE + "door o counts near 4;learn times=" + (tries + 3) + ";");
            for (int i = 0; i < 5; i++) {
                x.knock(0, 0, NO_SLIPS);
            }
            due.is("with five tries made it is " + tries, x.patience(0, 0), tries <= 99 ? tries : -1);
        }
        KnowLocks x = due.told(FIVE + CHILD + "door m mean near 0;door k bank near 99;door o counts near 0;door v nervous near 0;learn hour;");
        due.is("a child at once", x.patience(0, 1), 1);
        due.is("not at a bank", x.patience(1, 1), -1);
        due.is("near 0 of counts at once", x.patience(2, 0), 1);
        due.is("no hour passes", x.patience(0, 0), -1);
        x.hours(1);
        due.is("in the next hour", x.patience(0, 0), 2);
        due.is("nervous", x.patience(3, 0), 2);
        x = due.told(FIVE + CHILD + "door v nervous near 0;door m mean near 0;learn times=2;");
        due.is("three shut are too many", x.patience(0, 0), -1);
        due.is("for a nervous one alone", x.patience(1, 0), 4);
        due.is("a child never minds", x.patience(0, 1), 1);
        x.knock(0, 0, NO_SLIPS);
        x.hours(24);
        due.is("not one behind the other over midnight", x.patience(0, 0), -1);
        x = due.told(FIVE + "door v nervous near 0;learn times=1;");
        due.is("two shut are not", x.patience(0, 0), 3);
        x.knock(0, 0, NO_SLIPS);
        due.is("one of them made", x.patience(0, 0), 2);
        x.knock(0, 0, NO_SLIPS);
        due.is("both made", x.patience(0, 0), 1);
    }

    /** Promise 15: none in the HOURS of guard, both ends too. */
    private static void unseenByGuard(Due due) {
        int[][] guards = {{0, 0}, {23, 23}, {0, 22}, {1, 23}, {0, 23}, {5, 8}, {12, 12}, {22, 23}, {0, 1}};
        for (int[] guard : guards) {
            KnowLocks x = due.told(CHILD + FIVE + "door m mean near 0;guard " + guard[0] + " to " + guard[1] + ";");
            for (int hour = 0; hour < 24; hour++) {
                int behind = 0;
                while (behind < 24 && (hour + behind) % 24 >= guard[0] && (hour + behind) % 24 <= guard[1]) {
                    behind++;
                }
                due.is("guard " + guard[0] + " to " + guard[1] + ", hour " + hour, x.unseen(0, 0), behind == 24 ? -1 : behind);
                x.hours(1);
            }
        }
        KnowLocks x = due.told(FIVE + "door o counts near 8;guard 1 to 22;");
        due.is("a try ahead of guard, two behind", x.unseen(0, 0), 24);
        x.hours(23);
        due.is("hours 23, 0 and 23", x.unseen(0, 0), 24);
        x = due.told(FIVE + "door o counts near 8;guard 2 to 23;");
        due.is("hours 0, 1 and 0", x.unseen(0, 0), 24);
        x.hours(1);
        due.is("hours 1, 0 and 1", x.unseen(0, 0), 24);
        x.hours(1);
        due.is("from within guard: hours 0, 1 and 0", x.unseen(0, 0), 46);
    }

    /** Promise 15: within 240, of which now is 0. */
    private static void unseenWithin(Due due) {
        for (int start : new int[] {0, 1, 23}) {
            for (int behind : new int[] {1, 2, 24, 239, 240, 241, 242}) {
                int hour = start + behind - 1;
                KnowLocks x = due.told(FIVE + "door o counts near 4;door m mean near 0;door n nearest near 0;learn hour=" + hour % 24 + " and day=" + hour / 24 + ";");
                if (start > 0) {
                    x.hours(start);
                }
                for (int d = 0; d < 3; d++) {
                    due.is("from hour " + start + " door " + d + " opens behind " + behind, x.unseen(d, 0), behind <= 240 ? behind : -1);
                }
            }
        }
        KnowLocks x = due.told(FIVE + "door o counts near 4;guard 0 to 0;learn hour=23 and day=9;");
        due.is("no try in hour 240, which is guarded", x.unseen(0, 0), -1);
        x = due.told(FIVE + "door o counts near 4;guard 1 to 1;learn hour=23 and day=9;");
        due.is("a try in hour 240", x.unseen(0, 0), 240);
        x = due.told(FIVE + CHILD + "door o counts near 0;door k bank near 0;");
        due.is("now", x.unseen(0, 0), 0);
        due.is("a child now", x.unseen(0, 1), 0);
        due.is("a bank never", x.unseen(1, 0), -1);
        due.is("not even a child", x.unseen(1, 1), -1);
        x = due.told(FIVE + "door v nervous near 0;learn times=1 and day=1;");
        due.is("shut till midnight, then two more", x.unseen(0, 0), 26);
        x = due.told(FIVE + "door s cheap near 0;learn (day=0)*(hour=23);");
        due.is("forgotten at midnight", x.unseen(0, 0), -1);
        x = due.told(FIVE + "door s cheap near 0;learn (day=0)*(hour=22);");
        due.is("not forgotten an hour ahead of it", x.unseen(0, 0), 23);
        x = due.told(FIVE + "door s cheap near 0;learn (day=0)*(hour=23)*2;");
        due.is("half forgotten", x.unseen(0, 0), 24);
    }

    /** Promise 16: each of the nine choices, where it alone helps. */
    private static void breaksByEachChoice(Due due) {
        for (int slip = 0; slip <= 3; slip++) {
            String quarter = "hand a owner marks 5 5 5 5 slip " + slip + " trust 1;hand b twin a slip 3 trust 1;door m mean near 0;learn 1;";
            for (int choice = 0; choice <= 8; choice++) {
                KnowLocks x = due.told(quarter);
                int by = choice == 0 ? 0 : (choice % 2 == 1 ? -1 : 1) * SEVENS[(choice - 1) / 2];
                if (choice > 0) {
                    x.knock(0, 1, NO_SLIPS - by);
                }
                boolean can = slip > 0 || choice == 0;
                due.is("slip " + slip + ": by choice " + choice, x.breaks(0, 0, -1), can ? 2 : -1);
                due.is("the choice " + choice, x.breaks(0, 0, 0), can ? choice : -1);
                due.is("none in the last", x.breaks(0, 0, 1), -1);
            }
            KnowLocks x = due.told(quarter);
            x.knock(0, 1, NO_SLIPS - 2 * 49);
            due.is("slip " + slip + ": by 1 alone, twice", x.breaks(0, 0, -1), slip > 0 ? 3 : -1);
            due.is("the first of both", x.breaks(0, 0, 0), slip > 0 ? 6 : -1);
            due.is("the second of both", x.breaks(0, 0, 1), slip > 0 ? 6 : -1);
            x.undo();
            x.knock(0, 1, NO_SLIPS - 3 + 1);
            x.knock(0, 1, NO_SLIPS - 7);
            due.is("slip " + slip + ": three tries ahead of the last", x.breaks(0, 0, -1), slip > 0 ? 4 : -1);
            due.is("the first row of them", x.breaks(0, 0, 0) * 100 + x.breaks(0, 0, 1) * 10 + x.breaks(0, 0, 2), slip > 0 ? 224 : -111);
            x.knock(0, 1, NO_SLIPS - 343);
            due.is("four would be too many", x.breaks(0, 0, -1), -1);
        }
        KnowLocks x = due.told("hand a owner marks 0 9 0 9 slip 1 trust 1;hand b owner marks 1 8 1 8 slip 0 trust 1;door m mean near 0;door n nearest near 0;learn 1;");
        due.is("less than 0 is 0: none is chosen", x.breaks(0, 0, 0), 0);
        due.is("nor by rows", x.breaks(1, 0, 0), 0);
    }

    private static void breaksWithinFour(Due due) {
        String hand = "hand a owner marks 5 5 5 5 slip 1 trust 1;" + CHILD;
        for (int near = 0; near <= 20; near++) {
            KnowLocks x = due.told(hand + "door o counts near " + near + ";learn 1;");
            int many = 1 + (near + 3) / 4;
            due.is("counts of near " + near, x.breaks(0, 0, -1), many <= 4 ? many : -1);
            for (int i = 0; i < 5; i++) {
                due.is("near " + near + ", the choice of try " + i, x.breaks(0, 0, i) >= 0, many <= 4 && i < many - 1);
            }
        }
        KnowLocks x = due.told(hand + "door m mean near 0;door k bank near 0;door o counts near 12;learn 1;");
        due.is("beyond by far", x.breaks(2, 0, Integer.MAX_VALUE), -1);
        due.is("below by far", x.breaks(2, 0, Integer.MIN_VALUE), -1);
        due.is("-2", x.breaks(2, 0, -2), -1);
        due.is("a bank", x.breaks(1, 0, -1), -1);
        due.is("a child at a bank", x.breaks(1, 1, -1), -1);
        due.is("a child", x.breaks(0, 1, -1), 1);
        due.is("no choice of it", x.breaks(0, 1, 0), -1);
        x.knock(0, 0, NO_SLIPS);
        due.is("now", x.breaks(0, 0, -1), 1);
        x = due.told(hand + "door v nervous near 0;door m mean near 0;learn times=2;");
        due.is("four at a mean one", x.breaks(1, 0, -1), 4);
        due.is("a nervous one is startled by three", x.breaks(0, 0, -1), -1);
        x = due.told(hand + "door m mean near 0;learn hour;");
        due.is("all in this hour", x.breaks(0, 0, -1), -1);
        x.hours(1);
        due.is("in the next one", x.breaks(0, 0, -1), 2);
        x = due.told(hand + "door o counts near 5;learn 1;");
        due.is("a slip of the first is worse: the row of none", x.breaks(0, 0, 0) + x.breaks(0, 0, 1), 0);
        x = due.told("hand a owner marks 5 5 5 5 slip 1 trust 1;hand b owner marks 5 5 5 5 slip 0 trust 1;door m mean near 20;learn 1;");
        x.knock(0, 1, NO_SLIPS);
        due.is("it opens by one", x.breaks(0, 0, -1), 1);
    }

    /** Promise 17: 1 to 20 tries. */
    private static void defenceByTries(Due due) {
        KnowLocks x = due.told(FIVE + CHILD + "door o counts near 50;door k bank near 7;door m mean near 3;");
        for (int tries = 1; tries <= 20; tries++) {
            due.is("counts learn 4 by each but the last, the first of them shut, " + tries, x.defence(0, 0, tries), 4 * (tries - 1) + 1);
            due.is("a bank, " + tries, x.defence(1, 0, tries), 99);
            due.is("a bank and a child, " + tries, x.defence(1, 1, tries), 99);
            due.is("a child, " + tries, x.defence(2, 1, tries), -1);
            due.is("a mean one, " + tries, x.defence(2, 0, tries), tries == 1 ? 99 : -1);
        }
        for (int tries : new int[] {0, 21, -1, 22, 99, Integer.MIN_VALUE, Integer.MAX_VALUE}) {
            due.is("counts within " + tries, x.defence(0, 0, tries), -1);
            due.is("a bank within " + tries, x.defence(1, 0, tries), -1);
        }
        due.is("the near stays", x.door(0, 1) * 100 + x.door(2, 1), 5003);
        x = due.told(FIVE + "door o counts near 0;learn 5*(times<4)+4*(times=4)+times*0;");
        due.is("80 behind four tries, the fifth shut by 81", x.defence(0, 0, 5), 81);
        due.is("96 behind five tries", x.defence(0, 0, 6), 97);
        x = due.told(FIVE + "door m mean near 0;learn times=19;");
        due.is("learnt by the 20th alone", x.defence(0, 0, 20), 99);
        x = due.told(FIVE + "door m mean near 0;learn times=18;");
        due.is("learnt by the 19th", x.defence(0, 0, 20), -1);
        due.is("not within 19", x.defence(0, 0, 19), 99);
    }

    /** Promise 17: the weakest near: of counts the least, else the greatest. */
    private static void defenceByNears(Due due) {
        String hands = "hand a owner marks 5 5 5 5 slip 3 trust 9;hand b owner marks 5 5 5 6 slip 3 trust 1;hand c dog marks 0 9 5 6 slip 0 trust 0;"
            + "hand d dog marks 0 9 6 5 slip 0 trust 0;learn trust;";
        for (String kind : new String[] {"mean", "cheap", "nervous"}) {
            KnowLocks x = due.told(hands + "door m " + kind + " near 50;");
            due.is("without weight", x.defence(0, 2, 1), 99);
            x.knock(0, 0, NO_SLIPS);
            due.is("far 0: no near does", x.defence(0, 0, 1), -1);
            x.knock(0, 1, NO_SLIPS);
            due.is("far 1", x.defence(0, 0, 1), 0);
            due.is("far 9", x.defence(0, 1, 1), 8);
            due.is("far 99", x.defence(0, 2, 1), 98);
            due.is("far 101", x.defence(0, 3, 1), 99);
            due.is("it does not learn a dog", x.defence(0, 2, 20), 98);
        }
        KnowLocks x = due.told("hand a owner marks 5 5 5 5 slip 1 trust 9;hand b owner marks 5 5 6 6 slip 1 trust 1;hand c owner marks 5 5 5 6 slip 1 trust 8;"
            + "hand z dog marks 5 5 5 5 slip 0 trust 0;door o counts near 50;learn trust;");
        due.is("far 0 of counts", x.defence(0, 3, 20), 1);
        x.knock(0, 0, NO_SLIPS);
        x.knock(0, 0, NO_SLIPS);
        x.knock(0, 1, NO_SLIPS);
        x.mark(0, false);
        x.knock(0, 2, NO_SLIPS);
        due.is("far 98 of counts", x.defence(0, 3, 1), 99);
        x.mark(0, true);
        x.knock(0, 0, NO_SLIPS + 1);
        due.is("far 101 of counts", x.defence(0, 3, 1), -1);
        x = due.told(hands + "door v nervous near 50;");
        x.knock(0, 0, NO_SLIPS);
        for (int i = 0; i < 3; i++) {
            x.knock(0, 3, NO_SLIPS);
        }
        due.is("a startled one", x.defence(0, 0, 20), 99);
    }

    /** Promise 18: above and below, in lowest terms. */
    private static void chances(Due due) {
        int[] sides = {1, 3, 5, 7};
        for (int slip = 0; slip <= 3; slip++) {
            int all = sides[slip] * sides[slip] * sides[slip] * sides[slip];
            KnowLocks x = due.told("hand a owner marks 4 4 4 4 slip " + slip + " trust 1;hand b owner marks 0 9 0 9 slip " + slip + " trust 1;"
                + "hand c child marks 4 4 4 4 slip " + slip + " trust 1;door n nearest near 0;door m mean near 99;door k bank near 99;door o counts near 0;");
            is(due, x, 0, 0, 0, 1);
            is(due, x, 1, 0, 0, 1);
            is(due, x, 0, 2, 1, 1);
            is(due, x, 2, 0, 0, 1);
            is(due, x, 2, 2, 0, 1);
            is(due, x, 3, 0, 1, 1);
            x.knock(0, 0, NO_SLIPS);
            is(due, x, 0, 0, 1, all);
            x.near(0, 10);
            int[][] nine = {{1, 1}, {1, 9}, {9, 625}, {9, 2401}};
            is(due, x, 0, 0, nine[slip][0], nine[slip][1]);
            x.near(0, 99);
            int[][] most = {{1, 1}, {1, 1}, {1, 1}, {2161, 2401}};
            is(due, x, 0, 0, most[slip][0], most[slip][1]);
            x.near(0, 0);
            x.knock(0, 1, NO_SLIPS);
            int side = slip + 1;
            due.is("as many slips below 0 and beyond 9 are felt as none: above", x.chance(0, 1, 0), side * side * side * side);
            due.is("and below", x.chance(0, 1, 1), all);
        }
        KnowLocks x = due.told("hand a owner marks 5 5 5 5 slip 1 trust 1;door n nearest near 0;learn 1;feel mark*(which<3);");
        x.knock(0, 0, NO_SLIPS);
        is(due, x, 0, 0, 1, 27);
        due.is("chance(.., 2)", x.chance(0, 0, 2), -1);
        due.is("chance(.., -1)", x.chance(0, 0, -1), -1);
        x = due.told("hand a owner marks 5 5 5 5 slip 1 trust 1;hand z dog marks 0 0 0 0 slip 0 trust 1;" + CHILD + "door v nervous near 99;learn trust;");
        x.knock(0, 0, NO_SLIPS);
        x.knock(0, 1, NO_SLIPS);
        is(due, x, 0, 0, 1, 1);
        due.is("best, not startled", x.best(0, 0, 1, 0), 40);
        x.knock(0, 1, NO_SLIPS);
        is(due, x, 0, 0, 0, 1);
        is(due, x, 0, 2, 1, 1);
        due.is("best, startled", x.best(0, 0, 1, 0), 0);
        due.is("shut to both", x.best(0, 0, 1, 1) * 10 + x.best(0, 0, 1, 2), 11);
        due.is("shut to the one, open to a child", x.best(0, 0, 2, 1) * 10 + x.best(0, 0, 2, 2), 21);
        x.hours(24);
        is(due, x, 0, 0, 1, 1);
    }

    /** Each question asked of the last door and the last hands, where the first would answer otherwise. */
    private static void theLastOfAll(Due due) {
        KnowLocks x = due.told("hand z dog marks 9 9 9 9 slip 0 trust 9;hand y dog marks 0 0 0 0 slip 0 trust 9;hand a owner marks 5 5 5 5 slip 1 trust 1;"
            + "hand b maid marks 5 5 5 7 slip 1 trust 1;door k bank near 0;door o counts near 0;door p mean near 30;door q mean near 9;street p q;gossip 1;learn trust;");
        x.knock(3, 2, NO_SLIPS);
        due.is("patience", x.patience(3, 2), 1);
        due.is("patience of the other: 20 by 1, 6 by 3", x.patience(3, 3), 2);
        due.is("unseen of the other", x.unseen(3, 3), 1);
        due.is("breaks", x.breaks(3, 3, -1), 2);
        due.is("without a slip", x.breaks(3, 3, 0), 0);
        due.is("breaks of the mean one", x.breaks(2, 3, -1), 2);
        due.is("defence", x.defence(3, 3, 1), 19);
        is(due, x, 3, 2, 1, 81);
        is(due, x, 3, 3, 0, 1);
        due.is("best", x.best(3, 2, 1, 0), 40);
        due.is("street of who comes no nearer than 10", x.street(3, 2, 3), -1);
        due.is("street to the mean one", x.street(2, 3, 2), 1);
        due.is("a hand that is not learnt", x.street(0, 3, 2), -1);
        due.is("taken", x.taken(2, 3), 2);
        due.is("apart", x.apart(3, 2, 3), 8);
        due.is("apart at the counts", x.apart(1, 2, 3), -1);
        due.is("trained", x.trained(3, 3, 1, -1) * 10 + x.trained(3, 3, 1, 0), 13);
        due.is("rests: the maid is shut out by 10, so by 20 and more", x.rests(3, -1), 8 + 8);
        due.is("the first of them", x.rests(3, 0), 220);
        due.is("rests of the mean one: all but the dogs", x.rests(2, -1), 18);
        due.is("its first", x.rests(2, 0), 210);
        x = due.told("hand a owner marks 5 5 5 5 slip 0 trust 1;hand b maid marks 5 5 5 5 slip 0 trust 1;door m mean near 0;door o counts near 0;learn 9;");
        due.is("both pay by each near, the owner teaches none to let the maid in", x.rests(1, -1), 4);
        due.is("of 80 and 90", x.rests(1, 0) * 1000 + x.rests(1, 3), 80190);
        x = due.told("hand z dog marks 5 5 5 5 slip 0 trust 9;hand a owner marks 5 5 5 5 slip 0 trust 1;door k bank near 0;door p mean near 0;door q mean near 0;"
            + "street p q;gossip 1;learn trust;");
        due.is("street of the hand that is learnt", x.street(1, 1, 2), 1);
        due.is("back", x.street(1, 2, 1), 1);
        due.is("street of the hand that is not", x.street(0, 1, 2), -1);
        x = due.told("hand z dog marks 9 9 9 9 slip 3 trust 9;hand a owner marks 5 5 5 5 slip 1 trust 1;door k bank near 0;door m mean near 0;learn trust;");
        x.knock(1, 1, NO_SLIPS + 7);
        due.is("breaks by the hand that slips", x.breaks(1, 1, -1), 2);
        due.is("its second mark less", x.breaks(1, 1, 0), 3);
    }

    private static void is(Due due, KnowLocks x, int door, int hand, int above, int below) {
        due.is("chance(" + door + ", " + hand + ", 0)", x.chance(door, hand, 0), above);
        due.is("chance(" + door + ", " + hand + ", 1)", x.chance(door, hand, 1), below);
    }

    /** Promise 19: nears 0 to 99, of equal ones the least. */
    private static void bestNears(Due due) {
        String hands = "hand a owner marks 5 5 5 5 slip 3 trust 9;hand b owner marks 5 5 5 6 slip 3 trust 1;hand c dog marks 0 9 5 6 slip 0 trust 0;"
            + "hand d dog marks 0 9 6 5 slip 0 trust 0;hand e dog marks 5 5 5 5 slip 0 trust 0;hand f dog marks 5 5 5 6 slip 0 trust 0;learn trust;";
        KnowLocks x = due.told(hands + "door m mean near 50;");
        due.is("without weight each near is as bad", x.best(0, 2, 3, 0), 0);
        due.is("all shut: 1", x.best(0, 2, 3, 1) * 10 + x.best(0, 2, 3, 2), 11);
        x.knock(0, 0, NO_SLIPS);
        x.knock(0, 1, NO_SLIPS);
        due.is("99 and 101: near 99", x.best(0, 2, 3, 0), 99);
        due.is("none is wrong", x.best(0, 2, 3, 1) * 10 + x.best(0, 2, 3, 2), 1);
        due.is("101 and 99: near 0", x.best(0, 3, 2, 0), 0);
        due.is("1 and 9: near 1", x.best(0, 4, 5, 0), 1);
        due.is("9 and 1: near 0, the first is shut out", x.best(0, 5, 4, 0), 0);
        due.is("together 1", x.best(0, 5, 4, 1) * 10 + x.best(0, 5, 4, 2), 11);
        due.is("one and the same", x.best(0, 4, 4, 0), 0);
        due.is("1 of one and the same", x.best(0, 4, 4, 1) * 10 + x.best(0, 4, 4, 2), 11);
        x = due.told("hand a owner marks 5 5 5 5 slip 1 trust 9;hand b owner marks 5 5 6 6 slip 1 trust 1;hand c owner marks 5 5 5 6 slip 1 trust 8;"
            + "hand y dog marks 5 5 5 6 slip 0 trust 0;hand z dog marks 5 5 5 5 slip 0 trust 0;door o counts near 50;learn trust;");
        due.is("counts of 0 both: near 0 opens to both, 1 to none", x.best(0, 3, 4, 0), 0);
        x.knock(0, 0, NO_SLIPS);
        x.knock(0, 0, NO_SLIPS);
        x.knock(0, 0, NO_SLIPS);
        due.is("108 and 81: near 82", x.best(0, 4, 3, 0), 82);
        due.is("none is wrong of counts", x.best(0, 4, 3, 1) * 10 + x.best(0, 4, 3, 2), 1);
        due.is("81 and 108: near 0", x.best(0, 3, 4, 0), 0);
        x.undo();
        x.knock(0, 1, NO_SLIPS);
        x.knock(0, 2, NO_SLIPS);
        due.is("98 and 81 or so: the near behind the other", x.best(0, 4, 3, 0), x.far(0, 3) + 1);
        x = due.told("hand a owner marks 5 5 5 5 slip 1 trust 9;hand y twin a slip 0 trust 0;hand z dog marks 0 5 5 5 slip 0 trust 0;door o counts near 50;learn trust;");
        x.knock(0, 0, NO_SLIPS);
        x.knock(0, 0, NO_SLIPS);
        x.knock(0, 0, NO_SLIPS);
        x.knock(0, 0, NO_SLIPS + 1);
        x.knock(0, 0, NO_SLIPS - 1);
        due.is("far of the other is 135", x.far(0, 2), 135);
        due.is("no near keeps 135 out", x.best(0, 1, 2, 0), 0);
        due.is("1 by it", x.best(0, 1, 2, 1) * 10 + x.best(0, 1, 2, 2), 11);
    }

    private static void bestTogether(Due due) {
        KnowLocks x = due.told("hand a owner marks 5 5 5 5 slip 1 trust 1;hand b dog marks 5 5 5 8 slip 0 trust 1;" + CHILD
            + "door m mean near 10;door k bank near 4;door n nearest near 1;");
        due.is("shut to the one, open to a child: 2 by 1", x.best(0, 1, 2, 1) * 10 + x.best(0, 1, 2, 2), 21);
        due.is("near of it", x.best(0, 1, 2, 0), 0);
        due.is("two children", x.best(0, 2, 2, 1) * 10 + x.best(0, 2, 2, 2), 11);
        due.is("a child and who is shut out: none wrong", x.best(0, 2, 1, 1) * 10 + x.best(0, 2, 1, 2), 1);
        due.is("a bank is shut to both", x.best(1, 2, 2, 1) * 10 + x.best(1, 2, 2, 2), 11);
        x.knock(2, 0, NO_SLIPS);
        due.is("rows of 10 and 30: near 20 and 1 by 1 less", x.best(2, 0, 1, 0), 20);
        due.is("33 of 81 are let in by 20: above", x.best(2, 0, 1, 1), 16);
        due.is("below", x.best(2, 0, 1, 2), 27);
        for (int what : new int[] {-1, 3, -2, Integer.MIN_VALUE, Integer.MAX_VALUE}) {
            due.is("best(.., " + what + ")", x.best(2, 0, 1, what), -1);
        }
        due.is("the near stays", x.door(2, 1), 1);
    }

    /** Promise 20: within 30 midnights, of which now is 0. */
    private static void streetWithin(Due due) {
        for (int behind : new int[] {1, 2, 29, 30, 31, 32}) {
            KnowLocks x = due.told(FIVE + "door p counts near 9;door q counts near 4;street p q;gossip 1;learn day=" + (behind - 1) + ";");
            due.is("midnights: " + behind, x.street(0, 0, 1), behind <= 30 ? behind : -1);
            x.hours(7);
            x.knock(0, 0, NO_SLIPS);
            x.hours(24 * behind - 7);
            due.is("it came so: " + behind, x.knows(1, 5), behind == 1 ? 1 : 0);
        }
        KnowLocks x = due.told(FIVE + CHILD + "hand b dog marks 0 0 0 0 slip 0 trust 9;door p mean near 0;door q mean near 0;door r mean near 0;door s mean near 0;door k bank near 0;"
            + "street p q;street q r;street r s;street s k;gossip 1;learn 1;");
        due.is("the next", x.street(0, 0, 1), 1);
        due.is("the next but one", x.street(0, 0, 2), 2);
        due.is("the next but two", x.street(0, 0, 3), 3);
        due.is("a bank never", x.street(0, 0, 4), -1);
        due.is("from a bank never", x.street(0, 4, 3), -1);
        due.is("back", x.street(0, 3, 0), 3);
        due.is("the same", x.street(0, 2, 2), -1);
        due.is("a child, now", x.street(1, 0, 1), 0);
        due.is("a child at a bank", x.street(1, 0, 4), -1);
        x.knock(1, 0, NO_SLIPS);
        due.is("now", x.street(0, 0, 1), 0);
        due.is("by the other's telling", x.street(0, 0, 2), 1);
        x = due.told(FIVE + "door p mean near 0;door q mean near 0;street p q;learn 1;");
        due.is("gossip 0", x.street(0, 0, 1), -1);
        x = due.told(FIVE + "door p mean near 0;door q mean near 0;gossip 9;learn 1;");
        due.is("no street", x.street(0, 0, 1), -1);
        x = due.told(FIVE + "hand b dog marks 0 0 0 0 slip 0 trust 9;door p mean near 0;door v nervous near 0;street p v;gossip 1;learn trust;");
        x.knock(1, 0, NO_SLIPS);
        for (int i = 0; i < 3; i++) {
            x.knock(1, 1, NO_SLIPS);
        }
        due.is("a startled one opens at midnight", x.street(0, 0, 1), 1);
    }

    private static void streetFromEachHour(Due due) {
        for (int hour = 0; hour < 24; hour++) {
            KnowLocks x = due.told(FIVE + "door p mean near 0;door q mean near 0;street p q;gossip 1;learn hour=0;");
            KnowLocks y = due.told(FIVE + "door p mean near 0;door q mean near 0;street p q;gossip 1;learn 0<hour;");
            KnowLocks z = due.told(FIVE + "door p counts near 0;door q counts near 8;street p q;gossip 1;learn times=1;");
            if (hour > 0) {
                x.hours(hour);
                y.hours(hour);
                z.hours(hour);
            }
            due.is("learnt in the first hour alone, from hour " + hour, x.street(0, 0, 1), hour == 0 ? 1 : 2);
            due.is("learnt now alone, from hour " + hour, y.street(0, 0, 1), hour == 0 ? -1 : 1);
            due.is("once each day, from hour " + hour, z.street(0, 0, 1), -1);
            z.knock(0, 0, NO_SLIPS);
            due.is("with a try made now, from hour " + hour, z.street(0, 0, 1), 2);
            due.is("no hour passed", z.count(3), hour);
        }
    }

    /** Promise 21: numbers from 0, nights are none of them. */
    private static void judgedFirstAndLast(Due due) {
        String quarter = FIVE + "door m mean near 0;door k bank near 0;learn 1;";
        for (int wrong = 0; wrong < 24; wrong++) {
            KnowLocks x = due.told(quarter);
            StringBuilder text = new StringBuilder();
            for (int i = 0; i < 24; i++) {
                boolean opens = i > 0;
                text.append("try a m ").append(opens == (i != wrong) ? "opened;" : "shut;").append(i % 2 == 1 ? "night;" : "");
            }
            due.history(x, text.toString());
            due.is("the try " + wrong, x.judged(), wrong);
        }
        KnowLocks x = due.told(quarter);
        due.is("no history", x.judged(), -1);
        due.history(x, "night;".repeat(12));
        due.is("nights alone", x.judged(), -1);
        due.history(x, "try a m shut;" + "try a m opened;".repeat(23));
        due.is("all 24 as told", x.judged(), -1);
        due.history(x, "try a k shut;".repeat(23) + "try a k opened;");
        due.is("the last of a bank", x.judged(), 23);
        due.history(x, "try a m shut;try a m shut;try a m shut;try a m opened;");
        due.is("the first of two", x.judged(), 1);
        x = due.told(FIVE + "door o counts near 4;learn day=12 and hour=0;");
        due.history(x, "night;".repeat(11) + "try a o shut;night;try a o shut;try a o opened;");
        due.is("behind the twelfth night", x.judged(), -1);
        x.hours(50);
        x.knock(0, 0, NO_SLIPS);
        x.near(0, 99);
        due.is("from the quarter as told", x.judged(), -1);
        due.is("what was told stays", x.count(3) * 100 + x.count(4), 202);
        x = due.told(FIVE + "door s cheap near 0;learn 1+hour;");
        due.history(x, "try a s shut;try a s opened;night;try a s opened;night;night;try a s shut;");
        due.is("nights halve", x.judged(), -1);
        x = due.told(FIVE + "hand z dog marks 0 0 0 0 slip 3 trust 0;door v nervous near 0;learn trust;");
        due.history(x, "try a v shut;try z v shut;try z v shut;try a v shut;night;try a v opened;");
        due.is("a night calms", x.judged(), -1);
        due.history(x, "try a v shut;try z v shut;try a v opened;try z v shut;try z v shut;try a v opened;");
        due.is("two do not startle", x.judged(), -1);
    }

    /** Promise 22: nears 0 to 99, KINDS 0 to 4. */
    private static void fitsByKinds(Due due) {
        KnowLocks x = due.told(FIVE + CHILD + "door k bank near 7;door m mean near 3;learn 1;");
        for (int kind = 0; kind < 5; kind++) {
            fit(due, x, 0, kind, 100, 0, 99);
        }
        for (int kind : new int[] {-1, 5, 6, Integer.MIN_VALUE, Integer.MAX_VALUE}) {
            due.is("kind " + kind, x.fits(0, kind, 0), -1);
        }
        for (int what : new int[] {-1, 3, Integer.MIN_VALUE, Integer.MAX_VALUE}) {
            due.is("what " + what, x.fits(0, 0, what), -1);
        }
        due.history(x, "try a k shut;");
        fit(due, x, 0, 0, 100, 0, 99);
        fit(due, x, 0, 2, 99, 1, 99);
        due.history(x, "try a k opened;");
        fit(due, x, 0, 0, -1, -1, -1);
        fit(due, x, 0, 2, 1, 0, 0);
        due.history(x, "try c k shut;");
        for (int kind = 0; kind < 5; kind++) {
            fit(due, x, 0, kind, -1, -1, -1);
        }
        due.history(x, "try a k opened;try a k shut;");
        fit(due, x, 0, 2, -1, -1, -1);
        x = due.told(FIVE + "hand b dog marks 5 5 5 6 slip 0 trust 0;hand e dog marks 0 9 5 5 slip 0 trust 0;hand f dog marks 0 9 4 5 slip 0 trust 0;"
            + "door m mean near 3;door n counts near 0;learn trust;");
        due.history(x, "try a m shut;try f m opened;");
        fit(due, x, 0, 0, -1, -1, -1);
        due.history(x, "try a m shut;try f m shut;");
        fit(due, x, 0, 1, 100, 0, 99);
        due.history(x, "try a m shut;try e m opened;");
        fit(due, x, 0, 1, 10, 90, 99);
        due.history(x, "try a m shut;try e m opened;try b m shut;");
        fit(due, x, 0, 1, -1, -1, -1);
        due.history(x, "try a m shut;try b m shut;");
        fit(due, x, 0, 3, 10, 0, 9);
        due.history(x, "try a m shut;try b m opened;try e m shut;");
        fit(due, x, 0, 0, 80, 10, 89);
        fit(due, x, 0, 4, 80, 10, 89);
        due.history(x, "try a m shut;night;try a m shut;");
        fit(due, x, 0, 3, 100, 0, 99);
        fit(due, x, 0, 0, -1, -1, -1);
        due.history(x, "try a m shut;try e m shut;try e m shut;try a m shut;");
        fit(due, x, 0, 4, 90, 0, 89);
        fit(due, x, 0, 0, -1, -1, -1);
        x.near(0, 77);
        x.hours(99);
        fit(due, x, 0, 4, 90, 0, 89);
        due.is("its kind and near stay", x.door(0, 0) * 100 + x.door(0, 1), 77);
    }

    /** Promise 22: tries of the other doors teach by gossip, but need not be as told. */
    private static void fitsByOneDoor(Due due) {
        KnowLocks x = due.told(FIVE + "door p mean near 0;door q mean near 0;street p q;gossip 1;learn 1;");
        due.history(x, "try a p opened;night;try a q opened;");
        due.is("not as told", x.judged(), 0);
        fit(due, x, 1, 0, 100, 0, 99);
        fit(due, x, 1, 1, 100, 0, 99);
        fit(due, x, 1, 2, 5, 0, 4);
        fit(due, x, 0, 0, -1, -1, -1);
        fit(due, x, 0, 2, 1, 0, 0);
        due.history(x, "try a p shut;night;try a q shut;");
        fit(due, x, 1, 0, -1, -1, -1);
        fit(due, x, 1, 2, 95, 5, 99);
        fit(due, x, 0, 0, 100, 0, 99);
    }

    private static void fit(Due due, KnowLocks x, int door, int kind, int many, int least, int greatest) {
        due.is("fits(" + door + ", " + kind + ", 0)", x.fits(door, kind, 0), many);
        due.is("fits(" + door + ", " + kind + ", 1)", x.fits(door, kind, 1), least);
        due.is("fits(" + door + ", " + kind + ", 2)", x.fits(door, kind, 2), greatest);
    }

    /** Promise 23: of equal ones the first; none that parts nothing. */
    private static void tells(Due due) {
        KnowLocks x = due.told(CHILD + FIVE + "hand b twin a slip 0 trust 0;hand d dog marks 5 5 5 6 slip 0 trust 0;door m mean near 0;door k bank near 0;learn trust;");
        due.is("counts of near 0 against 499", x.tells(0), 1);
        due.is("a bank's door", x.tells(1), 1);
        due.history(x, "try a m shut;");
        due.is("of 499 all but 95 open to a, all but 136 to d", x.tells(0), 3);
        due.history(x, "try a m shut;try d m shut;");
        due.is("of 136 41 open to a, none to d", x.tells(0), 1);
        due.history(x, "try a m shut;try d m opened;");
        due.is("all 363 open to a and d", x.tells(0), -1);
        due.history(x, "try a m opened;try a m shut;");
        due.is("nothing fits", x.tells(0), -1);
        due.history(x, "try c m shut;");
        due.is("nothing fits who shuts a child out", x.tells(0), -1);
        due.is("another door is not tried", x.tells(1), 1);
        x = due.told(CHILD + "door m mean near 0;");
        due.is("a child parts nothing", x.tells(0), -1);
        x = due.told("door m mean near 0;");
        due.is("no hand", x.tells(0), -1);
        x = due.told("hand b dog marks 5 5 5 6 slip 0 trust 0;hand d dog marks 5 5 5 7 slip 0 trust 0;hand e dog marks 5 5 5 8 slip 0 trust 0;"
            + "hand f dog marks 5 5 5 9 slip 0 trust 0;hand g dog marks 5 5 4 9 slip 0 trust 0;hand h dog marks 5 5 9 9 slip 0 trust 0;"
            + "hand a owner marks 5 5 5 5 slip 0 trust 1;door m mean near 0;learn trust;");
        due.history(x, "try a m shut;");
        due.is("of 499 four times 60 and 3 open to f", x.tells(0), 3);
        due.history(x, "try a m shut;night;night;night;");
        due.is("cheap ones have forgotten all: of 499 three times 80 and 3 open to d", x.tells(0), 1);
    }

    /** Promise 23: of 499 that fit, 4 * (100 - 10 * far) and the counts open; each near from 0 to 99 once. */
    private static void tellsByOne(Due due) {
        String hands = "hand a owner marks 5 5 5 5 slip 0 trust 1;hand b dog marks 5 5 5 7 slip 0 trust 0;hand d dog marks 3 3 4 4 slip 0 trust 0;door m mean near 0;";
        KnowLocks x = due.told(hands + "learn 6*trust;");
        due.history(x, "try a m shut;");
        due.is("161 that do not open to b against 160 that do to d", x.tells(0), 1);
        x = due.told(hands + "learn 7*trust;");
        due.history(x, "try a m shut;");
        due.is("158 that do not open to b against 160 that do to d", x.tells(0), 2);
        x = due.told(hands + "learn 0;");
        due.history(x, "try a m shut;");
        due.is("none opens to any", x.tells(0), -1);
        due.history(x, "try a m opened;");
        due.is("the one that fits opens to all", x.tells(0), -1);
        x = due.told("hand a owner marks 5 5 5 5 slip 0 trust 1;hand b dog marks 5 5 5 6 slip 0 trust 0;hand e dog marks 0 9 5 5 slip 0 trust 0;"
            + "hand f dog marks 5 5 5 8 slip 0 trust 0;hand g dog marks 0 7 5 5 slip 0 trust 0;door m mean near 0;learn trust;");
        due.history(x, "try a m shut;try b m opened;try e m shut;");
        due.is("of 321 80 do not open to f, 80 do to g: the first", x.tells(0), 3);
    }

    /** Promise 24. */
    private static void taken(Due due) {
        KnowLocks x = due.told(FIVE + "hand b dog marks 5 5 5 6 slip 3 trust 0;" + CHILD + "hand d child marks 1 1 1 1 slip 0 trust 0;door m mean near 10;door n nearest near 10;door o counts near 3;"
            + "door s cheap near 10;door v nervous near 10;");
        due.is("none yet", x.taken(0, 1), 0);
        due.is("two children by all", x.taken(2, 3), 31);
        due.is("a child and who is not known", x.taken(0, 2), 0);
        for (int d = 0; d < 5; d++) {
            x.knock(d, 0, NO_SLIPS);
            due.is("known by " + (d + 1) + " doors", x.taken(0, 1), (2 << d) - 1);
            due.is("the other way", x.taken(1, 0), (2 << d) - 1);
            due.is("by a child, too", x.taken(2, 0), (2 << d) - 1);
        }
        for (int d = 0; d < 5; d++) {
            x.near(d, d == 2 ? 4 : 9);
            due.is("but door " + d, x.taken(0, 1), 31 - (2 << d) + 1);
        }
        due.is("the same hand", x.taken(0, 0), -1);
        due.is("the same child", x.taken(2, 2), -1);
        due.is("a hand behind the last", x.taken(0, 4), -1);
        due.is("a hand ahead of the first", x.taken(-1, 0), -1);
        x = due.told(CHILD + "hand d child marks 1 1 1 1 slip 0 trust 0;door k bank near 99;door m mean near 0;");
        due.is("not by a bank", x.taken(0, 1), 2);
        x = due.told(CHILD + FIVE);
        due.is("no doors", x.taken(0, 1), 0);
    }

    /** Promise 25: none at all to all four, of equal ones the least set. */
    private static void apart(Due due) {
        KnowLocks x = due.told("hand a owner marks 0 0 0 0 slip 0 trust 1;hand b dog marks 1 2 3 4 slip 0 trust 0;hand d dog marks 4 3 2 1 slip 0 trust 0;"
            + "hand e dog marks 2 2 2 2 slip 0 trust 0;" + CHILD + "hand f twin a slip 0 trust 0;door n nearest near 0;door k bank near 0;door m mean near 0;learn trust;");
        due.is("it does not open to the first", x.apart(0, 0, 1), -1);
        due.is("a child first: none at all", x.apart(0, 4, 1), 0);
        x.knock(0, 0, NO_SLIPS);
        x.knock(2, 0, NO_SLIPS);
        int[] nears = {0, 9, 10, 19, 20, 29, 30, 39, 40, 49, 50, 59, 60, 69, 70, 79, 80, 89, 90, 99};
        int[] ofB = {1, 1, 2, 2, 4, 4, 8, 8, 6, 6, 10, 10, 12, 12, 13, 13, 14, 14, 15, 15};
        int[] ofD = {1, 1, 1, 1, 1, 1, 1, 1, 3, 3, 3, 3, 3, 3, 7, 7, 7, 7, 15, 15};
        int[] ofE = {1, 1, 1, 1, 3, 3, 3, 3, 7, 7, 7, 7, 15, 15, 15, 15, -1, -1, -1, -1};
        for (int i = 0; i < nears.length; i++) {
            for (int door = 0; door < 3; door += 2) {
                x.near(door, nears[i]);
                due.is("1 2 3 4 by near " + nears[i], x.apart(door, 0, 1), ofB[i]);
                due.is("4 3 2 1 by near " + nears[i], x.apart(door, 0, 2), ofD[i]);
                due.is("2 2 2 2 by near " + nears[i], x.apart(door, 0, 3), ofE[i]);
                due.is("the same marks", x.apart(door, 0, 5), -1);
                due.is("the same hand", x.apart(door, 0, 0), -1);
                due.is("a child second", x.apart(door, 0, 4), -1);
            }
        }
        due.is("a bank", x.apart(1, 0, 1), -1);
        due.is("a bank and a child", x.apart(1, 4, 1), -1);
        x = due.told("hand c child marks 7 7 7 7 slip 0 trust 0;hand a owner marks 7 7 7 7 slip 0 trust 1;door n nearest near 0;learn trust;feel mark*(which=2);");
        x.knock(0, 1, NO_SLIPS);
        due.is("a child of the same marks", x.apart(0, 0, 1), -1);
        x = due.told("hand c child marks 7 7 1 7 slip 0 trust 0;hand a owner marks 7 7 7 7 slip 0 trust 1;hand b owner marks 0 0 0 0 slip 0 trust 1;door n nearest near 0;learn trust;feel mark*(which=2);");
        x.knock(0, 1, NO_SLIPS);
        due.is("as a child is felt it is shut to another", x.apart(0, 0, 1), 0);
        due.is("the one mark that is felt", x.apart(0, 1, 2), 4);
    }

    /** Promise 26: 1 to 4 tries. */
    private static void trained(Due due) {
        String hands = "hand b dog marks 5 5 5 8 slip 1 trust 1;" + FIVE + CHILD;
        for (int near = 0; near <= 20; near++) {
            KnowLocks x = due.told(hands + "door o counts near " + near + ";learn trust;");
            int many = (near + 3) / 4;
            boolean can = near > 3 * many && many <= 4;
            due.is("counts of near " + near, x.trained(0, 1, 0, -1), can ? many : -1);
            for (int i = 0; i < 6; i++) {
                boolean tried = can && i < many;
                due.is("near " + near + ", try " + i, x.trained(0, 1, 0, i) >= 0, tried);
            }
            if (near == 16) {
                due.is("four of the one", x.trained(0, 1, 0, 0) * 1000 + x.trained(0, 1, 0, 1) * 100 + x.trained(0, 1, 0, 2) * 10 + x.trained(0, 1, 0, 3), 1111);
            }
            if (near == 12) {
                due.is("three of the one", x.trained(0, 1, 0, 0) * 100 + x.trained(0, 1, 0, 1) * 10 + x.trained(0, 1, 0, 2), 111);
            }
        }
        KnowLocks x = due.told(hands + "door m mean near 0;door k bank near 0;learn trust;");
        for (int what : new int[] {-2, 1, 2, 4, Integer.MIN_VALUE, Integer.MAX_VALUE}) {
            due.is("trained(.., " + what + ")", x.trained(0, 1, 0, what), -1);
        }
        due.is("not the dog, which it can't learn", x.trained(0, 0, 1, -1), -1);
        due.is("the same", x.trained(0, 1, 1, -1), -1);
        due.is("the same child", x.trained(0, 2, 2, -1), -1);
        due.is("the same, its tries", x.trained(0, 2, 2, 0), -1);
        due.is("not to keep a child out", x.trained(0, 1, 2, -1), -1);
        due.is("a child and who is not known: one try, the first hand's", x.trained(0, 2, 1, -1) * 10 + x.trained(0, 2, 1, 0), 10);
        due.is("a bank", x.trained(1, 1, 0, -1), -1);
        due.is("a bank and a child", x.trained(1, 2, 0, -1), -1);
        x.knock(0, 1, NO_SLIPS);
        due.is("one try at least", x.trained(0, 1, 0, -1) * 10 + x.trained(0, 1, 0, 0), 10);
        x = due.told("hand a owner marks 5 5 5 5 slip 0 trust 1;hand b owner marks 7 5 5 5 slip 0 trust 1;hand d owner marks 6 5 5 5 slip 0 trust 1;door m mean near 0;learn trust;");
        due.is("for the mark between: itself", x.trained(0, 2, 0, -1) * 10 + x.trained(0, 2, 0, 0), 12);
        x.knock(0, 0, NO_SLIPS);
        due.is("one try makes a mean", x.trained(0, 2, 0, -1) * 10 + x.trained(0, 2, 0, 0), 11);
        x.knock(0, 0, NO_SLIPS);
        due.is("two tries, the first row", x.trained(0, 2, 0, -1) * 100 + x.trained(0, 2, 0, 0) * 10 + x.trained(0, 2, 0, 1), 211);
        x = due.told("hand z dog marks 0 0 0 0 slip 0 trust 0;hand y dog marks 0 0 0 1 slip 0 trust 0;hand a owner marks 5 5 5 5 slip 0 trust 1;door v nervous near 0;learn trust*(times=3);");
        due.is("three shut startle it", x.trained(0, 2, 0, -1), -1);
        x = due.told("hand z dog marks 0 0 0 0 slip 0 trust 0;hand y dog marks 0 0 0 1 slip 0 trust 0;hand a owner marks 5 5 5 5 slip 0 trust 1;door v mean near 0;learn trust*(times=3);");
        due.is("not a mean one", x.trained(0, 2, 0, -1), 4);
        due.is("any three, then the one", x.trained(0, 2, 0, 0) * 1000 + x.trained(0, 2, 0, 1) * 100 + x.trained(0, 2, 0, 2) * 10 + x.trained(0, 2, 0, 3), 2);
        x = due.told("hand a owner marks 5 5 5 5 slip 0 trust 1;hand z dog marks 0 0 0 0 slip 0 trust 0;door m mean near 0;learn hour;");
        due.is("all in this hour", x.trained(0, 0, 1, -1), -1);
    }

    /** Promise 27: pairs by lesser nears, then by hands. */
    private static void rests(Due due) {
        KnowLocks x = due.told("hand z dog marks 5 5 5 5 slip 0 trust 0;" + CHILD + "hand y dog marks 6 6 6 6 slip 0 trust 0;door m mean near 33;door k bank near 20;door o counts near 5;");
        due.is("nine nears by two dogs", x.rests(0, -1), 18);
        for (int i = 0; i < 18; i++) {
            due.is("pair " + i, x.rests(0, i), 10 * (i / 2 + 1) + i % 2 * 200);
        }
        due.is("pair 18", x.rests(0, 18), -1);
        due.is("beyond by far", x.rests(0, Integer.MAX_VALUE), -1);
        due.is("-2", x.rests(0, -2), -1);
        due.is("below by far", x.rests(0, Integer.MIN_VALUE), -1);
        due.is("a bank", x.rests(1, -1), -1);
        due.is("a bank's first", x.rests(1, 0), -1);
        due.is("no door", x.rests(3, -1), -1);
        due.is("no near of its own", x.door(0, 1), 33);
        StringBuilder seven = new StringBuilder();
        for (char c = 'a'; c <= 'g'; c++) {
            seven.append("hand ").append(c).append(" dog marks 1 1 1 1 slip 0 trust 0;");
        }
        x = due.told(seven + "door m nearest near 0;learn trust;");
        due.is("nine nears by seven hands", x.rests(0, -1), 63);
        due.is("the first", x.rests(0, 0), 10);
        due.is("the last", x.rests(0, 62), 690);
        due.is("behind the last", x.rests(0, 63), -1);
        x = due.told(CHILD + "door m mean near 0;");
        due.is("a child is no burglar", x.rests(0, -1), 0);
        due.is("nothing rests", x.rests(0, 0), -1);
        x = due.told("door m mean near 0;");
        due.is("no hand", x.rests(0, -1), 0);
        due.is("no pair", x.rests(0, 0), -1);
    }

    private static void restsByPatience(Due due) {
        KnowLocks x = due.told("hand z dog marks 5 5 5 5 slip 0 trust 9;door o counts near 0;learn 9*(times=97);");
        due.is("99 by 10, 20, 30, none by the others", x.rests(0, -1), 6);
        due.is("100 is more than 99", x.rests(0, 0), 40);
        x = due.told("hand z dog marks 5 5 5 5 slip 0 trust 0;hand t twin z slip 0 trust 9;door o counts near 0;learn trust*(times=97);");
        due.is("by 40 and more neither gets in", x.rests(0, -1), 12);
        due.is("the first of them", x.rests(0, 0), 40);
        due.is("the second", x.rests(0, 1), 140);
        x = due.told("hand z dog marks 5 5 5 5 slip 0 trust 0;hand t twin z slip 0 trust 9;door o counts near 0;learn trust*(times=98);");
        due.is("the 100th is none", x.rests(0, -1), 18);
        x = due.told("hand a owner marks 5 5 5 5 slip 0 trust 1;hand b maid marks 5 5 5 5 slip 0 trust 1;hand t twin a slip 0 trust 0;door o counts near 0;learn 2;");
        due.is("8 by each try: 90 is worth 13 less 10", x.rests(0, -1), 3);
        due.is("of the owner", x.rests(0, 0), 90);
        due.is("of the maid", x.rests(0, 1), 190);
        due.is("of the twin", x.rests(0, 2), 290);
        x.knock(0, 0, NO_SLIPS);
        x.knock(0, 0, NO_SLIPS);
        due.is("16 now: by 10 it is 1, by 90 it is 11 less 10", x.rests(0, -1), 6);
        due.is("the first by 10", x.rests(0, 0), 10);
        due.is("the fourth by 90", x.rests(0, 3), 90);
        x = due.told("hand a owner marks 5 5 5 5 slip 0 trust 1;hand b dog marks 5 5 5 5 slip 0 trust 1;door o counts near 0;learn 6;");
        x.knock(0, 0, NO_SLIPS);
        due.is("24 now: by 10, 20 it is 1, by 90 it is 4 less 5", x.rests(0, -1), 4);
        due.is("the least near", x.rests(0, 0), 10);
        due.is("the last", x.rests(0, 3), 120);
        x = due.told("hand a owner marks 5 5 5 5 slip 0 trust 1;hand b dog marks 5 5 5 5 slip 0 trust 1;door o counts near 0;learn 4;");
        x.knock(0, 0, NO_SLIPS);
        due.is("16 now: by 90 it is 6 less 5, as much as 1", x.rests(0, -1), 4);
        x = due.told("hand a owner marks 5 5 5 5 slip 0 trust 1;hand b owner marks 5 5 5 5 slip 0 trust 1;door o counts near 0;learn 4;");
        x.knock(0, 0, NO_SLIPS);
        due.is("two owners: by 90 it is 6 less 10, by 10 alone 1", x.rests(0, -1), 2);
        due.is("the near 10", x.rests(0, 0) * 1000 + x.rests(0, 1), 10110);
        x = due.told("hand z dog marks 5 5 5 5 slip 0 trust 9;hand y dog marks 5 5 5 5 slip 0 trust 0;hand m maid marks 5 5 5 5 slip 0 trust 0;door n nearest near 0;learn times=0;");
        due.is("the three alike", x.rests(0, -1), 27);
        x = due.told("hand t owner marks 5 5 5 5 slip 0 trust 9;hand y dog marks 5 5 5 5 slip 0 trust 0;door n nearest near 0;learn trust;");
        due.is("the first hand alone gets in", x.rests(0, -1), 9);
        due.is("by each near", x.rests(0, 0) * 100 + x.rests(0, 8), 1090);
        x = due.told("hand y dog marks 5 5 5 5 slip 0 trust 0;hand t owner marks 5 5 5 5 slip 0 trust 9;door n nearest near 0;learn trust;");
        due.is("the last hand alone gets in", x.rests(0, -1), 9);
        due.is("by each near, 100 more", x.rests(0, 0) * 1000 + x.rests(0, 8), 110190);
        x = due.told("hand a dog marks 5 5 5 5 slip 0 trust 1;hand b dog marks 5 5 5 6 slip 0 trust 1;hand m maid marks 5 5 5 9 slip 0 trust 1;door n nearest near 0;learn trust;");
        x.knock(0, 2, NO_SLIPS);
        due.is("dogs are no owners: none pays for them", x.rests(0, 0), 210);
        due.is("the maid gets in by each", x.rests(0, -1), 9);
    }

    /** Promise 28: seeds 0 to 9999, days 1 to 40. */
    private static void yearsWithin(Due due) {
        String quarter = "hand a owner marks 5 5 5 5 slip 0 trust 1;hand d dog marks 5 5 5 5 slip 3 trust 1;door k bank near 0;";
        KnowLocks x = due.told("hand a owner marks 5 5 5 5 slip 0 trust 1;door k bank near 0;");
        for (int days : new int[] {1, 2, 39, 40}) {
            due.is("four tries a day of " + days, year(x, 0, days, 0), 4 * days);
            due.is("by another seed", year(x, 9999, days, 0), 4 * days);
            due.is("none opened", year(x, 9999, days, 1) + year(x, 9999, days, 2), 0);
        }
        for (int days : new int[] {0, -1, 41, 42, Integer.MIN_VALUE, Integer.MAX_VALUE}) {
            due.is("days " + days, year(x, 0, days, 0), -100);
        }
        for (int seed : new int[] {-1, 10000, 10001, Integer.MIN_VALUE, Integer.MAX_VALUE}) {
            due.is("seed " + seed, year(x, seed, 1, 0), -100);
        }
        for (int what : new int[] {-1, 3, 4, Integer.MIN_VALUE, Integer.MAX_VALUE}) {
            due.is("what " + what, year(x, 0, 1, what), -100);
        }
        due.is("all is as ahead", x.count(3) + x.count(4) + x.door(0, 3), 0);
        due.is("a new object", year(new KnowLocks(), 0, 1, 0), -100);
        due.is("no door", year(due.told(FIVE), 0, 1, 0), -100);
        due.is("no hand", year(due.told("door m mean near 0;"), 0, 1, 0), -100);
        x = due.told(quarter);
        int dogs = 0;
        for (int seed = 0; seed < 100; seed++) {
            dogs += 4 - year(x, seed, 1, 0);
        }
        due.is("some draws are the dog's", dogs > 100 && dogs < 300, true);
        x = due.told("hand a dog marks 5 5 5 5 slip 0 trust 1;hand b child marks 5 5 5 5 slip 0 trust 1;hand c twin a slip 0 trust 1;door o counts near 0;");
        due.is("dogs, children and twins are others", year(x, 3, 40, 1) * 1000 + year(x, 3, 40, 2), 160160);
        due.is("they are not owners", year(x, 3, 40, 0), 0);
        x = due.told("hand a owner marks 5 5 5 5 slip 0 trust 1;hand b maid marks 5 5 5 5 slip 0 trust 1;door o counts near 0;");
        due.is("owners and maids are not others", year(x, 3, 40, 1) * 1000 + year(x, 3, 40, 2), 160);
    }

    private static void yearsByDays(Due due) {
        String dog = "hand a dog marks 5 5 5 5 slip 0 trust 1;";
        KnowLocks x = due.told(dog + "door m mean near 0;learn day=2 and hour=0;");
        due.is("one day", year(x, 4, 1, 2), 0);
        due.is("the second day, from its second try on", year(x, 4, 2, 2), 3);
        due.is("the third day, too", year(x, 4, 3, 2), 7);
        x = due.told(dog + "door s cheap near 0;learn hour=18;");
        due.is("forgotten at each midnight", year(x, 4, 3, 2), 0);
        x = due.told(dog + "door s cheap near 99;learn 2*(hour=18);");
        due.is("a half is left of it", year(x, 4, 3, 2), 8);
        x = due.told(dog + "door s cheap near 0;learn 0;");
        due.is("nothing known", year(x, 4, 3, 2), 0);
        x = due.told(dog + "door s cheap near 0;learn 2*(day=0);");
        x.hours(5);
        x.knock(0, 0, NO_SLIPS);
        due.is("the midnight ahead of it all halves", year(x, 4, 2, 2), 4);
        x = due.told(dog + "door v nervous near 0;learn times=3;");
        due.is("startled by three tries, calm at midnight", year(x, 4, 2, 2), 4);
        x = due.told(dog + "door v nervous near 0;learn times=0 and day=3;");
        due.is("of the third day three", year(x, 4, 3, 2), 3);
        for (int hour = 0; hour < 24; hour++) {
            x = due.told(dog + "door m mean near 0;learn day=1 and hour=" + hour + ";");
            due.is("learnt in hour " + hour, year(x, 4, 1, 2), hour % 6 == 0 ? 3 - hour / 6 : 0);
        }
        x = due.told(dog + "door m mean near 0;door q mean near 0;street m q;gossip 1;learn day=0;");
        x.hours(23);
        x.knock(0, 0, NO_SLIPS);
        due.is("gossip ahead of the first try", year(x, 4, 1, 2), 4);
        x = due.told(dog + "door m counts near 0;door k bank near 0;");
        due.is("one of two doors", year(x, 4, 40, 2) > 40 && year(x, 4, 40, 2) < 120, true);
    }

    /** -100 for a NoSuchElementException. */
    private static int year(KnowLocks x, int seed, int days, int what) {
        try {
            return x.years(seed, days, what);
        } catch (NoSuchElementException e) {
            return -100;
        }
    }
}
