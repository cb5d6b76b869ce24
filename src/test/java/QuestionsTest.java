import java.util.NoSuchElementException;

/** Promises 14 to 28: what is asked, and that asking changes nothing. */
public final class QuestionsTest {
    private static final int NO_SLIPS = 1200;
    private static final int[] WRONG = {-1, 7, 99, Integer.MIN_VALUE, Integer.MAX_VALUE};
    private static final String TWO = "hand a owner marks 5 5 5 5 slip 0 trust 1;hand b dog marks 5 5 5 8 slip 1 trust 1;";

    public static void main(String[] args) {
        Due due = new Due();
        patience(due);
        unseen(due);
        breaks(due);
        defence(due);
        chance(due);
        best(due);
        street(due);
        judged(due);
        fits(due);
        tells(due);
        taken(due);
        apart(due);
        trained(due);
        rests(due);
        years(due);
        wrongOnes(due);
        askingChangesNothing(due);
        due.end();
    }

    private static void patience(Due due) {
        KnowLocks x = due.told(TWO + "hand c child marks 0 0 0 0 slip 0 trust 0;door m mean near 0;door n nearest near 0;"
            + "door o counts near 99;door v nervous near 0;door k bank near 99;");
        due.is("mean", x.patience(0, 0), 2);
        due.is("nearest", x.patience(1, 0), 2);
        due.is("counts: 4 more by each try", x.patience(2, 0), 26);
        due.is("nervous", x.patience(3, 0), 2);
        due.is("bank", x.patience(4, 0), -1);
        due.is("a child", x.patience(0, 2), 1);
        due.is("a child and a bank", x.patience(4, 2), -1);
        x.knock(0, 0, NO_SLIPS);
        due.is("30 / (1 + n) is 0 at last", x.patience(0, 1), 31);
        x.near(0, 1);
        due.is("30 / (1 + n) is 1 at last", x.patience(0, 1), 16);
        due.is("now", x.patience(0, 0), 1);
        x = due.told("hand a owner marks 5 5 5 5 slip 0 trust 1;door o counts near 97;door p counts near 99;learn times=24 or times=97;");
        due.is("within 99, none", x.patience(0, 0), -1);
        x = due.told("hand a owner marks 5 5 5 5 slip 0 trust 1;door o counts near 4;learn times=97;");
        due.is("the 99th", x.patience(0, 0), 99);
        x = due.told("hand a owner marks 5 5 5 5 slip 0 trust 1;door o counts near 4;learn times=98;");
        due.is("not the 100th", x.patience(0, 0), -1);
        x = due.told("hand a owner marks 5 5 5 5 slip 0 trust 1;hand b owner marks 0 0 0 0 slip 0 trust 1;door v nervous near 0;learn times=2;");
        due.is("a nervous one that opens no more", x.patience(0, 0), -1);
        x = due.told("hand a owner marks 5 5 5 5 slip 0 trust 1;door v nervous near 0;learn times=1;");
        due.is("a nervous one at the third", x.patience(0, 0), 3);
    }

    private static void unseen(Due due) {
        String hand = "hand a owner marks 5 5 5 5 slip 0 trust 1;hand c child marks 0 0 0 0 slip 0 trust 0;";
        KnowLocks x = due.told(hand + "door o counts near 8;door k bank near 99;");
        due.is("without guard", x.unseen(0, 0), 2);
        due.is("a bank", x.unseen(1, 0), -1);
        due.is("a child, now", x.unseen(0, 1), 0);
        x = due.told(hand + "door o counts near 8;guard 1 to 2;");
        due.is("both ends of guard", x.unseen(0, 0), 4);
        due.is("a child, now", x.unseen(0, 1), 0);
        x.hours(1);
        due.is("a child within guard", x.unseen(0, 1), 2);
        x.hours(1);
        due.is("at the end of guard", x.unseen(0, 1), 1);
        x.hours(1);
        due.is("behind guard", x.unseen(0, 1), 0);
        x.hours(19);
        due.is("over midnight", x.unseen(0, 0), 2);
        x.hours(1);
        due.is("over midnight and guard", x.unseen(0, 0), 4);
        x = due.told(hand + "door o counts near 1;guard 0 to 23;");
        due.is("guard by day and night", x.unseen(0, 0), -1);
        x = due.told(hand + "door o counts near 4;learn day=9 and hour=23;");
        due.is("the 240th hour", x.unseen(0, 0), 240);
        x = due.told(hand + "door o counts near 4;learn day=10 and hour=0;");
        due.is("not the 241st", x.unseen(0, 0), -1);
        x = due.told(hand + "door v nervous near 0;learn day;");
        due.is("a nervous one opens again at midnight", x.unseen(0, 0), 25);
        x = due.told(hand + "door x cheap near 4;door y mean near 5;street x y;gossip 3;learn day=0 and times=0;");
        due.is("now learnt, then", x.unseen(0, 0), 1);
        x = due.told("hand a owner marks 5 5 5 5 slip 0 trust 1;hand b twin a slip 0 trust 9;"
            + "door x mean near 0;door y nearest near 0;street x y;gossip 1;learn trust-1;");
        due.is("who is not learnt", x.unseen(0, 0), -1);
        x.knock(1, 1, NO_SLIPS);
        due.is("what the other door tells at midnight", x.unseen(0, 0), 24);
    }

    private static void breaks(Due due) {
        KnowLocks x = due.told("hand a owner marks 5 5 5 5 slip 1 trust 1;hand b owner marks 5 5 5 5 slip 0 trust 1;"
            + "hand c child marks 5 5 5 5 slip 1 trust 1;door m mean near 0;door n nearest near 0;door o counts near 12;"
            + "door k bank near 9;door p counts near 13;");
        due.is("mean", x.breaks(0, 0, -1), 2);
        due.is("without a slip", x.breaks(0, 0, 0), 0);
        due.is("the last has none", x.breaks(0, 0, 1), -1);
        due.is("counts", x.breaks(2, 0, -1), 4);
        due.is("the first of counts", x.breaks(2, 0, 0), 0);
        due.is("the second of counts", x.breaks(2, 0, 1), 0);
        due.is("the third of counts", x.breaks(2, 0, 2), 0);
        due.is("beyond", x.breaks(2, 0, 3), -1);
        due.is("below", x.breaks(2, 0, -2), -1);
        due.is("not by 4", x.breaks(4, 0, -1), -1);
        due.is("nor a first", x.breaks(4, 0, 0), -1);
        due.is("a bank", x.breaks(3, 0, -1), -1);
        due.is("a child by one", x.breaks(0, 2, -1), 1);
        due.is("by one there is no slip", x.breaks(0, 2, 0), -1);
        x = due.told("hand a owner marks 5 5 5 5 slip 1 trust 1;hand b owner marks 5 5 5 5 slip 0 trust 1;"
            + "hand c owner marks 5 5 5 6 slip 1 trust 0;hand d owner marks 5 6 5 5 slip 1 trust 0;hand e owner marks 9 5 5 5 slip 1 trust 0;"
            + "door m mean near 0;learn 1;");
        x.knock(0, 2, NO_SLIPS);
        due.is("one less at the last mark", x.breaks(0, 0, -1), 2);
        due.is("the seventh choice", x.breaks(0, 0, 0), 7);
        due.is("no slip of slip 0", x.breaks(0, 1, -1), -1);
        x.undo();
        x.knock(0, 3, NO_SLIPS - 2 * 7 + 7);
        x.undo();
        x.knock(0, 3, NO_SLIPS + 7);
        due.is("two less at the second mark by two tries", x.breaks(0, 0, -1), 3);
        due.is("the first", x.breaks(0, 0, 0), 3);
        due.is("the second", x.breaks(0, 0, 1), 3);
        x.undo();
        x.knock(0, 0, NO_SLIPS - 1);
        due.is("one more at the first mark", x.breaks(0, 0, 0), 2);
        x.knock(0, 0, NO_SLIPS - 49);
        due.is("one more at the first and the third", x.breaks(0, 0, -1), 3);
        due.is("the least row", 10 * x.breaks(0, 0, 0) + x.breaks(0, 0, 1), 26);
    }

    private static void defence(Due due) {
        KnowLocks x = due.told(TWO + "hand c child marks 0 0 0 0 slip 0 trust 0;door m mean near 50;door n nearest near 50;"
            + "door o counts near 50;door k bank near 50;door v nervous near 3;");
        due.is("one try", x.defence(0, 0, 1), 99);
        due.is("two tries", x.defence(0, 0, 2), -1);
        due.is("nearest", x.defence(1, 0, 1), 99);
        due.is("counts: none yet", x.defence(2, 0, 1), 1);
        due.is("counts by three", x.defence(2, 0, 3), 9);
        due.is("counts by 20", x.defence(2, 0, 20), 77);
        due.is("a bank", x.defence(3, 0, 20), 99);
        due.is("a child", x.defence(0, 2, 1), -1);
        due.is("a child and a bank", x.defence(3, 2, 20), 99);
        due.is("0 tries", x.defence(0, 0, 0), -1);
        due.is("21 tries", x.defence(0, 0, 21), -1);
        due.is("-1 tries", x.defence(3, 0, -1), -1);
        x.knock(0, 0, NO_SLIPS);
        due.is("30 by 1 keeps out", x.defence(0, 1, 1), 29);
        due.is("30 by 3, then", x.defence(0, 1, 3), 9);
        x = due.told(TWO + "door o counts near 0;learn 9;");
        due.is("beyond 99", x.defence(0, 0, 4), -1);
        x.knock(0, 0, NO_SLIPS);
        x.knock(0, 0, NO_SLIPS);
        x.knock(0, 1, NO_SLIPS);
        due.is("far", x.far(0, 0), 99);
        due.is("no near keeps 99 out", x.defence(0, 0, 1), -1);
    }

    private static void chance(Due due) {
        KnowLocks x = due.told("hand a owner marks 5 5 5 5 slip 1 trust 1;hand b owner marks 0 9 5 5 slip 2 trust 1;"
            + "hand c child marks 0 0 0 0 slip 3 trust 0;door m mean near 10;door n nearest near 0;door o counts near 3;"
            + "door k bank near 99;door v nervous near 99;");
        for (int d = 0; d < 3; d++) {
            x.knock(d, 0, NO_SLIPS);
        }
        due.is("one mark of four by one", ratio(x, 0, 0), 1_000_009);
        due.is("none of them", ratio(x, 1, 0), 1_000_081);
        due.is("three or four alike", ratio(x, 2, 0), 1_000_009);
        due.is("none", ratio(x, 3, 0), 1);
        due.is("none yet", ratio(x, 4, 0), 1);
        due.is("always", ratio(x, 0, 2), 1_000_001);
        due.is("a child and a bank", ratio(x, 3, 2), 1);
        due.is("now", x.near(0, 20), true);
        due.is("by its near", ratio(x, 0, 0), 11_000_027);
        x.knock(1, 1, NO_SLIPS);
        due.is("cut at 0 and 9", ratio(x, 1, 1), 9_000_625);
        due.is("chance(.., 2)", x.chance(0, 0, 2), -1);
        due.is("chance(.., -1)", x.chance(0, 0, -1), -1);
        for (int i = 0; i < 3; i++) {
            x.knock(4, 0, i % 2 == 0 ? NO_SLIPS : NO_SLIPS + 1);
        }
        due.is("a nervous one", x.chance(4, 0, 0), 1);
        x = due.told("hand a owner marks 5 5 5 5 slip 1 trust 1;hand b owner marks 0 0 0 0 slip 1 trust 1;"
            + "hand c child marks 0 0 0 0 slip 1 trust 1;door v nervous near 5;learn trust;feel mark+(day=1);");
        x.knock(0, 0, NO_SLIPS);
        due.is("ready", ratio(x, 0, 0), 1_000_081);
        x.knock(0, 1, NO_SLIPS);
        x.knock(0, 1, NO_SLIPS);
        due.is("startled", ratio(x, 0, 0), 1);
        due.is("a child", ratio(x, 0, 2), 1_000_001);
        x = due.told("hand a owner marks 5 5 5 5 slip 0 trust 1;door o counts near 0;learn 9;");
        due.is("near 0 of counts", ratio(x, 0, 0), 1_000_001);
        for (int i = 0; i < 3; i++) {
            x.knock(0, 0, NO_SLIPS);
        }
        x.near(0, 99);
        due.is("far beyond 99", ratio(x, 0, 0), 1_000_001);
    }

    /** Above a million times, and below. */
    private static long ratio(KnowLocks x, int door, int hand) {
        return x.chance(door, hand, 0) * 1_000_000L + x.chance(door, hand, 1);
    }

    private static void best(Due due) {
        KnowLocks x = due.told("hand a owner marks 5 5 5 5 slip 1 trust 1;hand b dog marks 5 5 5 8 slip 0 trust 1;"
            + "hand c child marks 0 0 0 0 slip 0 trust 0;door m mean near 10;door o counts near 3;door k bank near 4;");
        x.knock(0, 0, NO_SLIPS);
        x.knock(1, 0, NO_SLIPS);
        due.is("below 30 the dog is kept out", x.best(0, 0, 1, 0), 20);
        due.is("48 of 81 are shut out, above", x.best(0, 0, 1, 1), 16);
        due.is("48 of 81 are shut out, below", x.best(0, 0, 1, 2), 27);
        due.is("both alike, the least", x.best(0, 0, 0, 0), 0);
        due.is("both together", x.best(0, 0, 0, 1), 1);
        due.is("in lowest terms", x.best(0, 0, 0, 2), 1);
        due.is("the other way", x.best(0, 1, 0, 0), 30);
        due.is("the other way, above", x.best(0, 1, 0, 1), 65);
        due.is("the other way, below", x.best(0, 1, 0, 2), 81);
        due.is("counts", x.best(1, 0, 1, 0), 4);
        due.is("counts, above", x.best(1, 0, 1, 1), 80);
        due.is("a child", x.best(0, 2, 1, 0), 0);
        due.is("a child is let in", x.best(0, 2, 1, 1), 0);
        due.is("a child, below", x.best(0, 2, 1, 2), 1);
        due.is("a bank", x.best(2, 0, 1, 0), 0);
        due.is("a bank, above", x.best(2, 0, 1, 1), 1);
        due.is("best(.., 3)", x.best(0, 0, 1, 3), -1);
        due.is("best(.., -1)", x.best(0, 0, 1, -1), -1);
    }

    private static void street(Due due) {
        KnowLocks x = due.told("hand a owner marks 5 5 5 5 slip 0 trust 1;hand c child marks 0 0 0 0 slip 0 trust 1;"
            + "door p mean near 0;door q mean near 0;door r mean near 0;door s counts near 8;door k bank near 9;"
            + "street p q;street q r;street r s;street s k;gossip 1;");
        due.is("a neighbour", x.street(0, 0, 1), 1);
        due.is("the next but one", x.street(0, 0, 2), 2);
        due.is("counts behind it", x.street(0, 0, 3), 4);
        due.is("a bank", x.street(0, 0, 4), -1);
        due.is("the same", x.street(0, 1, 1), -1);
        due.is("a child", x.street(1, 0, 1), 0);
        due.is("a child is not learnt", x.street(1, 0, 4), -1);
        x.knock(1, 0, NO_SLIPS);
        due.is("now", x.street(0, 0, 1), 0);
        x = due.told("hand a owner marks 5 5 5 5 slip 0 trust 1;door p counts near 9;door q counts near 30;street p q;gossip 1;learn 1;");
        due.is("4 by each of 8 midnights", x.street(0, 0, 1), 8);
        x.near(1, 99);
        due.is("25 midnights", x.street(0, 0, 1), 25);
        x = due.told("hand a owner marks 5 5 5 5 slip 0 trust 1;door p counts near 9;door q counts near 4;street p q;gossip 1;learn day=29;");
        due.is("the 30th midnight", x.street(0, 0, 1), 30);
        x = due.told("hand a owner marks 5 5 5 5 slip 0 trust 1;door p counts near 9;door q counts near 4;street p q;gossip 1;learn day=30;");
        due.is("not the 31st", x.street(0, 0, 1), -1);
        x = due.told("hand a owner marks 5 5 5 5 slip 0 trust 1;door p mean near 9;door q mean near 4;street p q;gossip 1;learn hour=7;");
        x.hours(7);
        due.is("the first try is now", x.street(0, 0, 1), 1);
        x.hours(1);
        due.is("the others are in the first hour", x.street(0, 0, 1), -1);
    }

    private static void judged(Due due) {
        KnowLocks x = due.told(TWO + "door m mean near 0;door n mean near 0;street m n;gossip 2;");
        due.is("no history", x.judged(), -1);
        due.history(x, "try a m shut;try a m opened;try b m shut;night;try a n opened;try b n shut;");
        due.is("all as told", x.judged(), -1);
        due.history(x, "try a m shut;night;night;try a n shut;try a m opened;try a m shut;try b m opened;");
        due.is("the first is the second", x.judged(), 1);
        x.hours(30);
        x.knock(1, 0, NO_SLIPS);
        x.near(1, 99);
        due.is("from the quarter as told", x.judged(), 1);
        due.history(x, "try a m opened;");
        due.is("the very first", x.judged(), 0);
        due.history(x, "night;night;");
        due.is("nights alone", x.judged(), -1);
        x = due.told(TWO + "door m mean near 0;learn hour=0 and (day<2);");
        x.hours(5);
        due.history(x, "night;night;try a m shut;try a m shut;");
        due.is("by the day of the history", x.judged(), -1);
        due.history(x, "night;try a m shut;try a m opened;");
        due.is("hour 0 at each", x.judged(), -1);
    }

    private static void fits(Due due) {
        KnowLocks x = due.told(TWO + "hand c child marks 0 0 0 0 slip 0 trust 0;door m mean near 0;door n mean near 0;door k bank near 0;"
            + "street m n;gossip 2;");
        due.is("no history: all nears", x.fits(0, 0, 0), 100);
        due.is("the least", x.fits(0, 0, 1), 0);
        due.is("the greatest", x.fits(0, 4, 2), 99);
        due.history(x, "try a m shut;try a m opened;try b m shut;");
        due.is("mean: 30 is beyond", triple(x, 0, 0), 30_00_29);
        due.is("nearest", triple(x, 0, 1), 30_00_29);
        due.is("counts: 4 opens, 9 of the dog does not", triple(x, 0, 2), -10101);
        due.is("cheap", triple(x, 0, 3), 30_00_29);
        due.is("nervous", triple(x, 0, 4), 30_00_29);
        due.is("another door is not asked", triple(x, 1, 0), 100_00_99);
        due.is("a bank's door as another kind", triple(x, 2, 1), 100_00_99);
        due.is("no fit by bank", x.fits(0, 5, 0), -1);
        due.is("kind -1", x.fits(0, -1, 0), -1);
        due.is("what 3", x.fits(0, 0, 3), -1);
        due.is("what -1", x.fits(0, 0, -1), -1);
        due.history(x, "try a m shut;try a n opened;night;try a n opened;");
        due.is("others need not be as told", triple(x, 0, 0), 100_00_99);
        due.is("n did not open at first", x.fits(1, 0, 0), -1);
        due.history(x, "try a m shut;night;try b n shut;");
        due.is("m stays as told, and gossips", triple(x, 1, 0), 30_00_29);
        due.is("counts of 6 open by gossip", triple(x, 1, 2), 93_07_99);
        due.history(x, "try a m shut;");
        due.is("a bank's kind is not asked for", x.fits(0, 5, 0), -1);
        due.history(x, "try c m shut;");
        due.is("no kind keeps a child out", x.fits(0, 2, 0), -1);
        due.history(x, "try a m shut;try a m shut;try a m opened;");
        due.is("counts by 4 and 8", triple(x, 0, 2), 4_05_08);
        x.near(0, 50);
        x.hours(50);
        due.is("whatever is now", triple(x, 0, 2), 4_05_08);
    }

    /** How many, the least and the greatest as figures; -10101 if none. */
    private static long triple(KnowLocks x, int door, int kind) {
        return x.fits(door, kind, 0) * 10_000L + x.fits(door, kind, 1) * 100L + x.fits(door, kind, 2);
    }

    private static void tells(Due due) {
        KnowLocks x = due.told("hand a owner marks 5 5 5 5 slip 0 trust 1;hand b dog marks 5 5 5 8 slip 1 trust 1;"
            + "hand c owner marks 5 5 5 9 slip 0 trust 0;door m mean near 0;door k bank near 0;");
        due.is("without a history near 0 of counts opens", x.tells(0), 0);
        due.history(x, "try a m shut;");
        due.is("of 499 lesser are 95, 216 and 243", x.tells(0), 2);
        due.history(x, "try a m opened;");
        due.is("counts of near 0 alone: all open", x.tells(0), -1);
        due.history(x, "try a m opened;try a m shut;");
        due.is("nothing fits", x.tells(0), -1);
        due.is("a bank's door, of another kind", x.tells(1), 0);
        KnowLocks y = due.told("hand c child marks 0 0 0 0 slip 0 trust 0;door m mean near 0;");
        due.is("a child parts nothing", y.tells(0), -1);
        due.is("no door", y.tells(1), -1);
    }

    private static void taken(Due due) {
        KnowLocks x = due.told(TWO + "hand c child marks 0 0 0 0 slip 0 trust 0;door k bank near 99;door m mean near 29;"
            + "door n mean near 30;door o counts near 0;door q nearest near 30;");
        due.is("counts of near 0", x.taken(0, 1), 8);
        for (int d = 0; d < 5; d++) {
            x.knock(d, 0, NO_SLIPS);
        }
        due.is("within 30", x.taken(0, 1), 4 + 8 + 16);
        due.is("the other way", x.taken(1, 0), 4 + 8 + 16);
        due.is("a child", x.taken(0, 2), 2 + 4 + 8 + 16);
        due.is("the same", x.taken(1, 1), -1);
        x.hours(1);
        due.is("later", x.taken(0, 1), 4 + 8 + 16);
    }

    private static void apart(Due due) {
        KnowLocks x = due.told("hand a owner marks 5 5 5 5 slip 0 trust 1;hand b dog marks 6 5 6 7 slip 1 trust 1;"
            + "hand c child marks 0 0 0 0 slip 0 trust 0;hand d dog marks 6 6 6 6 slip 0 trust 0;door m mean near 0;door k bank near 9;"
            + "door o counts near 0;");
        due.is("it does not open to the first", x.apart(0, 0, 1), -1);
        x.knock(0, 0, NO_SLIPS);
        due.is("the least of one mark", x.apart(0, 0, 1), 1);
        x.near(0, 10);
        due.is("the last mark alone", x.apart(0, 0, 1), 8);
        x.near(0, 20);
        due.is("two marks", x.apart(0, 0, 1), 9);
        x.near(0, 30);
        due.is("three marks", x.apart(0, 0, 1), 13);
        x.near(0, 40);
        due.is("none do", x.apart(0, 0, 1), -1);
        x.near(0, 39);
        due.is("all four", x.apart(0, 0, 3), 15);
        x.near(0, 20);
        due.is("the least three", x.apart(0, 0, 3), 7);
        due.is("a child as the first: none at all", x.apart(0, 2, 0), 0);
        due.is("a child as the second", x.apart(0, 0, 2), -1);
        due.is("the same", x.apart(0, 0, 0), -1);
        due.is("a bank", x.apart(1, 2, 0), -1);
        due.is("near 0 of counts", x.apart(2, 0, 1), -1);
    }

    private static void trained(Due due) {
        KnowLocks x = due.told("hand b dog marks 5 5 5 8 slip 1 trust 1;hand a owner marks 5 5 5 5 slip 0 trust 1;"
            + "hand c child marks 0 0 0 0 slip 0 trust 1;door m mean near 0;door o counts near 13;door k bank near 99;door p counts near 17;");
        due.is("by one", x.trained(0, 1, 0, -1), 1);
        due.is("of the hand itself", x.trained(0, 1, 0, 0), 1);
        due.is("beyond", x.trained(0, 1, 0, 1), -1);
        due.is("below", x.trained(0, 1, 0, -2), -1);
        due.is("the other", x.trained(0, 0, 1, 0), 0);
        due.is("the same", x.trained(0, 0, 0, -1), -1);
        due.is("a bank", x.trained(2, 0, 1, -1), -1);
        due.is("not to the child", x.trained(0, 0, 2, -1), -1);
        due.is("a child, whatever", x.trained(0, 2, 0, -1), 1);
        due.is("the first row that keeps the other out", x.trained(0, 2, 0, 0), 1);
        due.is("counts by four", x.trained(1, 1, 0, -1), 4);
        due.is("the first of four", x.trained(1, 1, 0, 0), 1);
        due.is("the second of four", x.trained(1, 1, 0, 1), 1);
        due.is("the third of four", x.trained(1, 1, 0, 2), 1);
        due.is("the fourth of four", x.trained(1, 1, 0, 3), 1);
        due.is("beyond four", x.trained(1, 1, 0, 4), -1);
        due.is("not by 4", x.trained(3, 1, 0, -1), -1);
        due.is("none of them", x.trained(3, 1, 0, 0), -1);
        x.knock(0, 1, NO_SLIPS);
        due.is("one at least, though it does already", x.trained(0, 1, 0, -1), 1);
    }

    private static void rests(Due due) {
        KnowLocks x = due.told("hand a owner marks 5 5 5 5 slip 0 trust 1;hand c child marks 0 0 0 0 slip 0 trust 1;"
            + "door m mean near 33;door k bank near 99;");
        due.is("each near rests", x.rests(0, -1), 9);
        due.is("the first", x.rests(0, 0), 10);
        due.is("the last", x.rests(0, 8), 90);
        due.is("beyond", x.rests(0, 9), -1);
        due.is("below", x.rests(0, -2), -1);
        due.is("a bank", x.rests(1, -1), -1);
        x = due.told("hand a owner marks 5 5 5 5 slip 0 trust 1;hand b dog marks 5 5 5 6 slip 0 trust 1;"
            + "hand d dog marks 5 5 5 9 slip 0 trust 1;door m mean near 0;");
        x.knock(0, 0, NO_SLIPS);
        due.is("all but the last dog at once by 10 and more", x.rests(0, -1), 18);
        due.is("first", x.rests(0, 0), 10);
        due.is("lesser nears first, then hands", x.rests(0, 1), 110);
        due.is("then", x.rests(0, 2), 20);
        x = due.told("hand a owner marks 5 5 5 5 slip 0 trust 1;hand b maid marks 5 5 5 7 slip 0 trust 1;door m mean near 0;learn 1;");
        x.knock(0, 0, NO_SLIPS);
        due.is("the maker does not keep the maid out", x.rests(0, 0), 20);
        due.is("by 20 and more both rest", x.rests(0, -1), 16);
        x = due.told("hand a dog marks 5 5 5 5 slip 0 trust 1;door o counts near 0;learn 1;");
        due.is("the maker likes the patient", x.rests(0, -1), 1);
        due.is("of 90", x.rests(0, 0), 90);
        x = due.told("hand a owner marks 5 5 5 5 slip 0 trust 1;door o counts near 0;learn 9;");
        due.is("the owner is shut out by each", x.rests(0, 0), 80);
        due.is("36 by each try: 80 and 90 alike", x.rests(0, -1), 2);
        x = due.told("hand c child marks 0 0 0 0 slip 0 trust 1;door m mean near 33;");
        due.is("no burglar", x.rests(0, -1), 0);
        due.is("no pair", x.rests(0, 0), -1);
        restsByPay(due);
    }

    private static void restsByPay(Due due) {
        KnowLocks x = due.told("hand a owner marks 5 5 5 5 slip 0 trust 1;hand b owner marks 7 7 7 7 slip 0 trust 2;"
            + "door o counts near 0;learn 9*(times=0)+9*(times=95 and trust=1);");
        x.knock(0, 1, NO_SLIPS);
        due.is("100 less 10 is not as much as 96 less 5", x.rests(0, -1), 6);
        due.is("the owner who is let in by less", x.rests(0, 0), 140);
        x = due.told("hand a maid marks 5 5 5 7 slip 0 trust 1;hand d dog marks 5 5 7 5 slip 2 trust 1;"
            + "door m mean near 0;learn (times=0)+(times=5);");
        x.knock(0, 1, NO_SLIPS - 2 * 49);
        due.is("6 less 5 is as much as 1", x.rests(0, -1), 18);
    }

    private static void years(Due due) {
        KnowLocks x = due.told("hand a owner marks 5 5 5 5 slip 0 trust 1;door k bank near 0;");
        due.is("a bank lets none in", year(x, 5, 40, 0), 160);
        due.is("no others", year(x, 5, 40, 1), 0);
        due.is("none opened", year(x, 5, 40, 2), 0);
        x = due.told("hand a maid marks 5 5 5 5 slip 0 trust 1;door m mean near 0;");
        due.is("a maid's first", year(x, 0, 1, 0), 1);
        due.is("three opened", year(x, 9999, 1, 2), 3);
        x = due.told("hand a dog marks 5 5 5 5 slip 0 trust 1;door m mean near 0;");
        due.is("a dog is another", year(x, 7, 3, 1), 11);
        due.is("it is no owner", year(x, 7, 3, 0), 0);
        x = due.told("hand c child marks 1 1 1 1 slip 3 trust 0;door m mean near 0;");
        due.is("a child", year(x, 7, 3, 1), 12);
        x = due.told("hand a dog marks 5 5 5 5 slip 0 trust 1;door m mean near 0;learn (hour=18) and (day=1);");
        due.is("from the next day on, by six hours", year(x, 1, 2, 2), 4);
        x.hours(24);
        due.is("a day later", year(x, 1, 2, 2), 0);
        x = due.told("hand a dog marks 5 5 5 5 slip 0 trust 1;door m mean near 0;learn not day;");
        x.hours(23);
        due.is("not from this day on", year(x, 1, 2, 2), 0);
        drawnYear(due);
    }

    /** Seed 1: the first DRAWS are told in the document's own way, so that the order of them matters. */
    private static void drawnYear(Due due) {
        KnowLocks x = due.told("hand a owner marks 5 5 5 5 slip 1 trust 1;hand b dog marks 4 4 4 4 slip 3 trust 1;"
            + "door m mean near 30;door n nearest near 40;door o counts near 3;");
        for (int seed = 0; seed < 20; seed++) {
            KnowLocks y = due.told("hand a owner marks 5 5 5 5 slip 1 trust 1;hand b dog marks 4 4 4 4 slip 3 trust 1;"
                + "door m mean near 30;door n nearest near 40;door o counts near 3;");
            long[] g = {seed};
            int[] sums = new int[3];
            y.hours(24);
            for (int i = 0; i < 8; i++) {
                int hand = draw(g, 2);
                int door = draw(g, 3);
                int slip = y.hand(hand, 5);
                int slips = 0;
                for (int which = 0, seven = 1; which < 4; which++, seven *= 7) {
                    slips += (draw(g, 2 * slip + 1) - slip + 3) * seven;
                }
                int open = y.knock(door, hand, slips);
                sums[0] += hand == 0 ? 1 - open : 0;
                sums[1] += hand == 0 ? 0 : open;
                sums[2] += open;
                y.hours(6);
            }
            for (int what = 0; what < 3; what++) {
                due.is("seed " + seed + ", " + what, year(x, seed, 2, what), sums[what]);
            }
        }
    }

    private static int draw(long[] g, int below) {
        g[0] = (g[0] * 1103515245L + 12345L) % 2147483648L;
        return (int) (g[0] / 65536 % below);
    }

    /** -100 for a NoSuchElementException. */
    private static int year(KnowLocks x, int seed, int days, int what) {
        try {
            return x.years(seed, days, what);
        } catch (NoSuchElementException e) {
            return -100;
        }
    }

    private static void wrongOnes(Due due) {
        KnowLocks x = due.told(TWO + "door m mean near 0;door o counts near 0;");
        for (int no : WRONG) {
            due.is("patience door " + no, x.patience(no, 0), -1);
            due.is("patience hand " + no, x.patience(0, no), -1);
            due.is("unseen door " + no, x.unseen(no, 0), -1);
            due.is("unseen hand " + no, x.unseen(1, no), -1);
            due.is("breaks door " + no, x.breaks(no, 0, -1), -1);
            due.is("breaks hand " + no, x.breaks(1, no, -1), -1);
            due.is("defence door " + no, x.defence(no, 0, 1), -1);
            due.is("defence hand " + no, x.defence(0, no, 1), -1);
            due.is("chance door " + no, x.chance(no, 0, 1), -1);
            due.is("chance hand " + no, x.chance(0, no, 1), -1);
            due.is("best door " + no, x.best(no, 0, 1, 0), -1);
            due.is("best owner " + no, x.best(0, no, 1, 0), -1);
            due.is("best other " + no, x.best(0, 0, no, 0), -1);
            due.is("street hand " + no, x.street(no, 0, 1), -1);
            due.is("street door " + no, x.street(0, no, 1), -1);
            due.is("street other " + no, x.street(0, 0, no), -1);
            due.is("fits door " + no, x.fits(no, 0, 0), -1);
            due.is("fits kind " + no, x.fits(0, no, 0), -1);
            due.is("fits what " + no, x.fits(0, 0, no), -1);
            due.is("tells " + no, x.tells(no), -1);
            due.is("taken one " + no, x.taken(no, 1), -1);
            due.is("taken other " + no, x.taken(1, no), -1);
            due.is("apart door " + no, x.apart(no, 0, 1), -1);
            due.is("apart one " + no, x.apart(1, no, 1), -1);
            due.is("apart other " + no, x.apart(1, 0, no), -1);
            due.is("trained door " + no, x.trained(no, 0, 1, -1), -1);
            due.is("trained one " + no, x.trained(0, no, 1, -1), -1);
            due.is("trained other " + no, x.trained(0, 0, no, -1), -1);
            due.is("rests door " + no, x.rests(no, -1), -1);
            due.is("years seed " + no, year(x, no < 0 ? no : no + 9993, 1, 0), -100);
            due.is("years days " + no, year(x, 1, no < 0 ? no : no + 34, 0), -100);
            due.is("years what " + no, year(x, 1, 1, no), -100);
        }
        due.is("seed 9999", year(x, 9999, 40, 2) >= 0, true);
        due.is("0 days", year(x, 0, 0, 0), -100);
        due.is("what 3", year(x, 0, 1, 3), -100);
        due.is("no door", year(due.told(TWO), 0, 1, 0), -100);
        due.is("no hand", year(due.told("door m mean near 0;"), 0, 1, 0), -100);
    }

    private static void askingChangesNothing(Due due) {
        KnowLocks x = due.told(TWO + "door m mean near 3;door n nearest near 4;door o counts near 5;street m n;street n o;gossip 2;");
        due.history(x, "try a m shut;night;try b n opened;");
        for (int d = 0; d < 3; d++) {
            x.knock(d, 0, NO_SLIPS);
        }
        String ahead = state(x);
        x.far(0, 0);
        x.opens(0, 1, NO_SLIPS + 1);
        for (int d = 0; d < 3; d++) {
            x.patience(d, 1);
            x.unseen(d, 1);
            x.breaks(d, 1, -1);
            x.defence(d, 1, 20);
            x.chance(d, 1, 0);
            x.best(d, 0, 1, 0);
            x.street(1, d, (d + 1) % 3);
            x.judged();
            x.fits(d, 1, 0);
            x.tells(d);
            x.taken(0, 1);
            x.apart(d, 0, 1);
            x.trained(d, 0, 1, -1);
            x.rests(d, -1);
            year(x, 17, 9, 0);
        }
        due.is("all is as ahead: " + ahead + " and " + state(x), ahead.equals(state(x)), true);
    }

    private static String state(KnowLocks x) {
        StringBuilder all = new StringBuilder();
        for (int what = 0; what < 10; what++) {
            all.append(x.count(what)).append(' ');
        }
        for (int d = 0; d < 3; d++) {
            for (int what = 0; what < 6; what++) {
                all.append(x.door(d, what)).append(' ');
            }
            for (int i = 0; i < 40; i++) {
                all.append(x.knows(d, i)).append(' ');
            }
        }
        return all.toString();
    }
}
