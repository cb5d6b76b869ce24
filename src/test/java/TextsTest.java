/** Promises 1 to 4: a new object, the tape, and what is read from it. */
public final class TextsTest {
    private static final String RESERVED = "hand marks slip trust door near street gossip guard to learn feel owner "
        + "maid child dog twin mean nearest counts cheap nervous bank not and or";
    private static final String ANN = "hand ann owner marks 1 2 3 4 slip 1 trust 5;";

    public static void main(String[] args) {
        Due due = new Due();
        newObject(due);
        tape(due);
        goodQuarters(due);
        cannotStand(due);
        otherFaults(due);
        faultsOfFormulas(due);
        whatAFaultLeaves(due);
        formulas(due);
        facts(due);
        histories(due);
        due.end();
    }

    private static void newObject(Due due) {
        KnowLocks x = new KnowLocks();
        for (int what = 0; what < 10; what++) {
            due.is("count(" + what + ") of a new object", x.count(what), 0);
        }
        due.is("hand(0, 0) of a new object", x.hand(0, 0), -1);
        due.is("door(0, 0) of a new object", x.door(0, 0), -1);
        due.is("judged() of a new object", x.judged(), -1);
        due.is("undo() of a new object", x.undo(), false);
        due.is("mark(0, true) of a new object", x.mark(0, true), false);
        due.is("NONE", KnowLocks.NONE, -1);
    }

    private static void tape(Due due) {
        KnowLocks x = new KnowLocks();
        due.is("feed of nothing", x.feed(0, 0, 0), 0);
        due.is("feed of 10, 32, 126", x.feed(0x0a00000000000000L, 0x2000L, 0x7eL), 3);
        due.is("feed of 9, 11, 31, 127, 128, 255", x.feed(0x090b1f7f80ffL, 0, -1L), 3);
        due.is("quarter of 126", x.quarter(), 1 + 16 * 2);
        due.is("the tape is taken", x.count(9), 0);
        due.is("feed of ten", x.feed(Due.eight("gossip 7;", 0), Due.eight("gossip 7;", 8), 0x20L), 10);
        due.is("the bytes stand highest first", x.quarter(), 0);
        due.is("gossip", x.count(5), 7);
        long blanks = 0x2020202020202020L;
        for (int i = 1; i <= 41; i++) {
            due.is("feed " + i, x.feed(blanks, blanks, blanks), 24 * i);
        }
        Due.feed(x, "gossip 8;       ");
        due.is("a full tape", x.count(9), 1000);
        due.is("feed beyond 1,000", x.feed(Due.eight("x", 0), 0, 0), 1000);
        due.is("what is beyond is left out", x.quarter(), 0);
        due.is("gossip at the tape's end", x.count(5), 8);
    }

    private static void goodQuarters(Due due) {
        KnowLocks x = due.told(ANN + "hand b twin ann slip 0 trust 9;hand c twin b slip 3 trust 0;"
            + "door d mean near 0;door e bank near 99;street e d;gossip 9;guard 0 to 23;learn 1;feel mark;");
        due.is("hands", x.count(0), 3);
        due.is("doors", x.count(1), 2);
        due.is("streets", x.count(2), 1);
        due.is("gossip", x.count(5), 9);
        due.is("a twin's twin", x.hand(2, 3), 4);
        x = due.told("\nhand  try owner\nmarks0009 1 2 3slip0trust1;hand night dog marks 0 0 0 0 slip 0 trust 0;"
            + "hand opened maid marks 0 0 0 0 slip 0 trust 0;door shut counts near 5;door far nervous near 5;"
            + "door mark cheap near 5;door hour nearest near 05;street shut far ; ");
        due.is("no blanks are needed", x.hand(0, 0), 9);
        due.is("a number with a letter behind", x.hand(0, 3), 3);
        due.quarter(x, "");
        due.is("an empty quarter", x.count(0) + x.count(1) + x.count(2), 0);
        due.quarter(x, "door a mean near 1;door b mean near 1;door c mean near 1;door d mean near 1;door e mean near 1;"
            + "street a b;street a c;street a d;street a e;street b c;street b d;street b e;street c d;street c e;"
            + "street d e;guard 7 to 7;");
        due.is("each pair", x.count(2), 10);
        due.quarter(x, "gossip 1;");
        due.is("gossip told", x.count(5), 1);
        due.quarter(x, "learn ((((1))));feel not not not not mark;");
        due.is("gossip not told", x.count(5), 0);
        due.quarter(x, "learn not(not(1=2)<1)or(((2)))and times*(1+2);");
        due.quarter(x, "hand abcdefgh owner marks 9 9 9 9 slip 3 trust 9;");
    }

    private static void cannotStand(Due due) {
        KnowLocks x = new KnowLocks();
        String[] texts = {"@Hand", "@;", "@night;", "@owner", "@12345", "@1", "@abcdefghi owner", "@~", "hand @", "hand  \n@",
            "hand @7", "hand @;", "hand @abcdefghi", "hand @_", "hand a @mean", "hand a @b", "hand a @;",
            "hand a owner @slip", "hand a owner @", "hand a owner marks @;", "hand a owner marks 1 2 3 @slip",
            "hand a owner marks 1 2 3 @12345", "hand a owner marks 1 2 3 4 @trust", "hand a owner marks 1 2 3 4 @5",
            "hand a owner marks 1 2 3 4 slip @;", "hand a owner marks 1 2 3 4 slip 1 @;",
            "hand a owner marks 1 2 3 4 slip 1 trust @;", "hand a owner marks 1 2 3 4 slip 1 trust 1 @",
            "hand a owner marks 1 2 3 4 slip 1 trust 1 @hand", "hand a owner marks @-1",
            ANN + "hand b twin @;", ANN + "hand b twin @hand", ANN + "hand b twin ann @marks 1",
            "door @", "door @mean", "door d @owner", "door d @twin", "door d mean @5", "door d mean near @;",
            "door d mean near @-1;", "door d mean near 5 @6", "door d mean near 5 @door e", "street @", "street @1", "street @door",
            "door d mean near 5;street d @", "door d mean near 5;street d @;", "door d mean near 5;street d @near",
            "door d mean near 5;door e mean near 5;street d e @e",
            "door d mean near 5;door e mean near 5;street d e @gossip", "gossip @;", "gossip 1 @1", "gossip @x",
            "guard @;", "guard 1 @2", "guard 1 to @;", "guard 1 to 2 @to", "guard 1 @", "gossip 1;@;", "@try a b opened;"};
        for (String text : texts) {
            due.faultOfQuarter(x, 1, text);
        }
        for (String word : RESERVED.split(" ")) {
            due.faultOfQuarter(x, 1, "hand @" + word + " owner");
            due.faultOfQuarter(x, 1, "door @" + word + " mean");
        }
    }

    private static void otherFaults(Due due) {
        KnowLocks x = new KnowLocks();
        String doors = "door d mean near 5;door e mean near 5;door f mean near 5;";
        String[] unknown = {"hand a twin @a", "hand a twin @b slip", ANN + "hand b twin @c", doors + "hand b twin @d",
            "street @d e", doors + "street @x d", doors + "street d @x", ANN + doors + "street @ann d",
            ANN + doors + "street d @ann"};
        for (String text : unknown) {
            due.faultOfQuarter(x, 2, text);
        }
        String[] twice = {ANN + "hand @ann owner", ANN + "door @ann mean", doors + "door @d mean", doors + "hand @e dog",
            doors + "street d @d", doors + "street d e;street d @e;", doors + "street d e;street e @d;",
            doors + "street d e;street f e;street e @f", "gossip 1;@gossip 1;", "guard 1 to 2;@guard", "learn 1;@learn 1;",
            "feel 1;@feel mark;", "gossip 0;guard 1 to 1;@gossip"};
        for (String text : twice) {
            due.faultOfQuarter(x, 3, text);
        }
        String[] numbers = {"hand a owner marks @10 0 0 0", "hand a owner marks 0 @10 0 0", "hand a owner marks 0 0 @9999 0",
            "hand a owner marks 0 0 0 @10", "hand a owner marks 0 0 0 0 slip @4", "hand a owner marks 0 0 0 0 slip 3 trust @10",
            "door d mean near @100", "gossip @10;", "guard @24 to 24", "guard 5 to @4", "guard 5 to @24"};
        for (String text : numbers) {
            due.faultOfQuarter(x, 4, text);
        }
        StringBuilder hands = new StringBuilder();
        for (char c = 'a'; c < 'h'; c++) {
            hands.append("hand ").append(c).append(" dog marks 0 0 0 0 slip 0 trust 0;");
        }
        due.quarter(x, hands.toString());
        due.faultOfQuarter(x, 5, hands + "@hand h");
        due.faultOfQuarter(x, 5, hands + "@hand");
        due.quarter(x, doors + "door g mean near 5;door h bank near 5;");
        due.faultOfQuarter(x, 5, doors + "door g mean near 5;door h bank near 5;@door i mean near 5;");
    }

    private static void faultsOfFormulas(Due due) {
        KnowLocks x = new KnowLocks();
        String[] texts = {"learn @;", "feel @)", "learn @", "learn 1@", "learn 1 @1;", "learn (1@;", "learn 1 < 2 @< 3;",
            "learn 1 = 2 @< 3;", "learn 1 + @;", "learn 1 < @;", "feel 1 = @)", "learn 1 * @* 1;", "learn not @;", "learn 1 and @;", "learn 1 and @or 1;",
            "learn @mark;", "learn @which;", "feel @opened;", "feel @trust;", "feel @times;", "feel @far;", "learn @-1;",
            "learn 1 @);", "learn @x;", "learn @and 1;", "learn 1 @not 1;", "learn (@);",
            "learn (((((@;", "learn (((((@mark;", "learn not not not not not @+", "learn @10000;", "learn hour @day;"};
        for (String text : texts) {
            due.faultOfQuarter(x, 1, text);
        }
        String[] deep = {"learn (((((@1)))));", "learn (((((@(1", "learn not not not not not @1;",
            "learn not not not not not @not 1;", "learn ((not(not @far", "feel 1+(1*(2-(not(@1=which",
            "feel ((((1)+(mark*(@2+3"};
        for (String text : deep) {
            due.faultOfQuarter(x, 5, text);
        }
    }

    private static void whatAFaultLeaves(Due due) {
        KnowLocks x = due.told(ANN + "door d mean near 7;gossip 3;");
        due.history(x, "try ann d shut;night;");
        x.knock(0, 0, 1200);
        due.faultOfQuarter(x, 2, ANN + "hand b twin @x slip 1 trust 1;");
        due.faultOfHistory(x, 2, "night;night;try ann @x shut;");
        due.is("the hands stay", x.count(0), 1);
        due.is("gossip stays", x.count(5), 3);
        due.is("the tries of the history stay", x.count(6), 1);
        due.is("its nights stay", x.count(7), 1);
        due.is("what was learnt stays", x.knows(0, 4), 1);
        due.is("what can be undone stays", x.count(8), 1);
        x.hours(30);
        x.knock(0, 0, 1200);
        due.quarter(x, ANN + "door d mean near 7;");
        due.is("the hour of a new quarter", x.count(3), 0);
        due.is("the day of a new quarter", x.count(4), 0);
        due.is("no history", x.count(6) + x.count(7), 0);
        due.is("nothing learnt", x.knows(0, 4), 0);
        due.is("no tries", x.door(0, 3), 0);
        due.is("nothing can be undone", x.undo(), false);
    }

    /** WEIGHT tells what came of E. */
    private static void formulas(Due due) {
        String[] texts = {"1+2*3", "9-2-3", "(1+1)*3", "1 or 1 and 0", "0 and 0 or 1", "not 1+5", "not 0*7", "3=3", "2<2",
            "1<2", "2<1+2", "12", "0-5", "9999*9999*9999<0", "9999*9999*22<0", "not not 8", "5 and 7", "0 or 7", "2*(3<4)+1",
            "not(1 and 0)+1", "0<0-1", "8-(7-(6-(5-4)))", "1=1 and 2=2", "3=1+1", "2-1-1", "7 or 0", "0 or 0", "4 and 0"};
        int[] values = {7, 4, 6, 0, 1, 5, 7, 1, 0, 1, 1, 9, 0, 1, 1, 1, 1, 1, 3, 2, 0, 6, 1, 0, 0, 1, 0, 0};
        for (int i = 0; i < texts.length; i++) {
            KnowLocks x = due.told(ANN + "door d mean near 0;learn " + texts[i] + ";");
            x.knock(0, 0, 1200);
            due.is("learn " + texts[i], x.knows(0, 4), values[i]);
        }
    }

    private static void facts(Due due) {
        KnowLocks x = due.told("hand m maid marks 5 5 5 5 slip 0 trust 3;hand d dog marks 5 5 5 6 slip 0 trust 9;"
            + "door a mean near 9;door b mean near 9;door c mean near 9;door e counts near 99;door f counts near 99;"
            + "learn trust+100*day*0+(far+1)*0;");
        x.knock(0, 0, 1200);
        due.is("a maid is believed twice her trust", x.knows(0, 4), 6);
        x.knock(0, 1, 1200);
        due.is("a dog is not believed", x.knows(0, 4), 6);
        String hands = "hand o owner marks 5 5 5 5 slip 0 trust 3;door a mean near 9;";
        x = due.told(hands + "learn 2+far;");
        x.knock(0, 0, 1200);
        due.is("FAR NONE is -1", x.knows(0, 4), 1);
        x.knock(0, 0, 1200);
        due.is("FAR 0", x.knows(0, 4), 3);
        x = due.told(hands + "learn 1+times*3;");
        x.knock(0, 0, 1200);
        x.knock(0, 0, 1200);
        due.is("times is counted ahead of this try", x.knows(0, 4), 5);
        x.hours(24);
        x.knock(0, 0, 1200);
        due.is("times since midnight", x.knows(0, 4), 6);
        x = due.told(hands + "learn hour+4*day;");
        x.hours(3);
        x.knock(0, 0, 1200);
        due.is("the hour", x.knows(0, 4), 3);
        x.hours(21);
        x.knock(0, 0, 1200);
        due.is("the day", x.knows(0, 4), 7);
        x = due.told(hands + "learn 1+opened*3;");
        x.knock(0, 0, 1200);
        x.knock(0, 0, 1200);
        due.is("opened", x.knows(0, 4), 5);
        x = due.told(hands);
        x.knock(0, 0, 1200);
        x.knock(0, 0, 1200);
        due.is("without learn", x.knows(0, 4), 3);
        x = due.told("hand o owner marks 5 6 7 8 slip 1 trust 3;door a nearest near 9;feel mark-which*which+day*9+hour;");
        x.knock(0, 0, 1201);
        due.is("felt first", x.knows(0, 0), 6);
        due.is("felt second", x.knows(0, 1), 5);
        due.is("felt third", x.knows(0, 2), 3);
        due.is("felt fourth, not below 0", x.knows(0, 3), 0);
        x.hours(2);
        due.is("far by the hour", x.far(0, 0), 10 * (1 + 2 + 2 + 1));
        x.hours(22);
        due.is("far by the day", x.far(0, 0), 10 * (3 + 4 + 6 + 8));
    }

    private static void histories(Due due) {
        KnowLocks x = due.told(ANN + "hand opened dog marks 0 0 0 0 slip 0 trust 0;"
            + "door d mean near 7;door shut mean near 7;");
        due.history(x, "try ann d shut;night;try opened shut opened ;\nnight;night;");
        due.is("tries", x.count(6), 2);
        due.is("nights", x.count(7), 3);
        String[] texts = {"@hand", "try @", "try @hand d shut", "try @1", "try ann @", "try ann @mean", "try ann @7",
            "try ann d @", "try ann d @open", "try ann d @;", "try ann d shut @night", "night @night", "night@", "@;",
            "night;@x", "try @owner", "try @abcdefghi"};
        for (String text : texts) {
            due.faultOfHistory(x, 1, text);
        }
        String[] unknown = {"try @x", "try @d", "try ann @x", "try ann @ann", "night;try opened @opened"};
        for (String text : unknown) {
            due.faultOfHistory(x, 2, text);
        }
        due.is("tries still", x.count(6), 2);
        String tries = "try ann d shut;".repeat(24);
        String nights = "night;".repeat(12);
        due.history(x, tries + nights);
        due.is("24 tries", x.count(6), 24);
        due.is("12 nights", x.count(7), 12);
        due.faultOfHistory(x, 5, tries + "@try");
        due.faultOfHistory(x, 5, nights + "@night;");
        due.faultOfHistory(x, 5, tries + nights + "@try ann d shut;");
        due.history(x, "");
        due.is("an empty history", x.count(6) + x.count(7), 0);
    }
}
