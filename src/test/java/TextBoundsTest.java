/** Promises 1 to 4 at their bounds, both sides of each: a new object, the tape, tokens, quarters and histories. */
public final class TextBoundsTest {
    private static final String SIGNS = "()<=+-*;";
    private static final String ANN = "hand ann owner marks 1 2 3 4 slip 1 trust 5;";
    private static final String DOORS = "door d mean near 5;door e mean near 5;door f mean near 5;";

    public static void main(String[] args) {
        Due due = new Due();
        eachByteOfFeed(due);
        eachPlaceOfFeed(due);
        aFullTape(due);
        whatReadsTheTapeTakesIt(due);
        lengthsOfTokens(due);
        blanks(due);
        eachSignInAFormula(due);
        eachLetterIsAName(due);
        namesThatAreWordsElsewhere(due);
        numbersOfAQuarter(due);
        howManyHandsAndDoors(due);
        kinds(due);
        twins(due);
        streets(due);
        onceEach(due);
        namesAlike(due);
        theEndOfAText(due);
        theLeastFaultOfTheFirstToken(due);
        depthOfFormulas(due);
        factsOfEachFormula(due);
        intsThatWrap(due);
        oneOrNought(due);
        learntAndFeltAtMostNine(due);
        howManyTriesAndNights(due);
        namesOfAHistory(due);
        anEmptyQuarter(due);
        due.end();
    }

    /** Promise 2: 10 and 32 .. 126 come, all other bytes are left out. */
    private static void eachByteOfFeed(Due due) {
        KnowLocks x = new KnowLocks();
        int many = 0;
        for (int sign = 0; sign < 256; sign++) {
            many += sign == 10 || sign >= 32 && sign <= 126 ? 1 : 0;
            due.is("feed of the byte " + sign, x.feed(0, 0, sign), many);
        }
        due.is("96 of them", x.count(9), 96);
    }

    private static void eachPlaceOfFeed(Due due) {
        for (int place = 0; place < 24; place++) {
            KnowLocks x = new KnowLocks();
            String text = " ".repeat(place) + "~" + " ".repeat(23 - place);
            due.is("24 signs", x.feed(Due.eight(text, 0), Due.eight(text, 8), Due.eight(text, 16)), 24);
            due.is("the sign of place " + place, x.quarter(), 1 + 16 * place);
        }
        KnowLocks x = new KnowLocks();
        due.is("what is left out leaves no gap", x.feed(0x2000007e00000000L, 0x7e, -1L), 3);
        due.is("the second one", x.quarter(), 1 + 16);
    }

    private static void aFullTape(Due due) {
        KnowLocks x = new KnowLocks();
        Due.feed(x, " ".repeat(998));
        due.is("998", x.count(9), 998);
        due.is("999", x.feed(' ', 0, 0), 999);
        due.is("1,000", x.feed(0, 0, ' '), 1000);
        due.is("not 1,001", x.feed('~', 0, 0), 1000);
        due.is("nothing more", x.feed(0, 0, 0), 1000);
        due.is("the 1,001st was left out", x.quarter(), 0);
        x = new KnowLocks();
        Due.feed(x, " ".repeat(984));
        String text = " ".repeat(15) + "~;" + "~".repeat(7);
        due.is("16 of 24 come", x.feed(Due.eight(text, 0), Due.eight(text, 8), Due.eight(text, 16)), 1000);
        due.is("the 1,000th is the last", x.quarter(), 1 + 16 * 999);
        x = new KnowLocks();
        Due.feed(x, " ".repeat(992) + "gossip 1;");
        due.is("the sign behind is not there", x.quarter(), 1 + 16 * 1000);
        x = new KnowLocks();
        Due.feed(x, " ".repeat(991) + "gossip 1;");
        due.is("1,000 signs are a quarter", x.quarter(), 0);
        due.is("the last of them told", x.count(5), 1);
        Due.feed(x, "night;" + " ".repeat(988) + "night;~");
        due.is("1,000 signs are a history", x.history(), 0);
        due.is("its nights", x.count(7), 2);
        Due.feed(x, "~".repeat(1001));
        due.is("1,000 signs of no token", x.history(), 1);
        Due.feed(x, "a".repeat(1000));
        due.is("a word of 1,000", x.quarter(), 1);
        Due.feed(x, "learn " + "9".repeat(994));
        due.is("a number of 994", x.quarter(), 1 + 16 * 6);
        Due.feed(x, "learn 1" + "+1".repeat(496) + ";");
        due.is("a formula of 1,000", x.quarter(), 0);
        Due.feed(x, "learn 1" + "+1".repeat(496) + "+;");
        due.is("a formula of 1,000 without an end", x.quarter(), 1 + 16 * 1000);
    }

    private static void whatReadsTheTapeTakesIt(Due due) {
        KnowLocks x = new KnowLocks();
        due.is("an empty tape is a quarter", x.quarter(), 0);
        due.is("an empty tape is a history", x.history(), 0);
        Due.feed(x, "gossip 1;");
        x.quarter();
        due.is("taken by a quarter", x.count(9), 0);
        Due.feed(x, "gossip 1");
        due.is("a fault", x.quarter(), 1 + 16 * 8);
        due.is("taken by a quarter with a fault", x.count(9), 0);
        Due.feed(x, "night;");
        x.history();
        due.is("taken by a history", x.count(9), 0);
        Due.feed(x, "night");
        due.is("a fault", x.history(), 1 + 16 * 5);
        due.is("taken by a history with a fault", x.count(9), 0);
        due.is("the tape begins anew", x.feed(' ', ' ', ' '), 3);
        due.is("a quarter read as a history", historyOf(x, "gossip 1;"), 1 + 16 * 3);
        due.is("a history read as a quarter", quarterOf(x, "night;"), 1);
    }

    private static void lengthsOfTokens(Due due) {
        String[] right = {"hand abcdefgh owner marks 0 0 0 0 slip 0 trust 0;", "door abcdefgh mean near 0;", "learn 9999;", "feel 0009;",
            "door d mean near 0099;", "guard 0000 to 0023;", "gossip 0009;", "hand a owner marks 0000 0009 0 0 slip 0003 trust 0009;",
            "learn 1and 2or 3;", "learn not1;", "hand a owner marks 1 2 3 4slip 3trust 1;", "guard 1to 2;", "gossip1;",
            "hand a owner marks1 2 3 4 slip1 trust1;door b mean near1;", "learn(1)and(2)or(hour);", "learn 1<2and 2=2;"};
        for (String text : right) {
            due.told(text);
        }
        String[] wrong = {"hand @abcdefghi owner", "door @abcdefghi mean", "learn @10000;", "learn @00001;", "door d mean near @00099;",
            "guard @00000", "gossip @00009", "@handa a", "@hands", "@gossipgossip 1", "hand@1", "@1hand", "learn @notx;", "learn 1 @andx 1;",
            "learn opened@1;", "learn 1 @an d 1;", "hand a @ow ner", "@ha nd", "learn @12345678;", "learn 1234 @5;",
            "learn @12345678901234567890;", "hand a @ownerowner", "learn @timestimes;", "hand a owner marks@10000", "learn 1@hour;"};
        for (String text : wrong) {
            due.faultOfQuarter(new KnowLocks(), 1, text);
        }
    }

    private static void blanks(Due due) {
        due.told(" \n gossip \n\n 1 \n ; \n ");
        due.told("\nhand\na\nowner\nmarks\n1\n2\n3\n4\nslip\n1\ntrust\n5\n;\n");
        due.told("learn(1+2)*3<hour;feel mark;");
        KnowLocks x = due.told(ANN + "door d mean near 5;");
        due.history(x, "\ntry\nann\nd\nshut\n;\nnight\n;\n");
        due.history(x, "try ann d shut;night;");
        due.faultOfHistory(x, 1, "@tryann d shut;");
        due.is("a blank within a word", historyOf(x, "ni ght;"), 1);
    }

    /** Behind "learn 1" each sign of 33 .. 126 can stand or can't. */
    private static void eachSignInAFormula(Due due) {
        for (char sign = 33; sign <= 126; sign++) {
            KnowLocks x = new KnowLocks();
            boolean figure = sign >= '0' && sign <= '9';
            int want = 1 + 16 * 8;
            if ("+-*<=".indexOf(sign) >= 0) {
                want = 0;
            } else if (sign == ';') {
                want = 1 + 16 * 9;
            }
            due.is("learn 1 " + sign + "1;", quarterOf(x, "learn 1 " + sign + "1;"), want);
            x = new KnowLocks();
            want = figure ? 0 : 1 + 16 * 6;
            if (sign == '(') {
                want = 1 + 16 * 7;
            }
            due.is("learn " + sign + ";", quarterOf(x, "learn " + sign + ";"), want);
            x = new KnowLocks();
            due.is("learn (1" + sign, quarterOf(x, "learn (1" + sign), figure || SIGNS.indexOf(sign) > 0 && sign != ';'
                ? 1 + 16 * 9 : 1 + 16 * 8);
        }
    }

    private static void eachLetterIsAName(Due due) {
        for (char sign = 33; sign <= 126; sign++) {
            KnowLocks x = new KnowLocks();
            boolean letter = sign >= 'a' && sign <= 'z';
            due.is("hand " + sign, quarterOf(x, "hand " + sign + " owner marks 0 0 0 0 slip 0 trust 0;"), letter ? 0 : 1 + 16 * 5);
            due.is("hands by " + sign, x.count(0), letter ? 1 : 0);
            due.is("door a" + sign, quarterOf(x, "door a" + sign + " mean near 0;"), letter ? 0 : 1 + 16 * 6);
            due.is("doors by a" + sign, x.count(1), letter ? 1 : 0);
        }
    }

    /** No KIND and no word of a quarter is a name, but these are. */
    private static void namesThatAreWordsElsewhere(Due due) {
        for (String name : "try night opened shut hour day times far mark which".split(" ")) {
            KnowLocks x = due.told("hand " + name + " owner marks 1 2 3 4 slip 0 trust 0;hand z twin " + name
                + " slip 0 trust 0;door d mean near 0;");
            due.is("a twin of " + name, x.hand(1, 3), 4);
            due.history(x, "try " + name + " d shut;night;");
            x = due.told("door " + name + " mean near 0;door d mean near 0;street d " + name + ";" + ANN);
            due.is("a street to " + name, x.count(2), 1);
            due.history(x, "try ann " + name + " shut;try ann " + name + " opened;");
        }
        for (String word : ("hand marks slip trust door near street gossip guard to learn feel owner maid child dog twin "
            + "mean nearest counts cheap nervous bank not and or").split(" ")) {
            due.faultOfQuarter(new KnowLocks(), 1, "hand @" + word + " owner marks 0 0 0 0 slip 0 trust 0;");
            due.faultOfQuarter(new KnowLocks(), 1, "door @" + word + " mean near 0;");
            due.faultOfQuarter(new KnowLocks(), 1, ANN + "hand b twin @" + word + " slip 0 trust 0;");
            due.faultOfQuarter(new KnowLocks(), 1, DOORS + "street @" + word + " d;");
            due.faultOfQuarter(new KnowLocks(), 1, DOORS + "street d @" + word + ";");
            KnowLocks x = due.told(ANN + DOORS);
            due.faultOfHistory(x, 1, "try @" + word + " d shut;");
            due.faultOfHistory(x, 1, "try ann @" + word + " shut;");
        }
    }

    private static void numbersOfAQuarter(Due due) {
        String[][] bounds = {{"hand a owner marks @ 0 0 0 slip 0 trust 0;", "9"}, {"hand a owner marks 0 @ 0 0 slip 0 trust 0;", "9"},
            {"hand a owner marks 0 0 @ 0 slip 0 trust 0;", "9"}, {"hand a owner marks 0 0 0 @ slip 0 trust 0;", "9"},
            {"hand a dog marks 0 0 0 0 slip @ trust 0;", "3"}, {"hand a maid marks 0 0 0 0 slip 0 trust @;", "9"},
            {ANN + "hand a twin ann slip @ trust 0;", "3"}, {ANN + "hand a twin ann slip 0 trust @;", "9"},
            {"door d counts near @;", "99"}, {"door d bank near @;", "99"}, {"gossip @;", "9"}, {"guard @ to 23;", "23"},
            {"guard 0 to @;", "23"}};
        for (String[] bound : bounds) {
            int most = Integer.parseInt(bound[1]);
            due.told(bound[0].replace("@", "0"));
            due.told(bound[0].replace("@", bound[1]));
            due.faultOfQuarter(new KnowLocks(), 4, bound[0].replace("@", "@" + (most + 1)));
            due.faultOfQuarter(new KnowLocks(), 4, bound[0].replace("@", "@9999"));
            due.faultOfQuarter(new KnowLocks(), 1, bound[0].replace("@", "@10000"));
            due.faultOfQuarter(new KnowLocks(), 1, bound[0].replace("@", "@-1"));
            due.faultOfQuarter(new KnowLocks(), 1, bound[0].replace("@", "@x"));
        }
        String[] missing = {"hand a owner @1 2 3 4 slip 0 trust 0;", "hand a owner marks 1 2 3 4 @0 trust 0;", "hand a owner marks 1 2 3 4 slip 0 @0;",
            "hand a owner marks 1 2 3 4 @trust 0 slip 0;", ANN + "hand b twin ann @0 trust 0;", ANN + "hand b twin ann slip 0 @0;",
            ANN + "hand b twin @0 trust 0;", "door d mean @0;", "door d @near 0;", "door @near 0;", "guard 1 @2;", "guard @to 2;",
            "hand a owner marks 1 2 3 @slip 0 trust 0;", "hand a owner marks 1 2 3 4 @5 slip 0 trust 0;", DOORS + "street d @, e;", "gossip @= 1;",
            "hand a owner marks 1 2 3 4 slip 0 trust 0@", "door d mean near 0@", "hand a owner marks 1 2 3 4 slip 0 trust 0 @door d mean near 0;"};
        for (String text : missing) {
            due.faultOfQuarter(new KnowLocks(), 1, text);
        }
        due.told("guard 23 to 23;");
        due.told("guard 0 to 0;");
        due.told("guard 12 to 12;");
        due.faultOfQuarter(new KnowLocks(), 4, "guard 12 to @11;");
        due.faultOfQuarter(new KnowLocks(), 4, "guard 23 to @22;");
        due.faultOfQuarter(new KnowLocks(), 4, "guard 1 to @0;");
    }

    private static void howManyHandsAndDoors(Due due) {
        StringBuilder hands = new StringBuilder();
        for (int many = 0; many <= 7; many++) {
            KnowLocks x = due.told(hands.toString());
            due.is("hands", x.count(0), many);
            due.is("the last hand's mark", x.hand(many - 1, 0), many - 1);
            due.is("no hand behind", x.hand(many, 0), -1);
            if (many < 7) {
                hands.append("hand ").append((char) ('a' + many)).append(" dog marks ").append(many).append(" 0 0 0 slip 0 trust 0;");
            }
        }
        String seven = hands.toString();
        for (String eighth : new String[] {"@hand h dog marks 7 0 0 0 slip 0 trust 0;", "@hand", "@hand a", "@hand owner", "@hand;"}) {
            due.faultOfQuarter(new KnowLocks(), 5, seven + eighth);
        }
        due.faultOfQuarter(new KnowLocks(), 5, seven + "door p mean near 0;gossip 1;@hand h");
        StringBuilder doors = new StringBuilder();
        for (int many = 0; many <= 5; many++) {
            KnowLocks x = due.told(doors.toString());
            due.is("doors", x.count(1), many);
            due.is("the last door's near", x.door(many - 1, 1), many - 1);
            due.is("no door behind", x.door(many, 1), -1);
            if (many < 5) {
                doors.append("door ").append((char) ('p' + many)).append(" mean near ").append(many).append(';');
            }
        }
        String five = doors.toString();
        for (String sixth : new String[] {"@door u mean near 5;", "@door", "@door p", "@door bank", "@door;"}) {
            due.faultOfQuarter(new KnowLocks(), 5, five + sixth);
            due.faultOfQuarter(new KnowLocks(), 5, seven + five + sixth);
        }
        KnowLocks x = due.told(seven + five);
        due.is("seven hands and five doors", x.count(0) * 10 + x.count(1), 75);
    }

    private static void kinds(Due due) {
        String[] hands = {"owner", "maid", "child", "dog"};
        for (int kind = 0; kind < 4; kind++) {
            KnowLocks x = due.told("hand a " + hands[kind] + " marks 9 0 0 9 slip 3 trust 9;");
            due.is(hands[kind], x.hand(0, 4), kind);
            due.faultOfQuarter(new KnowLocks(), 1, "door a @" + hands[kind] + " near 1;");
            due.faultOfQuarter(new KnowLocks(), 1, "hand a " + hands[kind] + " @slip 1 trust 1;");
            due.faultOfQuarter(new KnowLocks(), 1, "hand a " + hands[kind] + " @twin a;");
        }
        String[] doors = {"mean", "nearest", "counts", "cheap", "nervous", "bank"};
        for (int kind = 0; kind < 6; kind++) {
            KnowLocks x = due.told("door a " + doors[kind] + " near 99;");
            due.is(doors[kind], x.door(0, 0), kind);
            due.faultOfQuarter(new KnowLocks(), 1, "hand a @" + doors[kind] + " marks 1 2 3 4 slip 1 trust 1;");
        }
    }

    private static void twins(Due due) {
        KnowLocks x = due.told("hand c child marks 9 0 5 1 slip 3 trust 9;hand m maid marks 1 1 1 1 slip 0 trust 4;"
            + "hand t twin c slip 1 trust 7;hand u twin m slip 0 trust 9;hand v twin t slip 2 trust 0;door d mean near 0;");
        int[] marks = {9, 0, 5, 1};
        for (int i = 0; i < 4; i++) {
            due.is("the twin's mark " + i, x.hand(2, i), marks[i]);
            due.is("the mark of a twin's twin " + i, x.hand(4, i), marks[i]);
        }
        due.is("a twin of a child is a twin", x.hand(2, 4), 4);
        due.is("its own slip", x.hand(2, 5), 1);
        due.is("it is believed by its own trust", x.hand(2, 6), 7);
        due.is("a twin of a maid is not believed twice", x.hand(3, 6), 9);
        due.is("a twin of a child is not let in", x.opens(0, 2, 1200), 0);
        due.faultOfQuarter(new KnowLocks(), 2, "hand a twin @a slip 0 trust 0;");
        due.faultOfQuarter(new KnowLocks(), 2, "hand a twin @b slip 0 trust 0;hand b owner marks 0 0 0 0 slip 0 trust 0;");
        due.faultOfQuarter(new KnowLocks(), 2, DOORS + "hand a twin @d slip 0 trust 0;");
        due.faultOfQuarter(new KnowLocks(), 2, ANN + "hand b twin @an slip 0 trust 0;");
        due.faultOfQuarter(new KnowLocks(), 2, ANN + "hand b twin @anna slip 0 trust 0;");
        due.faultOfQuarter(new KnowLocks(), 1, ANN + "hand b twin ann @marks 1 2 3 4 slip 0 trust 0;");
        due.faultOfQuarter(new KnowLocks(), 1, ANN + "hand b twin @slip 0 trust 0;");
        due.faultOfQuarter(new KnowLocks(), 1, ANN + "hand b @ann slip 0 trust 0;");
    }

    private static void streets(Due due) {
        String five = DOORS + "door g mean near 1;door h bank near 1;";
        StringBuilder all = new StringBuilder(five);
        int many = 0;
        for (char a = 'd'; a <= 'h'; a++) {
            for (char b = 'd'; b <= 'h'; b++) {
                if (a == b) {
                    due.faultOfQuarter(new KnowLocks(), 3, all + "street " + a + " @" + b + ";");
                } else if (a < b) {
                    all.append("street ").append(b).append(' ').append(a).append(';');
                    many++;
                    due.is("streets", due.told(all.toString()).count(2), many);
                } else {
                    due.faultOfQuarter(new KnowLocks(), 3, all + "street " + a + " @" + b + ";");
                    due.faultOfQuarter(new KnowLocks(), 3, all + "street " + b + " @" + a + ";");
                }
            }
        }
        due.is("each pair", many, 10);
        due.faultOfQuarter(new KnowLocks(), 2, "street @d e;" + DOORS);
        due.faultOfQuarter(new KnowLocks(), 2, "door d mean near 5;street d @e;door e mean near 5;");
        due.faultOfQuarter(new KnowLocks(), 2, ANN + DOORS + "street @ann ann;");
        due.faultOfQuarter(new KnowLocks(), 2, DOORS + "street d @x;");
        due.faultOfQuarter(new KnowLocks(), 1, DOORS + "street d @;");
        due.faultOfQuarter(new KnowLocks(), 1, DOORS + "street d e @f;");
        due.faultOfQuarter(new KnowLocks(), 1, DOORS + "street d @5 e;");
        due.told(DOORS + "street e d;street f d;street f e;");
    }

    private static void onceEach(Due due) {
        String[] laws = {"gossip 0;", "guard 1 to 2;", "learn 1;", "feel 1;"};
        for (String law : laws) {
            due.told(law);
            due.faultOfQuarter(new KnowLocks(), 3, law + "@" + law);
            due.faultOfQuarter(new KnowLocks(), 3, law + ANN + DOORS + "@" + law);
            due.faultOfQuarter(new KnowLocks(), 3, law + "@" + law.substring(0, law.indexOf(' ')));
            for (String other : laws) {
                if (!other.equals(law)) {
                    due.faultOfQuarter(new KnowLocks(), 3, law + other + "@" + law);
                    due.faultOfQuarter(new KnowLocks(), 3, other + law + "@" + other);
                }
            }
            KnowLocks x = due.told(law);
            due.quarter(x, law);
        }
        due.told("feel 1;learn 1;guard 1 to 2;gossip 0;" + ANN + DOORS);
        due.told(DOORS + "learn 1;" + ANN + "street d e;feel 1;gossip 0;street f e;guard 1 to 2;");
        due.told("learn 1;feel 1;gossip 1;guard 0 to 1;");
    }

    private static void namesAlike(Due due) {
        due.faultOfQuarter(new KnowLocks(), 3, ANN + "hand @ann dog marks 1 2 3 4 slip 0 trust 0;");
        due.faultOfQuarter(new KnowLocks(), 3, ANN + "hand @ann twin ann slip 0 trust 0;");
        due.faultOfQuarter(new KnowLocks(), 3, DOORS + "door @d bank near 0;");
        due.faultOfQuarter(new KnowLocks(), 3, DOORS + "door @f mean near 5;");
        due.faultOfQuarter(new KnowLocks(), 3, DOORS + "hand @d owner marks 0 0 0 0 slip 0 trust 0;");
        due.faultOfQuarter(new KnowLocks(), 3, ANN + "door @ann mean near 0;");
        due.told(ANN + "hand an owner marks 0 0 0 0 slip 0 trust 0;hand anna twin an slip 0 trust 0;door annb mean near 0;door a mean near 0;");
        due.told("hand ab owner marks 0 0 0 0 slip 0 trust 0;hand ba owner marks 0 0 0 0 slip 0 trust 0;");
    }

    /** The end is a token at the text's length, behind all blanks. */
    private static void theEndOfAText(Due due) {
        String[] statements = {ANN, ANN + "hand b twin ann slip 0 trust 0;", "door d mean near 5;", DOORS + "street d e;",
            "gossip 1;", "guard 1 to 2;", "learn 1 + hour * (2);", "feel not mark and which;"};
        for (String text : statements) {
            int from = text.indexOf(';') == text.length() - 1 ? 0 : text.lastIndexOf(';', text.length() - 2) + 1;
            for (int length = from + 1; length < text.length(); length++) {
                if (text.charAt(length - 1) != ' ' && text.charAt(length) != ' '
                        && Character.isLetterOrDigit(text.charAt(length - 1)) && Character.isLetterOrDigit(text.charAt(length))) {
                    continue;
                }
                due.is("cut: " + text.substring(0, length), quarterOf(new KnowLocks(), text.substring(0, length)), 1 + 16 * length);
                due.is("cut, blanks: " + text.substring(0, length), quarterOf(new KnowLocks(), text.substring(0, length) + " \n "),
                    1 + 16 * (length + 3));
            }
            due.told(text);
        }
        KnowLocks x = due.told(ANN + DOORS);
        for (String text : new String[] {"try", "try ", "try ann", "try ann d", "try ann d shut", "night", "night;night  \n"}) {
            due.is("cut: " + text, historyOf(x, text), 1 + 16 * text.length());
        }
    }

    private static void theLeastFaultOfTheFirstToken(Due due) {
        due.faultOfQuarter(new KnowLocks(), 4, "gossip @10;gossip 10;~");
        due.faultOfQuarter(new KnowLocks(), 2, DOORS + "street @x x;street d d;");
        due.faultOfQuarter(new KnowLocks(), 3, DOORS + "street d @d;gossip 99;");
        due.faultOfQuarter(new KnowLocks(), 1, "learn (((((@);");
        due.faultOfQuarter(new KnowLocks(), 1, "learn (((((@and");
        due.faultOfQuarter(new KnowLocks(), 1, "learn (((((@10000");
        due.faultOfQuarter(new KnowLocks(), 5, "learn (((((@9999");
        due.faultOfQuarter(new KnowLocks(), 1, "feel (((((@opened");
        due.faultOfQuarter(new KnowLocks(), 5, "learn (((((@opened");
        due.faultOfQuarter(new KnowLocks(), 1, "door d mean near @100000");
        due.faultOfQuarter(new KnowLocks(), 1, "gossip @to 1;");
        due.faultOfQuarter(new KnowLocks(), 1, "guard 3 @2;");
        due.faultOfQuarter(new KnowLocks(), 1, ANN + "hand @owner owner;hand ann");
        due.faultOfQuarter(new KnowLocks(), 1, "gossip 1;@gossips 1;");
    }

    /** A PART within 4 others may be, within 5 not, be they not, ( ) or some of both. */
    private static void depthOfFormulas(Due due) {
        String[] openings = {"(", "not "};
        for (int set = 0; set < 32; set++) {
            StringBuilder open = new StringBuilder();
            StringBuilder close = new StringBuilder();
            for (int i = 0; i < 5; i++) {
                if (i < 4) {
                    due.told("learn " + open + "1" + close + ";feel " + open + "mark" + close + ";");
                }
                open.append(openings[set >> i & 1]);
                close.append((set >> i & 1) == 0 ? ")" : "");
            }
            String four = open.substring(0, open.lastIndexOf(openings[set >> 4]));
            String shut = close.substring(0, close.length() - ((set >> 4 & 1) == 0 ? 1 : 0));
            due.told("learn " + four + "1" + shut + ";feel " + four + "mark" + shut + ";");
            due.faultOfQuarter(new KnowLocks(), 5, "learn " + open + "@1" + close + ";");
            due.faultOfQuarter(new KnowLocks(), 5, "learn " + open + "@not 1" + close + ";");
            due.faultOfQuarter(new KnowLocks(), 5, "feel " + open + "@(1)" + close + ";");
            due.faultOfQuarter(new KnowLocks(), 5, "feel " + open + "@which" + close + ";");
            due.faultOfQuarter(new KnowLocks(), 1, "feel " + open + "@;");
        }
        due.told("learn ((((1))))+((((2))))*((((3))))and((((4))));feel not not not not 1+not not not not mark;");
        due.told("learn (((1)+(2))*((3)-(4)))<(not(1));");
        due.faultOfQuarter(new KnowLocks(), 5, "learn ((((1))))+(((((@2)))));");
        due.faultOfQuarter(new KnowLocks(), 5, "learn ((((1+(@2)))));");
        due.faultOfQuarter(new KnowLocks(), 5, "learn not not not not not @1;");
        due.faultOfQuarter(new KnowLocks(), 5, "learn ((((not @1))));");
        due.faultOfQuarter(new KnowLocks(), 1, "learn ((((1)))@;");
        due.faultOfQuarter(new KnowLocks(), 1, "learn ((((1))))@);");
    }

    private static void factsOfEachFormula(Due due) {
        String[] both = {"hour", "day"};
        String[] learn = {"opened", "trust", "times", "far"};
        String[] feel = {"mark", "which"};
        for (String fact : both) {
            due.told("learn " + fact + ";feel " + fact + ";");
        }
        for (String fact : learn) {
            due.told("learn " + fact + ";");
            due.faultOfQuarter(new KnowLocks(), 1, "feel @" + fact + ";");
            due.faultOfQuarter(new KnowLocks(), 1, "learn 1;feel 1+@" + fact + ";");
        }
        for (String fact : feel) {
            due.told("feel " + fact + ";");
            due.faultOfQuarter(new KnowLocks(), 1, "learn @" + fact + ";");
            due.faultOfQuarter(new KnowLocks(), 1, "feel 1;learn 1+@" + fact + ";");
        }
        for (String word : new String[] {"marks", "slip", "near", "shut", "night", "to", "ann", "d", "owner", "minute"}) {
            due.faultOfQuarter(new KnowLocks(), 1, ANN + DOORS + "learn @" + word + ";");
            due.faultOfQuarter(new KnowLocks(), 1, ANN + DOORS + "feel @" + word + ";");
        }
        for (String text : new String[] {"1<2@<3", "1<2@=3", "1=2@<3", "1=2@=3", "1@(2)", "1@not 2", "@+1", "@-1", "1+@+1", "1*@-1", "1 and@;",
            "1 or@;", "1<@<2", "1=@=2", "1<@=2", "(@)", "1+(2@;", "not@;", "not@*", "1 and @and 2", "1@)"}) {
            due.faultOfQuarter(new KnowLocks(), 1, "learn " + text + ";");
        }
        due.told("learn (1<2)<3;");
        due.told("learn 1<2 and 2<3 or 3=3;");
        due.told("learn 1<(2<3);");
    }

    /** What is learnt tells what came of E: 1 if it is so. */
    private static void intsThatWrap(Due due) {
        String[] so = {"4096*4096*127*1<4096*4096*127+1", "4096*4096*128<0", "4096*4096*256=0", "4096*4096*128-1=4096*4096*127+4096*4096-1",
            "0<4096*4096*128-1", "4096*4096*127+4096*4096<0", "0-4096*4096*128<0", "0-4096*4096*128=4096*4096*128",
            "0<0-4096*4096*128-1", "(4096*4096*128-1)*2=0-2", "(4096*4096*128-1)+1=4096*4096*128", "4096*4096*128*2=0",
            "(0-4096*4096*128)*(0-1)=4096*4096*128", "9999*9999*9999<0", "9999*9999*21+9999*9999<0", "0<0-9999*9999*21-9999*9999"};
        for (String text : so) {
            KnowLocks x = due.told(ANN + "door d mean near 0;learn " + text + ";");
            x.knock(0, 0, 1200);
            due.is("it is so: " + text, x.knows(0, 4), 1);
            x = due.told(ANN + "door d mean near 0;learn not(" + text + ");");
            x.knock(0, 0, 1200);
            due.is("not so: " + text, x.knows(0, 4), 0);
            x = due.told(ANN + "door d nearest near 0;feel (" + text + ")*7;");
            x.knock(0, 0, 1200);
            due.is("felt: " + text, x.knows(0, 0), 7);
        }
    }

    /** Of not, and, or, < and = comes 1 or 0, nothing else; what is not 0 is so. */
    private static void oneOrNought(Due due) {
        String[] ones = {"not 0", "not(0 and 1)", "1 and 1", "7 and 9999", "(0-1) and (0-9999)", "1 or 0", "0 or 7", "(0-1) or 0", "7 or 9", "1<2", "(0-2)<(0-1)",
            "0=0", "9999=9999", "not not 7", "not not (0-7)", "4096*4096*128 and 1"};
        String[] noughts = {"not 1", "not 7", "not(0-1)", "0 and 0", "0 and 7", "7 and 0", "0 or 0", "2<1", "2<2", "(0-1)<(0-1)", "1=2", "1=0-1", "not not 0",
            "4096*4096*256 or 0", "4096*4096*256 and 1"};
        for (String text : ones) {
            is(due, "3+(" + text + ")*4", 7);
            is(due, "6-(" + text + ")", 5);
        }
        for (String text : noughts) {
            is(due, "3+(" + text + ")*4", 3);
            is(due, "6-(" + text + ")", 6);
        }
    }

    private static void is(Due due, String formula, int value) {
        KnowLocks x = due.told(ANN + "door d mean near 0;door n nearest near 0;learn " + formula + ";feel " + formula + ";");
        x.knock(0, 0, 1200);
        x.knock(1, 0, 1200);
        due.is("learn " + formula, x.knows(0, 4), value);
        due.is("feel " + formula, x.knows(1, 2), value);
    }

    private static void learntAndFeltAtMostNine(Due due) {
        String[] texts = {"0", "1", "8", "9", "10", "9999", "0-1", "0-9", "0-9999", "4096*4096*128", "4096*4096*128-1"};
        int[] values = {0, 1, 8, 9, 9, 9, 0, 0, 0, 0, 9};
        for (int i = 0; i < texts.length; i++) {
            KnowLocks x = due.told(ANN + "door d mean near 0;door e counts near 0;door f nearest near 0;learn " + texts[i] + ";");
            x.knock(0, 0, 1200);
            x.knock(1, 0, 1200);
            x.knock(2, 0, 1200);
            due.is("learnt " + texts[i], x.knows(0, 4), values[i]);
            due.is("summed " + texts[i], x.knows(0, 3), 4 * values[i]);
            due.is("counted " + texts[i], x.knows(1, 1), values[i]);
            due.is("a row by " + texts[i], x.knows(2, 0), values[i] > 0 ? 1 : -1);
            x = due.told(ANN + "door d mean near 0;door e counts near 0;door f nearest near 0;learn 1;feel " + texts[i] + ";");
            x.knock(0, 0, 1200);
            x.knock(1, 0, 1200);
            x.knock(2, 0, 1200);
            due.is("felt " + texts[i], x.knows(0, 0), values[i]);
            due.is("counted as felt " + texts[i], x.knows(1, 30 + values[i]), 1);
            due.is("the row felt " + texts[i], x.knows(2, 3), values[i]);
        }
    }

    private static void howManyTriesAndNights(Due due) {
        String aTry = "try ann d shut;";
        KnowLocks x = due.told(ANN + DOORS);
        for (int many = 0; many <= 24; many += 4) {
            due.history(x, aTry.repeat(many));
            due.is("tries", x.count(6), many);
            due.is("no nights", x.count(7), 0);
        }
        due.faultOfHistory(x, 5, aTry.repeat(24) + "@" + aTry);
        due.faultOfHistory(x, 5, aTry.repeat(24) + "@try;");
        due.faultOfHistory(x, 5, aTry.repeat(24) + "@try x");
        due.is("24 stay", x.count(6), 24);
        x = due.told(ANN + DOORS);
        for (int many = 0; many <= 12; many++) {
            due.history(x, "night;".repeat(many));
            due.is("nights", x.count(7), many);
            due.is("no tries", x.count(6), 0);
        }
        due.faultOfHistory(x, 5, "night;".repeat(12) + "@night;");
        due.faultOfHistory(x, 5, "night;".repeat(12) + aTry + "@night");
        due.is("12 stay", x.count(7), 12);
        x = due.told(ANN + DOORS);
        String both = (aTry + "night;" + aTry).repeat(12);
        due.history(x, both);
        due.is("24 and 12", x.count(6) * 100 + x.count(7), 2412);
        due.faultOfHistory(x, 5, both + "@" + aTry);
        due.faultOfHistory(x, 5, both + "@night;");
        due.history(x, aTry);
        due.is("a history is told anew, not added to", x.count(6) * 100 + x.count(7), 100);
        due.history(x, "night;");
        due.is("so are its nights", x.count(6) * 100 + x.count(7), 1);
    }

    private static void namesOfAHistory(Due due) {
        String quarter = "hand a owner marks 0 0 0 0 slip 0 trust 0;hand b owner marks 0 0 0 0 slip 0 trust 0;"
            + "door d mean near 0;door e mean near 0;";
        KnowLocks x = due.told(quarter);
        due.history(x, "try a d shut;try b e opened;try a e shut;try b d opened;");
        due.faultOfHistory(x, 2, "try @d a shut;");
        due.faultOfHistory(x, 2, "try a @b shut;");
        due.faultOfHistory(x, 2, "try @c d shut;");
        due.faultOfHistory(x, 2, "try a @c shut;");
        due.faultOfHistory(x, 1, "try a d @a;");
        due.faultOfHistory(x, 1, "try a d @opens;");
        due.faultOfHistory(x, 1, "try a d @1;");
        due.faultOfHistory(x, 1, "try a d opened @opened;");
        due.faultOfHistory(x, 1, "try @5 d shut;");
        due.faultOfHistory(x, 1, "try@1 d shut;");
        due.faultOfHistory(x, 1, "@a d shut;");
        due.faultOfHistory(x, 1, "@opened;");
        due.faultOfHistory(x, 1, "@~");
        due.is("four tries stay", x.count(6), 4);
        due.quarter(x, "hand c owner marks 0 0 0 0 slip 0 trust 0;door d mean near 0;");
        due.is("no history of another quarter", x.count(6), 0);
        due.faultOfHistory(x, 2, "try @a d shut;");
        due.history(x, "try c d shut;");
        x = new KnowLocks();
        due.faultOfHistory(x, 2, "try @a d shut;");
        due.history(x, "night;");
        due.is("nights without a hand or a door", x.count(7), 1);
        x = due.told("hand a owner marks 0 0 0 0 slip 0 trust 0;");
        due.faultOfHistory(x, 2, "try a @d shut;");
        x = due.told("door d mean near 0;");
        due.faultOfHistory(x, 2, "try @a d shut;");
    }

    private static void anEmptyQuarter(Due due) {
        KnowLocks x = due.told(ANN + DOORS + "street d e;gossip 7;guard 1 to 2;learn 5;feel 3;");
        due.history(x, "try ann d shut;night;");
        x.hours(25);
        x.knock(0, 0, 1200);
        due.is("an empty text", x.quarter(), 0);
        for (int what = 0; what < 10; what++) {
            due.is("count(" + what + ") of an empty quarter", x.count(what), 0);
        }
        due.quarter(x, " \n ");
        due.quarter(x, ANN + "door d mean near 0;");
        x.knock(0, 0, 1200);
        due.is("the laws are gone, too", x.knows(0, 4), 1);
        due.is("what is felt, too", x.knows(0, 0), 1);
        due.is("the guard, too", x.unseen(0, 0), 0);
        x.hours(1);
        due.is("the guard of hour 1, too", x.unseen(0, 0), 0);
    }

    private static int quarterOf(KnowLocks x, String text) {
        Due.feed(x, text);
        return x.quarter();
    }

    private static int historyOf(KnowLocks x, String text) {
        Due.feed(x, text);
        return x.history();
    }
}
