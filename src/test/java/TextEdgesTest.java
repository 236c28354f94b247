/** The boundary cases of A TEXT and of FAULT, sentence by sentence: what is quoted is the document's. */
public final class TextEdgesTest {
    private static final String REST = ";waits 1;drops 1;";
    private static final String[] OPENERS = {"(", "not ", "-"};
    private static final Check check = new Check("TextEdgesTest");

    public static void main(String[] args) {
        endsTooEarly();
        everyByte();
        everyByteAhead();
        asLongAsCanBe();
        wordsThatAreNone();
        numbersTooLong();
        blanksBetween();
        keysOutOfOrder();
        comparisonsDoNotChain();
        notBeginsItsOwn();
        opensFive("", 0, 0);
        closes();
        staysOpen();
        exactly160();
        truths();
        names();
        precedence();
        check.end();
    }

    private static int read(String text) {
        return Check.read(new HandkerchiefsDropped(), text);
    }

    private static void fault(String why, String text, int place) {
        check.due(why + ": fault of \"" + text + "\"", read(text), -100 - place);
    }

    private static void fine(String why, String text) {
        check.due(why + ": \"" + text + "\"", read(text), 1);
    }

    /** Each beginning of a text: a part of a word is no word, else the text's size is told. */
    private static void endsTooEarly() {
        String text = "looks face ; waits 6 ; drops hour ;";
        for (int size = 0; size < text.length(); size++) {
            int word = size;
            while (word > 0 && Character.isLetter(text.charAt(word - 1))) {
                word--;
            }
            boolean cut = size > word && Character.isLetter(text.charAt(size));
            fault("the text's size, if it ends too early", text.substring(0, size), cut ? word : size);
        }
        fine("it ends", text);
        fault("it goes on", text + ";", text.length());
        fault("it goes on", text + "looks", text.length());
        fault("it goes on behind a blank", text + " 1", text.length() + 1);
        fine("blanks may stand behind", text + " \n");
        fault("the size counts blanks, too", "looks 1 \n ", 10);
    }

    private static void everyByte() {
        for (int b = 0; b < 256; b++) {
            String text = "looks 1" + (char) b + REST;
            String why = "byte " + b + " behind a ONE";
            if (b == 32 || b == 10 || b >= '0' && b <= '9') {
                fine(why, text);
            } else if ("+-*<=;".indexOf(b) >= 0) {
                fault(why, text, 8);
            } else {
                fault(why, text, 7);
            }
        }
    }

    private static void everyByteAhead() {
        for (int b = 0; b < 256; b++) {
            String text = "looks " + (char) b + "1" + REST;
            String why = "byte " + b + " ahead of a ONE";
            if (b == 32 || b == 10 || b == '-' || b >= '0' && b <= '9') {
                fine(why, text);
            } else {
                fault(why, text, b == '(' ? 8 : 6);
            }
        }
    }

    private static void asLongAsCanBe() {
        fault("one WORD", "lookswaits 1" + REST, 0);
        fault("one WORD", "looks facehour" + REST, 6);
        fault("one WORD", "looks notface" + REST, 6);
        fault("one WORD", "looks 1 andface" + REST, 8);
        fine("a NUMBER ends a WORD", "looks1;waits1;drops1;");
        fine("a WORD ends a NUMBER", "looks 1and 1or 1" + REST);
        fault("a WORD behind a NUMBER", "looks 1face" + REST, 7);
        fault("a NUMBER behind a WORD", "looks face1" + REST, 10);
        fault("a NUMBER behind a NUMBER", "looks 12 34" + REST, 9);
        fine("a SIGN is of one byte", "looks --(-1)" + REST);
        fault("== are two SIGNS", "looks 1==1" + REST, 8);
        fault("<= are two SIGNS", "looks 1<=1" + REST, 8);
        fine("(( are two SIGNS", "looks((1))" + REST);
    }

    private static void wordsThatAreNone() {
        String[] none = {"a", "z", "fac", "faces", "ace", "knows", "hours", "lyin", "admit", "mor", "moree", "look",
            "wait", "drop", "an", "ands", "o", "orr", "no", "nott", "facefaceface", "nor", "xor", "kknown"};
        for (String word : none) {
            fault("neither KEY nor NAME", "looks " + word + REST, 6);
            fault("neither KEY nor NAME, where a KEY is due", word + " 1" + REST, 0);
            fault("neither KEY nor NAME, at the end", "looks 1" + REST + word, 24);
        }
        String[] keys = {"looks", "waits", "drops", "and", "or"};
        for (String word : keys) {
            fault("a KEY is no NAME", "looks " + word + REST, 6);
        }
        fault("a KEY is no NAME", "looks not" + REST, 9);
        fault("a great letter begins none", "looks FACE" + REST, 6);
        fault("a great letter ends a WORD", "looks faCe" + REST, 6);
        fault("a great letter behind a NAME", "looks faceE" + REST, 10);
    }

    private static void numbersTooLong() {
        fine("4 digits", "looks 9999" + REST);
        fine("4 digits", "looks 0000" + REST);
        fault("more than 4 are too long", "looks 10000" + REST, 6);
        fault("more than 4 are too long", "looks 00000" + REST, 6);
        fault("more than 4 are too long", "looks 1234567890123456789012" + REST, 6);
        fault("too long at the end", "looks 12345", 6);
        fault("too long where none can stand", "looks 1 12345" + REST, 8);
        fine("4 and 4 digits", "looks 9999+9999" + REST);
    }

    private static void blanksBetween() {
        fine("32 and 10, many", " \n looks\n\n1  ;\nwaits 1 ; drops\n1 \n; ");
        fine("none where none is needed", "looks(1)*(face)<-1;waits(1);drops(1);");
        int[] others = {0, 9, 11, 12, 13, 133, 160};
        for (int b : others) {
            fault("byte " + b + " is no blank", "looks 1" + REST + (char) b, 24);
        }
        fault("a blank parts a WORD", "lo oks 1" + REST, 0);
        fine("a blank parts SIGNS", "looks - - ( - 1 )" + REST);
    }

    private static void keysOutOfOrder() {
        fault("waits comes behind", "waits 1;looks 1;drops 1;", 0);
        fault("looks twice", "looks 1;looks 1;drops 1;", 8);
        fault("drops ahead of waits", "looks 1;drops 1;waits 1;", 8);
        fault("waits twice", "looks 1;waits 1;waits 1;", 16);
        fault("no E", "looks ;waits 1;drops 1;", 6);
        fault("no ;", "looks 1 waits 1;drops 1;", 8);
        fault("no looks", "1;waits 1;drops 1;", 0);
        fault("a ; first", ";looks 1" + REST, 0);
    }

    private static void comparisonsDoNotChain() {
        fault("perhaps < or = and a SUM: once", "looks 1<2<3" + REST, 9);
        fault("perhaps < or = and a SUM: once", "looks 1=2=3" + REST, 9);
        fine("in ( ) it is a ONE", "looks (1<2)<3" + REST);
        fine("in ( ) it is a ONE", "looks 1=(2=3)" + REST);
        fine("once in each NOT", "looks 1<2 and 3<4 or 5=6" + REST);
    }

    private static void notBeginsItsOwn() {
        fault("not is no TERM", "looks 1+not 1" + REST, 8);
        fault("not is no ONE", "looks 2*not 1" + REST, 8);
        fault("not is no SUM", "looks 1=not 1" + REST, 8);
        fault("not is no ONE of a -", "looks -not 1" + REST, 7);
        fine("in ( ) it is", "looks 1+(not 1)" + REST);
        fine("behind and, or", "looks 1 and not 1 or not 1" + REST);
        fault("no + ahead of a ONE", "looks +1" + REST, 6);
        fine("a - ahead of each ONE", "looks -1*-1+-1--1<-1" + REST);
    }

    /** All rows of openers that can stand: five may be open, the sixth can't stand. */
    private static void opensFive(String row, int open, int brackets) {
        int last = row.isEmpty() ? '(' : row.trim().charAt(row.trim().length() - 1);
        String text = "looks " + row + "1" + ")".repeat(brackets) + REST;
        if (open > 5) {
            int sixth = last == 't' ? 4 : 1;
            fault("while 5 of these are open", text, 6 + row.length() - sixth);
            return;
        }
        fine(open + " are open", text);
        for (String opener : OPENERS) {
            if (!opener.equals("not ") || last != '-') {
                opensFive(row + opener, open + 1, brackets + (opener.equals("(") ? 1 : 0));
            }
        }
    }

    private static void closes() {
        String five = "(((((1)))))";
        fine("a ( till its )", "looks " + five + "+" + five + "*" + five + "<" + five + REST);
        fine("a ( till its )", "looks " + five + " and " + five + " or " + five + REST);
        fine("a - till its ONE ends", "looks -----1*-----1+-----1" + REST);
        fine("a - till its ONE ends", "looks ----(1)*" + five + REST);
        fine("a - till its ONE ends, which is a (", "looks -((((1))))*" + five + REST);
        fine("a not till its NOT ends", "looks not 1 and " + five + " or not not not not not 1" + REST);
        fine("in a (, too", "looks (not not 1 and ((((1)))) or -1--1)" + REST);
        fine("of each part its own", "looks " + five + ";waits " + five + ";drops " + five + ";");
        fine("a sign between is none of these", "looks ((((1-(1)-1))))-1-1-1" + REST);
    }

    private static void staysOpen() {
        fault("a not till its NOT ends: behind <", "looks not 1<(((((1)))))" + REST, 16);
        fault("a not till its NOT ends: behind +", "looks not 1+(((((1)))))" + REST, 16);
        fault("a not till its NOT ends: behind *", "looks not 1*-----1" + REST, 16);
        fault("a ( till its )", "looks (1+(((((1))))))" + REST, 13);
        fault("a ( till its ): behind and", "looks ((1) and (((((1))))))" + REST, 19);
        fault("a - till its ONE ends: within", "looks -(1+(1+((((1))))))" + REST, 15);
        fault("all three together", "looks not (-(not -1))" + REST, 17);
    }

    private static void exactly160() {
        String sum = "1" + "+1".repeat(68);
        String text = "looks 1;waits 1;drops " + sum + ";";
        fine("160 bytes", text);
        check.due("they are 160", text.length(), 160);
        String early = "looks 1;waits 1;drops " + sum + "+";
        fault("the text's size", early, 160);
        String last = "looks 1;waits 1;drops " + sum + ")";
        fault("the last byte", last, 159);
        fault("160 of -", "-".repeat(160), 0);
        fault("160 of (", "looks " + "(".repeat(154), 11);
        fault("160 of not", "looks " + "not ".repeat(38), 26);
    }

    private static void value(String e, int due) {
        HandkerchiefsDropped x = new HandkerchiefsDropped();
        x.witness(0, 1, 1);
        check.due(e + " is read", Check.read(x, "looks 1;waits 1;drops " + e + ";"), 1);
        x.force(1);
        check.due(e, x.asks(2, 0), due);
    }

    private static void truths() {
        value("-1 and 5", 1);
        value("-1 and 0", 0);
        value("0 or -7", 1);
        value("0 or 0", 0);
        value("not -1", 0);
        value("not 0", 1);
        value("not not -9", 1);
        value("-1<0", 1);
        value("0<-1", 0);
        value("0<0", 0);
        value("-1=-1", 1);
        value("8192*8192*32<8192*8192*32-1", 1);
        value("8192*8192*32=-(8192*8192*32)", 1);
        value("0-8192*8192*32=8192*8192*32", 1);
        value("8192*8192*32*2", 0);
        value("8192*8192*64 or 0", 0);
        value("9999*9999*21<0", 0);
        value("9999*9999*22<0", 1);
        value("9999*9999*43<0", 0);
        value("9999*9999*9999<0", 1);
    }

    private static void name(HandkerchiefsDropped x, String name, int due) {
        check.due(name + " is read", Check.read(x, "looks 1;waits 1;drops " + name + ";"), 1);
        x.force(1);
        check.due(name, x.asks(2, 0), due);
    }

    private static HandkerchiefsDropped of(int kindMore, int known, int face) {
        HandkerchiefsDropped x = new HandkerchiefsDropped();
        x.witness(kindMore, known, face);
        return x;
    }

    private static void names() {
        name(of(0, 0, 0), "face", 0);
        name(of(0, 0, 99), "face", 99);
        name(of(0, 0, 0), "known", 0);
        name(of(0, 1023, 0), "known", 10);
        name(of(0, 0, 0), "more", 0);
        name(of(59, 0, 0), "more", 9);
        name(of(0, 0, 0), "hour", 0);
        name(of(0, 0, 0), "lying", 0);
        name(of(0, 0, 0), "admitted", 0);
        HandkerchiefsDropped x = of(0, 1, 0);
        for (int h = 0; h < 8; h++) {
            x.drop(0);
        }
        name(x, "lying", 8);
        HandkerchiefsDropped y = of(0, 1, 0);
        y.court(3, 0, 1023);
        name(y, "admitted", 10);
        HandkerchiefsDropped z = of(0, 1, 0);
        z.court(2, 0, 999);
        name(z, "hour-950", 49);
    }

    private static void precedence() {
        value("1+2*3-4", 3);
        value("7-2-1", 4);
        value("2*3*4", 24);
        value("-2*-3", 6);
        value("-2-3", -5);
        value("1<2*3", 1);
        value("1+1=2 and 2=1+1", 1);
        value("not 1=2 and 0", 0);
        value("1 or 1 and 0", 1);
        value("0 and 1 or 1", 1);
        value("not (1 or 1) or 7", 1);
        value("(not 0)+(2 or 3)*5", 6);
    }
}
