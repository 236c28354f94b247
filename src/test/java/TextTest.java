/** Promises 5 and 6: the tape, and which texts can be read from it, with their faults. */
public final class TextTest {
    private static final Check check = new Check("TextTest");

    public static void main(String[] args) {
        feeds();
        numbers();
        values();
        faults();
        lexicalFaults();
        depths();
        longest();
        check.end();
    }

    private static void feeds() {
        HandkerchiefsDropped x = new HandkerchiefsDropped();
        check.due("n 0", x.feed(0, 1, 1, 1, 1, 1), -2);
        check.due("n 6", x.feed(6, 1, 1, 1, 1, 1), -2);
        for (int i = 0; i < 5; i++) {
            int[] b = new int[5];
            b[i] = 256;
            check.due("byte " + i, x.feed(1, b[0], b[1], b[2], b[3], b[4]), -2);
            b[i] = -1;
            check.due("byte " + i, x.feed(5, b[0], b[1], b[2], b[3], b[4]), -2);
        }
        check.due("empty still", x.count(5), 0);
        check.due("edges", x.feed(3, 0, 255, 7, 0, 255), 3);
        check.due("behind", x.feed(5, 1, 2, 3, 4, 5), 8);
        check.due("the byte 0 is none", x.text(), -100);
        check.due("empty again", x.count(5), 0);
        for (int i = 1; i <= 31; i++) {
            check.due("five more", x.feed(5, 32, 32, 32, 32, 32), 5 * i);
        }
        check.due("to 158", x.feed(3, 32, 32, 32, 32, 32), 158);
        check.due("no room", x.feed(3, 32, 32, 32, 32, 32), -4);
        check.due("bad ahead of full", x.feed(3, 32, 32, 32, 32, 256), -2);
        check.due("none came", x.count(5), 158);
        check.due("to 160", x.feed(2, 32, 32, 32, 32, 32), 160);
        check.due("full", x.feed(1, 32, 32, 32, 32, 32), -4);
        check.due("ends too early", x.text(), -260);
        check.due("empty", x.count(5), 0);
    }

    private static void numbers() {
        HandkerchiefsDropped x = new HandkerchiefsDropped();
        for (int t = 1; t < 6; t++) {
            check.due("text " + t, Check.read(x, "looks 1;waits 1;drops 1;"), t);
            check.due("tape", x.count(5), 0);
        }
        check.due("six", x.count(3), 6);
        Check.put(x, "!");
        check.due("full ahead of the fault", x.text(), -4);
        check.due("the tape stays", x.count(5), 1);
    }

    private static void value(String e, int want) {
        HandkerchiefsDropped x = new HandkerchiefsDropped();
        x.witness(47, 11, 23);
        x.court(2, 0, 13);
        x.court(3, 0, 31);
        check.due("read " + e, Check.read(x, "looks 1;waits 1;drops " + e + ";"), 1);
        x.force(1);
        check.due(e, x.asks(2, 0), want);
    }

    private static void values() {
        value("face", 23);
        value("known", 3);
        value("hour", 13);
        value("lying", 0);
        value("admitted", 5);
        value("more", 7);
        value("0007", 7);
        value("1+2*3", 7);
        value("(1+2)*3", 9);
        value("10-3-2", 5);
        value("10-(3-2)", 9);
        value("-3*2", -6);
        value("2*-3", -6);
        value("5--3", 8);
        value("- -4", 4);
        value("3<4", 1);
        value("4<3", 0);
        value("3<3", 0);
        value("3=3", 1);
        value("3=4", 0);
        value("1+1=2", 1);
        value("-5<1-2", 1);
        value("not 0", 1);
        value("not 5", 0);
        value("not not 5", 1);
        value("not 3<4", 0);
        value("not 1=2", 1);
        value("2 and 3", 1);
        value("2 and 0", 0);
        value("0 and 2", 0);
        value("0 or 7", 1);
        value("7 or 0", 1);
        value("0 or 0", 0);
        value("1 or 0 and 0", 1);
        value("(1 or 0) and 0", 0);
        value("not 0 and 0", 0);
        value("0 and 0 or 5", 1);
        value("9 or 0 or 0", 1);
        value("3 and 3 and 0", 0);
        value("not 0+1", 0);
        value("3*(2 or 0)", 3);
        value("5*(3<4)", 5);
        value("7-(2=2)", 6);
        value("9+(2 and 2)", 10);
        value("9-(not 0)", 8);
        value("256*256*256*256=0", 1);
        value("256*256*256*128<0", 1);
        value("256*256*256*128-1<0", 0);
        value("-(256*256*256*128)<0", 1);
        value("\n face \n+\n1 ", 24);
        value("1or 0", 1);
    }

    private static void fault(String text, int place) {
        HandkerchiefsDropped x = new HandkerchiefsDropped();
        check.due("fault of \"" + text + "\"", Check.read(x, text), -100 - place);
        check.due("the tape is empty behind \"" + text + "\"", x.count(5), 0);
        check.due("no text more", x.count(3), 1);
    }

    private static void faults() {
        fault("", 0);
        fault("   ", 3);
        fault("looks", 5);
        fault("looks 1 ", 8);
        fault("looks 1;", 8);
        fault("looks 1;waits 1;drops 1", 23);
        fault("looks 1;waits 1;drops 1;;", 24);
        fault("looks 1;waits 1;drops 1; looks", 25);
        fault("waits 1;", 0);
        fault("looks ;", 6);
        fault("looks 1 waits", 8);
        fault("looks 1;drops 1;", 8);
        fault("looks 1;waits looks", 14);
        fault("looks 1 2;", 8);
        fault("looks 1 face;", 8);
        fault("looks 1+;", 8);
        fault("looks 1+*2;", 8);
        fault("looks 1<2<3;", 9);
        fault("looks 1=2<3;", 9);
        fault("looks 1<not 2;", 8);
        fault("looks - not 2;", 8);
        fault("looks 1+not 2;", 8);
        fault("looks not;", 9);
        fault("looks not and 1;", 10);
        fault("looks 1 or;", 10);
        fault("looks (1;", 8);
        fault("looks 1);", 7);
        fault("looks ();", 7);
        fault("looks +1;", 6);
        fault("looks and 1;", 6);
        fault("looks 1 not 1;", 8);
    }

    private static void lexicalFaults() {
        fault("looks face2;", 10);
        fault("looks faces;", 6);
        fault("looks fac;", 6);
        fault("looks facez;", 6);
        fault("looks (x 1);", 7);
        fault("looks -x 1;", 7);
        fault("look 1;", 0);
        fault("looks1;waits1;drops1;x", 21);
        fault("looks 12345;", 6);
        fault("looks 00001;", 6);
        fault("looks 1 >2;", 8);
        fault("looks Face;", 6);
        fault("looks\t1;", 5);
        fault("looks 1;\u00ff", 8);
        fault("looksface;", 0);
        fault("looks 1 mores", 8);
        // What can't stand there is told ahead of what is wrong farther on.
        fault("looks 1 1 ?", 8);
        fault("looks ? )", 6);
        HandkerchiefsDropped x = new HandkerchiefsDropped();
        check.due("a word of 20", Check.read(x, "aaaaaaaaaaaaaaaaaaaa"), -100);
        check.due("nothing of it stays behind", Check.read(x, "looks 1;waits"), -113);
        check.due("without blanks", Check.read(x, "looks1;waits2;drops3;"), 1);
    }

    private static void depths() {
        HandkerchiefsDropped x = new HandkerchiefsDropped();
        check.due("five (", Check.read(x, "looks (((((1)))));waits 1;drops 1;"), 1);
        check.due("five not", Check.read(x, "looks not not not not not 1;waits 1;drops 1;"), 2);
        check.due("five -", Check.read(x, "looks - - - - -1;waits 1;drops 1;"), 3);
        check.due("mixed, and closed", Check.read(x, "looks not(-(-1))+((((1))));waits ((1))+((((-1))));drops 1;"), 4);
        fault("looks ((((((1))))));", 11);
        fault("looks not not not not not not 1;", 26);
        fault("looks ------1;", 11);
        fault("looks not(not(-(1)));", 15);
        fault("looks not ((-(-1)));", 14);
        // A not stays open till its comparison ends, a - only till its one does.
        fault("looks not 1<(((((1)))));", 16);
        check.due("a - ended", Check.read(x, "looks -1+(((((1)))));waits -1--1;drops 1;"), 5);
        HandkerchiefsDropped y = new HandkerchiefsDropped();
        check.due("a not ended", Check.read(y, "looks not 1 and (((((1)))));waits 1;drops 1;"), 1);
        check.due("a sign between is not counted", Check.read(y, "looks 1-1-1-1-1-1-1-1-(1-(1));waits 1;drops 1;"), 2);
        check.due("a (, a sign, a -", Check.read(y, "looks ((((1--1))));waits 1;drops 1;"), 3);
        fault("looks (((((1--1)))));", 13);
    }

    private static void longest() {
        fault(" ".repeat(153) + "looks 1", 160);
        fault(" ".repeat(155) + "looks", 160);
        fault(" ".repeat(159) + "?", 159);
        HandkerchiefsDropped x = new HandkerchiefsDropped();
        StringBuilder text = new StringBuilder("looks 1;waits 1;drops 0");
        while (text.length() < 157) {
            text.append("+1");
        }
        text.append(";");
        while (text.length() < 160) {
            text.append(' ');
        }
        x.witness(0, 1, 1);
        check.due("160 bytes", Check.read(x, text.toString()), 1);
        x.force(1);
        check.due("its value", x.asks(2, 0), 67);
    }
}
