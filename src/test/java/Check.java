/** Counts the answers that are not the ones due, and ends the program by them. */
final class Check {
    private final String name;
    private int asked;
    private int wrong;

    Check(String itsName) {
        name = itsName;
    }

    void due(String call, long got, long want) {
        asked++;
        if (got != want) {
            wrong++;
            System.out.println(name + ": " + call + " answered " + got + ", due is " + want);
        }
    }

    void isTrue(String what, boolean is) {
        due(what, is ? 1 : 0, 1);
    }

    void end() {
        System.out.println(name + ": " + asked + " asked, " + wrong + " wrong");
        System.exit(wrong == 0 && asked > 0 ? 0 : 1);
    }

    /** Puts a text's bytes on the tape. */
    static void put(HandkerchiefsDropped x, String text) {
        for (int i = 0; i < text.length(); i += 5) {
            int n = Math.min(5, text.length() - i);
            int[] b = new int[5];
            for (int k = 0; k < n; k++) {
                b[k] = text.charAt(i + k);
            }
            x.feed(n, b[0], b[1], b[2], b[3], b[4]);
        }
    }

    /** Puts a text on the tape and reads it. */
    static int read(HandkerchiefsDropped x, String text) {
        put(x, text);
        return x.text();
    }

    /** Reads a text that has no fault, and makes it the law. */
    static void rule(HandkerchiefsDropped x, String text) {
        x.force(read(x, text));
    }

    /** Makes every gentleman so keen. */
    static void allKeen(HandkerchiefsDropped x, int keen) {
        for (int man = 0; man < 6; man++) {
            x.court(1, man, keen);
        }
    }

    /** Numbers on both sides of a range, next to it and as far from it as can be. */
    static int[] outside(int least, int most) {
        return new int[] {Integer.MIN_VALUE, least - 1, most + 1, Integer.MAX_VALUE};
    }

    /** Nobody is keen, and all look by the hour: 99 in that one alone. Witnesses of fact 0, of weight 5, wait 99. */
    static HandkerchiefsDropped onlyInHour(int hour, int witnesses) {
        HandkerchiefsDropped x = new HandkerchiefsDropped();
        allKeen(x, 1);
        x.court(0, 0, 5);
        for (int p = 0; p < witnesses; p++) {
            x.witness(0, 1, 0);
        }
        rule(x, "looks 99*(hour=" + hour + ");waits 99;drops 0;");
        return x;
    }

    /** Makes a sheet a row of these numbers. */
    static void fill(HandkerchiefsDropped x, int s, int sort, int... numbers) {
        x.sheet(s, sort, numbers.length);
        for (int i = 0; i < numbers.length; i++) {
            x.cell(s, i, numbers[i]);
        }
    }
}
