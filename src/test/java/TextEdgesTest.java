/** Section 1 of the document, promises 6 to 8: every edge of the tape, of its TOKENS and NUMBERS, and of the FAULTS. */
public final class TextEdgesTest {
    private static final String LAW = "c5,2,1,4,0,2;";
    private static final String TEXT = LAW + "d3,1,0;";

    public static void main(String[] args) {
        everyByteAtEveryPlace();
        everyBeginning();
        everyNumberOfALaw();
        everyNumberOfAHouse();
        whatNumbersMean();
        everyLetter();
        longestText();
        upToSixHouses();
        whereAHouseStands();
        firstFaultOfSeveral();
        leastFaultOfOneToken();
        fullTape();
        hillInPlaceOfTheOneBefore();
        latestFault();
        Check.end();
    }

    /** What a text answers, on a new object and behind another text, whose bytes must be gone. */
    private static void read(String of, String text, int place, int fault) {
        for (String ahead : new String[] {"", "c9,6,6,9,2,9;m9,6,1;u9,5,0;w8,6,1;p1,0,0;d2,2,1;d1,1,1;", "c"}) {
            SaintHill x = new SaintHill();
            if (!ahead.isEmpty()) {
                Check.feed(x, ahead);
                x.hill();
            }
            int tiers = x.count(1);
            Check.feed(x, text);
            Check.due(of + ", behind '" + ahead + "': hill of '" + text + "'", x.hill(), Check.FAULTY - place);
            Check.due(of + ", behind '" + ahead + "': fault of '" + text + "'", x.fault(), fault);
            Check.due(of + ", behind '" + ahead + "': all stays", x.count(1), tiers);
            Check.due(of + ", behind '" + ahead + "': the tape is empty", x.count(7), 0);
        }
    }

    private static void good(String of, String text, int houses) {
        SaintHill x = new SaintHill();
        Check.feed(x, text);
        Check.due(of + ": hill of '" + text + "'", x.hill(), houses);
        Check.due(of + ": fault of '" + text + "'", x.fault(), 0);
        Check.due(of + ": the tape is empty", x.count(7), 0);
    }

    private static boolean figure(int b) {
        return b >= '0' && b <= '9';
    }

    /** "TOKENS: letters a to z, NUMBERS, SIGNS , and ; nothing else, no blanks". */
    private static void everyByteAtEveryPlace() {
        int[] most = {0, 9, 0, 6, 0, 6, 0, 9, 0, 2, 0, 9, 0, 0, 5, 0, 6, 0, 1, 0};
        int[] least = {0, 2, 0, 0, 0, 0, 0, 1, 0, 0, 0, 1, 0, 0, 1, 0, 0, 0, 0, 0};
        for (int place = 0; place < TEXT.length(); place++) {
            for (int b = 0; b <= 255; b++) {
                String text = TEXT.substring(0, place) + (char) b + TEXT.substring(place + 1);
                if (place == 0 || place == 13) {
                    boolean fits = (place == 0 ? "c" : "dpmwu").indexOf(b) >= 0;
                    one("a letter", text, fits, place, 1);
                } else if (figure(TEXT.charAt(place))) {
                    boolean told = figure(b) && b - '0' >= least[place] && b - '0' <= most[place];
                    // TIERS below 3 leave no TIER 3 for the HOUSE.
                    boolean tooLow = place == 1 && told && b < '3';
                    one("a NUMBER", text, told && !tooLow, tooLow ? 14 : place, figure(b) ? 2 : 1);
                } else {
                    aSign(text, place, b);
                }
            }
        }
    }

    private static void one(String of, String text, boolean fits, int place, int fault) {
        if (fits) {
            good(of, text, 1);
        } else {
            SaintHill x = new SaintHill();
            Check.feed(x, text);
            Check.due(of + ": hill of '" + text + "'", x.hill(), Check.FAULTY - place);
            Check.due(of + ": fault of '" + text + "'", x.fault(), fault);
        }
    }

    /** A figure in a SIGN's place makes one run of the NUMBERS around it. */
    private static void aSign(String text, int place, int b) {
        if (!figure(b)) {
            one("a SIGN", text, b == TEXT.charAt(place), place, 1);
        } else if (place == TEXT.length() - 1) {
            one("a figure at the end", text, false, b <= '1' ? place + 1 : place - 1, b <= '1' ? 1 : 2);
        } else {
            one("a figure for a SIGN", text, false, place - 1, place == 12 ? 2 : 1);
        }
    }

    /** "the end: how many bytes there are". */
    private static void everyBeginning() {
        String text = LAW + "d3,1,0;p2,2,1;m5,5,1;w4,3,0;u2,4,1;d5,2,1;";
        for (int size = 0; size < text.length(); size++) {
            if (size < 13 || (size - 13) % 7 != 0) {
                read("a beginning", text.substring(0, size), size, 1);
            } else {
                good("whole houses", text.substring(0, size), (size - 13) / 7);
            }
        }
    }

    private static void everyNumberOfALaw() {
        int[] least = {2, 0, 0, 1, 0, 1};
        int[] most = {9, 6, 6, 9, 2, 9};
        for (int which = 0; which < 6; which++) {
            for (int n = 0; n <= 99; n++) {
                String[] told = {"5", "2", "1", "4", "0", "2"};
                for (String form : new String[] {"%d", "%02d", "%03d"}) {
                    told[which] = String.format(form, n);
                    String text = "c" + String.join(",", told) + ";";
                    boolean fits = n >= least[which] && n <= most[which] && told[which].length() < 3;
                    if (fits) {
                        good("a NUMBER of a law", text, 0);
                    } else {
                        read("a NUMBER of a law", text, 1 + 2 * which, told[which].length() < 3 ? 2 : 1);
                    }
                }
            }
        }
    }

    private static void everyNumberOfAHouse() {
        for (int tiers = 2; tiers <= 9; tiers++) {
            int[] least = {1, 0, 0};
            int[] most = {tiers, 6, 1};
            for (int which = 0; which < 3; which++) {
                for (int n = 0; n <= 99; n++) {
                    String[] told = {"1", "3", "0"};
                    for (String form : new String[] {"%d", "%02d", "%03d"}) {
                        told[which] = String.format(form, n);
                        String text = "c" + tiers + ",2,1,4,0,2;p" + String.join(",", told) + ";";
                        boolean fits = n >= least[which] && n <= most[which] && told[which].length() < 3;
                        one("a NUMBER of a house", text, fits, 14 + 2 * which, told[which].length() < 3 ? 2 : 1);
                    }
                }
            }
        }
    }

    private static void whatNumbersMean() {
        for (String form : new String[] {"c%d,%d,%d,%d,%d,%d;w%d,%d,%d;", "c%02d,%02d,%02d,%02d,%02d,%02d;w%02d,%02d,%02d;"}) {
            int[][] told = {{2, 0, 0, 1, 1, 1, 1, 0, 0}, {9, 6, 6, 9, 1, 9, 9, 6, 1}, {4, 3, 5, 7, 1, 3, 2, 4, 1}};
            for (int[] n : told) {
                String text = String.format(form, n[0], n[1], n[2], n[3], n[4], n[5], n[6], n[7], n[8]);
                SaintHill x = Check.told(text);
                Check.due("7 TIERS of " + text, x.count(1), n[0]);
                Check.due("7 START of " + text, x.count(5), n[1]);
                Check.due("7 DRIFT of " + text, x.line(0, 1), (n[1] + n[2]) % 7);
                Check.due("7 SPEED of " + text, x.count(8), n[3]);
                Check.due("7 TIER of " + text, x.house(0, 0), n[6]);
                Check.due("7 LINE of " + text, x.house(0, 1), n[7]);
                Check.due("7 WANTS of " + text, x.house(0, 2), n[8]);
            }
        }
        for (int tend = 0; tend <= 2; tend++) {
            for (int every = 1; every <= 9; every++) {
                SaintHill x = Check.told("c9,3,0,9," + tend + "," + every + ";");
                int line = 3;
                for (int tier = 1; tier <= 9; tier++) {
                    line = tier % every == 0 ? Math.max(0, Math.min(6, line + tend - 1)) : line;
                    Check.due("7 TEND " + tend + ", EVERY " + every + ", TIER " + tier, x.line(tier, 0), line);
                }
            }
        }
    }

    private static void everyLetter() {
        String sorts = "-dpmwu";
        for (char letter = 'a'; letter <= 'z'; letter++) {
            int kind = Math.max(0, sorts.indexOf(letter));
            if (kind > 0) {
                Check.due("7 a house " + letter, Check.told(LAW + letter + "5,6,1;").kind(0), kind);
            } else {
                read("a letter that is no SORT", LAW + letter + "5,6,1;", 13, 1);
            }
            if (letter != 'c') {
                read("a letter that is no law", letter + "5,2,1,4,0,2;", 0, 1);
            }
            read("a letter for a NUMBER", "c" + letter, 1, 1);
            read("a letter for a SIGN", "c5" + letter, 2, 1);
            read("capitals", Character.toUpperCase(letter) + "5,2,1,4,0,2;", 0, 1);
        }
    }

    /** Every NUMBER of two figures, six HOUSES: 79 bytes, and nothing can stand behind. */
    private static void longestText() {
        String text = "c09,06,06,09,02,09;d09,06,01;p01,00,00;m09,00,01;w01,06,00;u05,03,01;d04,03,01;";
        Check.due("the longest text", text.length(), 79);
        good("the longest text", text, 6);
        read("a seventh behind the longest text", text + "d08,03,01;", 79, 3);
        read("a byte behind the longest text", text + ";", 79, 1);
        read("21 bytes behind the longest text", text + "d08,03,01;d07,03,01;d", 79, 3);
    }

    /** "HOUSES 0 .. 5, 6 at most"; "3 a house more than there is room for (its letter)". */
    private static void upToSixHouses() {
        StringBuilder text = new StringBuilder(LAW);
        for (int houses = 0; houses <= 6; houses++) {
            good("houses", text.toString(), houses);
            SaintHill x = Check.told(text.toString());
            Check.due("36 houses", x.count(2), houses);
            Check.due("7 all are OPEN", x.count(4), (1 << houses) - 1);
            Check.due("14 the last one", houses == 0 ? 5 : x.house(houses - 1, 1), houses == 0 ? 5 : houses - 1);
            Check.due("14 none behind it", x.house(houses, 1), Check.BAD);
            text.append("dpmwuddp".charAt(houses)).append("5,").append(houses).append(",1;");
        }
        for (char sort : "dpmwu".toCharArray()) {
            String six = text.substring(0, 55);
            read("a seventh", six + sort + "1,1,1;", 55, 3);
            read("a seventh's letter alone", six + sort, 55, 3);
            read("a seventh that is wrong further on", six + sort + "99,,", 55, 3);
            read("a seventh where one stands", six + sort + "5,0,1;", 55, 3);
        }
    }

    /** "no HOUSE told ahead of it stands there". */
    private static void whereAHouseStands() {
        int[][] cells = {{1, 0}, {5, 6}, {3, 3}, {5, 0}, {1, 6}};
        StringBuilder text = new StringBuilder(LAW);
        for (int[] cell : cells) {
            text.append('m').append(cell[0]).append(',').append(cell[1]).append(",0;");
        }
        int line = text.length() + 3;
        for (int tier = 1; tier <= 5; tier++) {
            for (int at = 0; at <= 6; at++) {
                boolean stands = false;
                for (int[] cell : cells) {
                    stands |= cell[0] == tier && cell[1] == at;
                }
                String six = text + "w" + tier + "," + at + ",1;";
                if (stands) {
                    read("where one stands", six, line, 2);
                    read("where one stands, and no more", text + "w" + tier + "," + at, line, 2);
                    read("where one stands, of two figures", text + "w" + tier + ",0" + at + ",1;", line, 2);
                } else {
                    good("where none stands", six, 6);
                }
            }
        }
    }

    /** "the first TOKEN that has one". */
    private static void firstFaultOfSeveral() {
        read("two NUMBERS", "c1,7,1,4,0,2;", 1, 2);
        read("a NUMBER, then a blank", "c5,7, 1,4,0,2;", 3, 2);
        read("a blank, then a NUMBER", "c 5,7,1,4,0,2;", 1, 1);
        read("a NUMBER, then the end", "c5,2,1,4,0,0", 11, 2);
        read("three figures, then a NUMBER", "c005,7,1,4,0,2;", 1, 1);
        read("a NUMBER, then three figures", "c1,002,1,4,0,2;", 1, 2);
        read("a TIER, then a LINE", LAW + "d6,7,2;", 14, 2);
        read("a LINE, then WANTS", LAW + "d5,7,2;", 16, 2);
        read("a LINE where one stands, then WANTS", TEXT + "d3,1,2;", 23, 2);
        read("a house, then a seventh", LAW + "d1,0,0;d1,1,0;d1,2,0;d1,3,0;d1,4,0;d5,0,2;u5,1,0;", 53, 2);
        read("two houses", LAW + "d3,1,0;x1,1,1;d9,9,9;", 20, 1);
    }

    /** "of one TOKEN the least": what cannot stand there has no second fault. */
    private static void leastFaultOfOneToken() {
        String six = LAW + "d1,0,0;d1,1,0;d1,2,0;d1,3,0;d1,4,0;d5,0,0;";
        for (String token : new String[] {"x", "c", "a", "z", ",", ";", "7", "77", "777", " ", "D"}) {
            read("behind six houses", six + token, 55, 1);
        }
        read("three figures, not as told", "c100,2,1,4,0,2;", 1, 1);
        read("three figures, as told", "c005,2,1,4,0,2;", 1, 1);
        read("four figures", "c0005,2,1,4,0,2;", 1, 1);
        read("a hundred figures", "0".repeat(100), 0, 1);
        read("99 figures behind c", "c" + "5".repeat(99), 1, 1);
        read("three figures for a SIGN", "c5,2,1,4,0,2;123", 13, 1);
        read("a LINE of three figures where one stands", TEXT + "d3,001,0;", 23, 1);
        read("three figures at the end", "c5,2,1,4,0,002", 11, 1);
    }

    /** "THE TAPE has at most 100 bytes". */
    private static void fullTape() {
        SaintHill x = new SaintHill();
        for (int round = 0; round < 3; round++) {
            for (int k = 1; k <= 100; k++) {
                Check.due("6 byte " + k, x.feed(k == 100 ? ';' : 'c'), k);
            }
            Check.due("6 a byte more", x.feed('c'), Check.FULL);
            Check.due("6 one more again", x.feed(0), Check.FULL);
            Check.due("6 not a byte", x.feed(256), Check.BAD);
            Check.due("36 100 bytes", x.count(7), 100);
            Check.due("7 read", x.hill(), Check.FAULTY - 1);
            Check.due("36 empty", x.count(7), 0);
        }
        Check.feed(x, LAW + "d".repeat(90));
        Check.due("6 what is refused is not there", x.count(7), 100);
        Check.due("7 a house that ends too soon", x.hill(), Check.FAULTY - 14);
        Check.feed(x, TEXT);
        Check.due("7 a HILL behind all that", x.hill(), 1);
        Check.due("7 empty, too", x.hill(), Check.FAULTY);
        Check.due("8 the end", x.fault(), 1);
        Check.due("7 the HILL stays", x.count(2), 1);
    }

    private static void hillInPlaceOfTheOneBefore() {
        SaintHill x = Check.told("c9,3,2,5,1,1;m1,3,1;m9,6,1;m9,5,1;m9,4,1;m9,3,1;m9,2,1;");
        x.years(1);
        x.door(5, 0);
        x.build(1, 8, 6);
        x.speed(9);
        Check.feed(x, "c2,0,0,1,1,1;d2,6,0;");
        Check.due("7 one house", x.hill(), 1);
        int[] due = {0, 2, 1, 0, 1, 0, 0, 0, 1, 0};
        for (int what = 0; what <= 9; what++) {
            Check.due("7 in place of the one before: count(" + what + ")", x.count(what), due[what]);
        }
        Check.due("7 no ACT can be undone", x.undo(), Check.STATE);
        Check.due("7 no TIER 3", x.at(3, 0), Check.BAD);
        Check.due("7 no second HOUSE", x.kind(1), Check.BAD);
        Check.due("7 nobody where the miser stood", x.at(1, 3), Check.NONE);
        Check.feed(x, "c9,3,2,5,1,1;m1,3,1;m9,6,1;m9,5,1;m9,4,1;m9,3,1;m9,2,1;");
        Check.due("7 six again", x.hill(), 6);
        for (int house = 0; house < 6; house++) {
            Check.due("7 OPEN again", x.house(house, 3), 1);
            Check.due("7 never GOT it", x.house(house, 4), 0);
        }
        Check.due("7 where it is told", x.house(1, 0), 9);
        Check.due("7 as fast as told", x.count(8), 5);
    }

    /** "The number of the latest FAULT; 0 before one." */
    private static void latestFault() {
        SaintHill x = new SaintHill();
        Check.due("8 before one", x.fault(), 0);
        Check.feed(x, LAW);
        x.hill();
        Check.due("8 before one, behind a HILL", x.fault(), 0);
        String[] texts = {"x", "c1", LAW + "d1,0,0;d1,1,0;d1,2,0;d1,3,0;d1,4,0;d5,0,0;u", "c1", ""};
        int[] faults = {1, 2, 3, 2, 1};
        for (int i = 0; i < texts.length; i++) {
            Check.feed(x, texts[i]);
            x.hill();
            Check.due("8 fault of " + texts[i], x.fault(), faults[i]);
            Check.feed(x, LAW);
            Check.due("7 a HILL", x.hill(), 0);
            Check.due("8 the latest stays", x.fault(), faults[i]);
        }
    }
}
