import java.util.ArrayList;
import java.util.List;

/** The sentences of "Terms" about a TEXT and its FAULTS, each by itself; the words stand above their test. */
public final class TextSentencesTest {
    private static final Due due = new Due("TextSentencesTest");
    private static final String SOUND = "T2;G1X07Y3Z100;G0Z5;T0;G1X1Z99;G0Y006;";

    public static void main(String[] args) {
        atMost240Characters();
        oneTo32Statements();
        aSemicolonBehindEach();
        firstLetter();
        digitBehindLetter('T', "0123", ";");
        digitBehindLetter('G', "01", "X1;");
        inThisOrderAtMostOnceAtLeastOne();
        oneToThreeDigits();
        belowSideAndAtMost100();
        spacesBeforeLettersAndSemicolons();
        spacesNowhereElse();
        firstCharacterThatCannotBeThere();
        theTextsEnd();
        ofANumberThatIsTooGreat();
        theTextIsEmptyThen();
        behindAFaultTheOneBeforeStays();
        allShortTexts();
        due.end();
    }

    private static void reads(int side, String text, int want) {
        due.is("read of [" + text + "], side " + side, Due.reading(new RouterPaths(side), text), want);
    }

    private static void faults(int side, String text, int place) {
        reads(side, text, -1 - place);
    }

    /** "A TEXT, at most 240 characters". */
    private static void atMost240Characters() {
        String full = "G1X1Y1Z5;".repeat(24) + "T0;".repeat(8);
        due.is("the test's own text", full.length(), 240);
        RouterPaths r = new RouterPaths(8);
        due.yes("240 characters", Due.type(r, full));
        due.no("the 241st, a letter", r.unit('T'));
        due.no("the 241st, a space", r.unit(' '));
        due.no("the 241st, no character at all", r.unit(127));
        due.is("read of 240 characters", r.read(), 32);
        reads(8, " ".repeat(237) + "T0;", 1);
        RouterPaths late = new RouterPaths(8);
        due.yes("239 characters", Due.type(late, " ".repeat(237) + "T0"));
        due.yes("the 240th", late.unit('1'));
        due.no("the ; is the 241st", late.unit(';'));
        due.is("read without it", late.read(), -1 - 239);
    }

    /** "is 1 to 32 STATEMENTS". */
    private static void oneTo32Statements() {
        reads(8, "", -1);
        for (int count = 1; count <= 32; count++) {
            reads(8, "T0;".repeat(count), count);
            reads(8, "G1Z5;".repeat(count), count);
        }
        for (int more = 32; more <= 126; more++) {
            faults(8, "T0;".repeat(32) + (char) more, 96);
            faults(8, "G1Z5;".repeat(32) + (char) more + "T0;", 160);
        }
        faults(8, "T0;".repeat(32) + "  T0;", 96);
        faults(8, "T0;".repeat(80), 96);
    }

    /** "each behind it a ; (59)". */
    private static void aSemicolonBehindEach() {
        String[] bare = {"T0", "T3", "G0X1", "G1Y2", "G0Z3", "G1X1Y2", "G0X1Z3", "G1Y2Z3", "G0X1Y2Z3", "G1X001Y002Z003"};
        for (String statement : bare) {
            reads(8, statement + ";", 1);
            reads(8, statement + ";" + statement + ";", 2);
            faults(8, statement, statement.length());
            faults(8, statement + ";" + statement, 2 * statement.length() + 1);
            faults(8, statement + statement + ";", statement.length());
            faults(8, statement + ":", statement.length());
            faults(8, statement + ",", statement.length());
            faults(8, statement + ";;", statement.length() + 1);
        }
    }

    /** "A statement is T .. or G ..". */
    private static void firstLetter() {
        for (char c = 33; c <= 126; c++) {
            boolean can = c == 'T' || c == 'G';
            faults(8, "" + c, can ? 1 : 0);
            faults(8, "  " + c, can ? 3 : 2);
            faults(8, "T0;" + c, can ? 4 : 3);
        }
    }

    /** "T and a digit 0 .. 3", "G and 0 or 1". */
    private static void digitBehindLetter(char letter, String digits, String rest) {
        for (char c = 32; c <= 126; c++) {
            String text = "" + letter + c + rest;
            if (digits.indexOf(c) >= 0) {
                reads(8, text, 1);
            } else {
                faults(8, text, 1);
            }
        }
        faults(8, "" + letter, 1);
        faults(8, "" + letter + "00" + rest, 2);
    }

    /** "in this order, each at most once, X, Y, Z with a NUMBER ..; at least one of these". */
    private static void inThisOrderAtMostOnceAtLeastOne() {
        for (int code = 0; code < 256; code++) {
            StringBuilder text = new StringBuilder("G1");
            int latest = 0;
            int fault = -1;
            for (int rest = code; rest != 0; rest /= 4) {
                int letter = rest % 4;
                if (letter == 0) {
                    continue;
                }
                if (letter <= latest && fault < 0) {
                    fault = text.length();
                }
                latest = letter;
                text.append((char) ('W' + letter)).append(letter);
            }
            if (latest == 0) {
                fault = text.length();
            }
            text.append(';');
            reads(8, text.toString(), fault < 0 ? 1 : -1 - fault);
        }
        faults(8, "G0;", 2);
        faults(8, "G1   ;", 5);
        faults(8, "G1", 2);
    }

    /** "a NUMBER of one to three digits". */
    private static void oneToThreeDigits() {
        for (char letter = 'X'; letter <= 'Z'; letter++) {
            for (char c = 32; c <= 126; c++) {
                boolean digit = c >= '0' && c <= '9';
                String text = "G1" + letter + c + ";";
                reads(20, text, digit ? 1 : -1 - 3);
            }
            faults(20, "G1" + letter, 3);
            reads(20, "G1" + letter + "5;", 1);
            reads(20, "G1" + letter + "05;", 1);
            reads(20, "G1" + letter + "005;", 1);
            faults(20, "G1" + letter + "0005;", 6);
            faults(20, "G1" + letter + "0000;", 6);
            faults(20, "G1" + letter + "0019;", 6);
            faults(20, "G1" + letter + "00005;", 6);
        }
        faults(20, "G1X0190;", 6);
        faults(20, "G1Z1000;", 6);
        faults(20, "G1Z0999;", 6);
    }

    /** "(X and Y below SIDE, Z at most 100)"; "of a NUMBER that is too great its first digit". */
    private static void belowSideAndAtMost100() {
        for (int side = 2; side <= 20; side++) {
            for (int number = 0; number < 1000; number = number < 130 ? number + 1 : number + 79) {
                int across = number < side ? 1 : -1 - 3;
                int down = number <= 100 ? 1 : -1 - 3;
                for (String written : waysToWrite(number)) {
                    reads(side, "G1X" + written + ";", across);
                    reads(side, "G0Y" + written + ";", across);
                    reads(side, "G1Z" + written + ";", down);
                }
            }
            reads(side, "G1X999;", -4);
            reads(side, "G1Y999;", -4);
            reads(side, "G1Z999;", -4);
        }
    }

    private static List<String> waysToWrite(int number) {
        List<String> ways = new ArrayList<>();
        String written = "" + number;
        while (written.length() <= 3) {
            ways.add(written);
            written = "0" + written;
        }
        return ways;
    }

    /** "Spaces (32) may stand before each letter and each ;". */
    private static void spacesBeforeLettersAndSemicolons() {
        for (int many = 0; many <= 4; many++) {
            String gap = " ".repeat(many);
            StringBuilder all = new StringBuilder();
            for (int p = 0; p < SOUND.length(); p++) {
                char c = SOUND.charAt(p);
                boolean may = c > '9';
                all.append(may ? gap : "").append(c);
                if (may) {
                    reads(8, SOUND.substring(0, p) + gap + SOUND.substring(p), 6);
                }
            }
            reads(8, all.toString(), 6);
        }
    }

    /** "nowhere else": where a digit must stand the space is the fault, where one may follow what comes behind it. */
    private static void spacesNowhereElse() {
        faults(8, "T 1;", 1);
        faults(8, "G 1X1;", 1);
        faults(8, "G1X 1;", 3);
        faults(8, "G1X1Y 1;", 5);
        faults(8, "G1X1Y1Z 1;", 7);
        faults(8, "G1X0 7;", 5);
        faults(8, "G1Z1 00;", 5);
        faults(8, "G1Z10  0;", 7);
        faults(8, "T1 1;", 3);
        faults(8, "T0; ", 4);
        faults(8, "T0;    ", 7);
        faults(8, "T0; ;", 4);
        faults(8, " ", 1);
        faults(8, " ;", 1);
        for (int u : new int[] {9, 10, 11, 12, 13, 160}) {
            due.no("another kind of space, unit(" + u + ")", new RouterPaths(8).unit(u));
        }
    }

    /** "FAULTS: the first character that can't be there". */
    private static void firstCharacterThatCannotBeThere() {
        for (int p = 0; p < SOUND.length(); p++) {
            for (char c : "!tgxyz/:-+.,ABHSUW[~".toCharArray()) {
                faults(8, SOUND.substring(0, p) + c + SOUND.substring(p + 1), p);
                faults(8, SOUND.substring(0, p) + c + SOUND.substring(p), p);
                faults(8, SOUND.substring(0, p) + c + "?".repeat(9), p);
            }
        }
        faults(8, SOUND + "!", SOUND.length());
    }

    /** "or the text's end". */
    private static void theTextsEnd() {
        int whole = 0;
        for (int p = 0; p < SOUND.length(); p++) {
            String start = SOUND.substring(0, p);
            if (start.endsWith(";")) {
                whole++;
                reads(8, start, whole);
                faults(8, start + "  ", p + 2);
            } else {
                faults(8, start, p);
            }
        }
    }

    /** "of a NUMBER that is too great its first digit", also where something else is wrong behind it. */
    private static void ofANumberThatIsTooGreat() {
        faults(8, "G1X8", 3);
        faults(8, "G1X8!", 3);
        faults(8, "G1X8Y9Z101;", 3);
        faults(8, "G1X7Y9Z101;", 5);
        faults(8, "G1X7Y7Z101;", 7);
        faults(8, "G1X800Y;", 3);
        faults(8, "G1X8X8;", 3);
        faults(8, "G1X9999;", 3);
        faults(8, "G1Z1011;", 3);
        faults(8, "G1   X   Y", 6);
        faults(8, "T0;  G1  X008;", 10);
        // what is wrong before the number comes first
        faults(8, "T4;G1X8;", 1);
        faults(8, "G1Y1X8;", 4);
        faults(8, "G1X1X8;", 4);
    }

    /** "READING of the text (which is empty then)": behind a fault as well. */
    private static void theTextIsEmptyThen() {
        for (String text : new String[] {"T0;", "T0", "?", SOUND, " ".repeat(240), ""}) {
            RouterPaths r = new RouterPaths(8);
            Due.reading(r, text);
            due.is("empty behind [" + text + "]", r.read(), -1);
            due.yes("room for 240 again behind [" + text + "]", Due.type(r, " ".repeat(237) + "T1;"));
            due.is("nothing stands before them", r.read(), 1);
        }
    }

    /** "READING sets the PROGRAM; behind a FAULT the one before stays". */
    private static void behindAFaultTheOneBeforeStays() {
        String[] faulty = {"", "?", "G0X1", "G0X1;G0X2;G0X8;", "T1;T1;T1;?", "T0;".repeat(33), "G0X1; "};
        for (String text : faulty) {
            RouterPaths none = new RouterPaths(8);
            due.yes("a fault in [" + text + "]", Due.reading(none, text) < 0);
            due.state("run() without a program, behind [" + text + "]", none::run);
            RouterPaths r = new RouterPaths(8);
            due.is("read", Due.reading(r, "G0X5;G0Y4;"), 2);
            due.yes("a fault in [" + text + "]", Due.reading(r, text) < 0);
            due.is("run", r.run(), 0);
            due.is("time of the one before", r.about(0), 9);
            due.is("statements of the one before", r.about(1), 2);
            due.is("x of the one before", r.about(2), 5);
            due.is("y of the one before", r.about(3), 4);
            due.is("read", Due.reading(r, "G0Y7;"), 1);
            due.is("run", r.run(), 0);
            due.is("x of the new one", r.about(2), 0);
            due.is("y of the new one", r.about(3), 7);
        }
    }

    /** Every text of up to five characters out of these, with the answer of the model's regular expression. */
    private static void allShortTexts() {
        String letters = "TGXZ019; ";
        for (int length = 0; length <= 5; length++) {
            int texts = (int) Math.pow(letters.length(), length);
            for (int code = 0; code < texts; code++) {
                StringBuilder text = new StringBuilder();
                for (int n = 0, rest = code; n < length; n++, rest /= letters.length()) {
                    text.append(letters.charAt(rest % letters.length()));
                }
                Model model = new Model(2);
                model.text = text.toString();
                reads(2, text.toString(), model.read());
                String behind = "G1X1" + text;
                model.text = behind;
                reads(2, behind, model.read());
            }
        }
    }
}
