/** Promise 6: read. */
public final class Promise06ReadTest {
    private static final Due due = new Due("Promise06ReadTest");

    public static void main(String[] args) {
        sound();
        faultsOfLetters();
        faultsOfNumbers();
        faultsOfSpaces();
        faultsOfLength();
        programStays();
        due.end();
    }

    private static void reads(int side, String text, int want) {
        RouterPaths r = new RouterPaths(side);
        due.yes("room for " + text, Due.type(r, text));
        due.is("read of " + text, r.read(), want);
        due.is("the text is empty behind " + text, r.read(), -1);
        if (want < 0) {
            due.state("no program behind " + text, r::run);
        }
    }

    private static void sound() {
        reads(8, "T0;", 1);
        reads(8, "T3;", 1);
        reads(8, "G0X7;", 1);
        reads(8, "G1Y007;", 1);
        reads(8, "G1Z100;", 1);
        reads(8, "G0Z000;", 1);
        reads(8, "G0X1Y2Z3;", 1);
        reads(8, "G0X1Z3;", 1);
        reads(8, "G0Y1Z3;", 1);
        reads(8, "G0X1Y3;", 1);
        reads(20, "G0X19Y019;", 1);
        reads(2, "G1X1Y0;G0X0;", 2);
        reads(8, "  T1  ;  G1  X1  Y2  Z3  ;  G0  Z4  ;", 3);
        reads(8, "T0;".repeat(32), 32);
        reads(8, "G1Y5;".repeat(32), 32);
        reads(8, " T0;".repeat(31) + "T0 ;", 32);
    }

    private static void faultsOfLetters() {
        reads(8, "", -1);
        reads(8, "X1;", -1);
        reads(8, ";", -1);
        reads(8, "t1;", -1);
        reads(8, "T", -2);
        reads(8, "G", -2);
        reads(8, "T4;", -2);
        reads(8, "T/;", -2);
        reads(8, "G2X1;", -2);
        reads(8, "GX1;", -2);
        reads(8, "T1", -3);
        reads(8, "T11;", -3);
        reads(8, "T1X1;", -3);
        reads(8, "T1T1;", -3);
        reads(8, "G1", -3);
        reads(8, "G1;", -3);
        reads(8, "G11X1;", -3);
        reads(8, "G1T1;", -3);
        reads(8, "G1x1;", -3);
        reads(8, "G1X", -4);
        reads(8, "G1Y", -4);
        reads(8, "G1Z", -4);
        reads(8, "G1X1Y", -6);
        reads(8, "G1Y1Z", -6);
        reads(8, "T0;G1X1Y1Z", -11);
        reads(8, "G1X;", -4);
        reads(8, "G1XY1;", -4);
        reads(8, "G1X-1;", -4);
        reads(8, "G1X1", -5);
        reads(8, "G1X1X1;", -5);
        reads(8, "G1Y1X1;", -5);
        reads(8, "G1Z1X1;", -5);
        reads(8, "G1Z1Y1;", -5);
        reads(8, "G1Z1Z1;", -5);
        reads(8, "G1X1T1;", -5);
        reads(8, "G1X1.5;", -5);
        reads(8, "T1;;", -4);
        reads(8, "T1;G", -5);
        reads(8, "T1;1", -4);
    }

    private static void faultsOfNumbers() {
        reads(8, "G1X8;", -4);
        reads(8, "G1X008;", -4);
        reads(8, "G1X80;", -4);
        reads(8, "G1X8", -4);
        reads(8, "G1X9!", -4);
        reads(8, "G1X12345;", -4);
        reads(8, "G1X0001;", -7);
        reads(8, "G1X0000;", -7);
        reads(8, "G1X07 Y8;", -8);
        reads(8, "G1Z101;", -4);
        reads(8, "G1Z999;", -4);
        reads(8, "G1Z1000;", -7);
        reads(8, "G1X1Y2Z200;", -8);
        reads(20, "G1X20;", -4);
        reads(20, "G1X1Y20;", -6);
        reads(2, "G1X2;", -4);
        reads(2, "G1Y2;", -4);
        reads(-3, "G1Y2;", -4);
        reads(50, "G1X19Y20;", -7);
    }

    private static void faultsOfSpaces() {
        reads(8, "T 1;", -2);
        reads(8, "G 1X1;", -2);
        reads(8, "G1X 1;", -4);
        reads(8, "G1X1 1;", -6);
        reads(8, "T1 1;", -4);
        reads(8, "G1 ;", -4);
        reads(8, "G1  ", -5);
        reads(8, "T1 ", -4);
        reads(8, "T1; ", -5);
        reads(8, "T1;   ", -7);
        reads(8, "T1; ;", -5);
        reads(8, "  ", -3);
        reads(8, "G1X1 X1;", -6);
    }

    private static void faultsOfLength() {
        String most = "T0;".repeat(32);
        reads(8, most + "T0;", -97);
        reads(8, most + " ", -97);
        reads(8, most + " T0;", -97);
        reads(8, most + ";", -97);
        reads(8, "T0;".repeat(31) + " ", -95);
        reads(8, "T0;".repeat(31) + "T0", -96);
        reads(8, " ".repeat(240), -241);
        reads(8, " ".repeat(239) + "T", -241);
        reads(8, " ".repeat(238) + "T0", -241);
    }

    private static void programStays() {
        RouterPaths r = new RouterPaths(8);
        due.is("read", Due.reading(r, "T1;G0X3;"), 2);
        due.is("fault", Due.reading(r, "G0X4;T2;T2;G0"), -14);
        due.is("run", r.run(), 0);
        due.is("x of the one before", r.about(2), 3);
        due.is("count of the one before", r.about(1), 2);
        due.is("empty", r.read(), -1);
        due.is("run", r.run(), 0);
        due.is("x of the one before", r.about(2), 3);
        due.is("read", Due.reading(r, "G0Y5;"), 1);
        due.is("x of the latest run, not of the new program", r.about(2), 3);
        due.is("run", r.run(), 0);
        due.is("x", r.about(2), 0);
        due.is("y", r.about(3), 5);
        due.is("fault", Due.reading(r, "G0X4;G0X9;"), -9);
        due.is("run", r.run(), 0);
        due.is("x", r.about(2), 0);
        due.is("y", r.about(3), 5);
        due.is("count", r.about(1), 1);
    }
}
