/** Promise 7: run. */
public final class Promise07RunTest {
    private static final Due due = new Due("Promise07RunTest");

    public static void main(String[] args) {
        noProgram();
        steps();
        crash();
        breach();
        beginsAnew();
        nothingToDo();
        due.end();
    }

    private static void noProgram() {
        RouterPaths r = new RouterPaths(4);
        due.state("run()", r::run);
        Due.type(r, "G1Z50;");
        due.state("run() of a text that was not read", r::run);
        r.tool(0, 1, 2);
        due.is("the text stays", r.read(), 1);
        due.is("run()", r.run(), 0);
        due.is("height", r.cell(1, 0, 0), 50);
    }

    /** With n = 10, x goes over at step 5 on the way out, and at step 6 on the way back: FLOOR, not rounding to 0. */
    private static void steps() {
        RouterPaths r = new RouterPaths(4);
        due.is("out", Due.running(r, "G1X1Z90;"), 0);
        due.is("height 0", r.cell(0, 0, 0), 96);
        due.is("height 1", r.cell(1, 0, 0), 90);
        due.is("cut", r.about(5), 10);
        r.blank();
        due.is("back", Due.running(r, "G0X1;G1X0Z90;"), 0);
        due.is("height 1", r.cell(1, 0, 0), 95);
        due.is("height 0", r.cell(0, 0, 0), 90);
        due.is("height 2", r.cell(2, 0, 0), 100);
        r.blank();
        due.is("slant", Due.running(r, "G1Z98;G1X3Y1;"), 0);
        due.is("height 0 0", r.cell(0, 0, 0), 98);
        due.is("height 1 0", r.cell(1, 0, 0), 98);
        due.is("height 2 1", r.cell(2, 1, 0), 98);
        due.is("height 3 1", r.cell(3, 1, 0), 98);
        due.is("deep", r.check(1), 4);
        r.blank();
        due.is("up again cuts nothing more", Due.running(r, "G1Z60;G1Z100;"), 0);
        due.is("cut", r.about(5), 40);
        due.is("time", r.about(0), 80);
    }

    private static void crash() {
        RouterPaths r = new RouterPaths(8);
        r.tool(1, 1, 4);
        due.is("into the board", Due.running(r, "G0Z99;"), 1);
        due.is("nothing is cut", r.check(1), 0);
        due.is("level with the board is none", Due.running(r, "G0X7Y7;G0X0;"), 0);
        due.is("beside the hole", Due.running(r, "G1Z50;T1;G0Z60;"), 1);
        due.is("in the hole", Due.running(r, "G0Z50;"), 0);
        due.is("a wider tool", Due.running(r, "T1;G0Z50;"), 1);
        due.is("height stays", r.cell(1, 0, 0), 100);
        r.keep(0, 0, 7, 7, true);
        due.is("of G0 a kept cell is a crash too", Due.running(r, "G0X5;G0Z0;"), 1);
    }

    private static void breach() {
        RouterPaths r = new RouterPaths(8);
        r.tool(2, 1, 3);
        r.keep(3, 0, 3, 0, true);
        due.is("run", Due.running(r, "T2;G1Z99;G1X7;"), 2);
        due.is("what was cut stays", r.cell(2, 0, 0), 99);
        due.is("the step itself cuts nothing", r.cell(2, 1, 0), 100);
        due.is("kept stays", r.cell(3, 0, 0), 100);
        due.is("cell before", r.cell(1, 1, 0), 99);
        due.is("level with a kept cell is none", Due.running(r, "T2;G1X7;G1Z100;G0X0;"), 0);
        r.keep(3, 0, 3, 0, false);
        due.is("no more kept", Due.running(r, "T2;G1Z90;G1X7;"), 0);
        due.is("cut", r.cell(3, 0, 0), 90);
        r.keep(3, 0, 3, 0, true);
        due.is("a kept cell that is low enough is none", Due.running(r, "T2;G0Z100;G0X3;G1Z90;"), 0);
        due.is("lower is one", Due.running(r, "T2;G1X3Z89;"), 2);
    }

    /** Tool, place and time begin anew, heights stay. */
    private static void beginsAnew() {
        RouterPaths r = new RouterPaths(8);
        r.tool(3, 6, 10);
        due.is("run", Due.running(r, "T3;G1X5Y5Z98;"), 0);
        due.is("again", Due.running(r, "G1Z97;"), 0);
        due.is("x", r.about(2), 0);
        due.is("y", r.about(3), 0);
        due.is("time of tool 0", r.about(0), 3);
        due.is("cut by tool 0", r.about(5), 1);
        due.is("heights stay", r.cell(7, 7, 0), 98);
        due.is("no piece of the run before is cut again", Due.running(r, "G1Z97;"), 0);
        due.is("cut", r.about(5), 0);
    }

    private static void nothingToDo() {
        RouterPaths r = new RouterPaths(8);
        r.keep(0, 0, 7, 7, true);
        due.is("no step", Due.running(r, "G1X0Y0Z100;G0X0;T1;"), 0);
        due.is("time", r.about(0), 10);
        due.is("cut", r.about(5), 0);
        due.is("end", r.about(1), 3);
    }
}
