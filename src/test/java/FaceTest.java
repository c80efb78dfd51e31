/** Promises 1 to 4, 16, 17, 19 and 20: the tape, routines, what is looked at, counts. */
public final class FaceTest {
    public static void main(String[] args) {
        beginning();
        tapes();
        saves();
        inUse();
        looks();
        looksThatAreRefused();
        House.report();
    }

    private static void beginning() {
        House.due("NONE", MumpsHouse.NONE, -1);
        House.due("BAD", MumpsHouse.BAD, -2);
        House.due("STATE", MumpsHouse.STATE, -3);
        House.due("FULL", MumpsHouse.FULL, -4);
        House.due("DOWN", MumpsHouse.DOWN, -5);
        House.due("LOST", MumpsHouse.LOST, -6);
        MumpsHouse h = new MumpsHouse();
        for (int i = 0; i < 15; i++) House.due("count " + i, h.count(i), 0);
        for (int i : new int[] {-1, 15, Integer.MAX_VALUE}) House.due("count " + i, h.count(i), -1);
        House.due("result", h.result(0), -1);
        House.due("lock", h.lock(0, 0), -1);
        House.due("state", h.state(0, 0), -1);
        House.due("octet", h.octet(1, 0), 0);
        House.due("verify", h.verify(), -1);
        House.due("sync", h.sync(), 0);
        House.due("start", h.start(), -3);
        House.due("sound", h.sound(), 1);
        House.due("end", h.end(0), 0);
        House.due("end", h.end(1), -1);
    }

    private static void tapes() {
        MumpsHouse h = new MumpsHouse();
        for (int i = 1; i <= 200; i++) House.due("feed", h.feed(0x41424344, -1, 0, Integer.MIN_VALUE, 1), 20 * i);
        House.due("feed", h.feed(0, 0, 0, 0, 0), -4);
        House.due("end", h.end(4000), 4000);
        House.due("end", h.end(4001), -1);
        House.due("end", h.end(-1), -1);
        House.due("end", h.end(3981), 3981);
        House.due("feed", h.feed(0, 0, 0, 0, 0), -4);
        House.due("end", h.end(3980), 3980);
        House.due("feed", h.feed(0, 0, 0, 0, 0), 4000);
        House.due("end", h.end(0), 0);
        // the bytes of each number, the highest first
        h.feed(0x572022C0, 0xC1C2C3C4, 0xFF, 0x80000000, 0x0A0B2200);
        h.end(17);
        h.feed(0x22000000, 0, 0, 0, 0);
        h.end(18);
        House.due("process with a byte 10", h.process(), -2);
        h.feed(0x572022C0, 0xC1C2C3C4, 0xFF, 0x80000000, 0x0B002200);
        h.end(19);
        House.due("process", h.process(), 0);
        h.turns(2);
        int[] want = {0xC0, 0xC1, 0xC2, 0xC3, 0xC4, 0, 0, 0, 0xFF, 0x80, 0, 0, 0, 0x0B, 0, -1};
        for (int i = 0; i < want.length; i++) House.due("byte " + i, h.written(0, i), want[i]);
        House.due("the tape is used up", h.end(1), -1);
        // also by what is refused
        House house = new House();
        house.tape("W 1").house.process();
        House.due("behind process", house.house.end(1), -1);
        house.tape("(").house.process();
        House.due("behind a bad process", house.house.end(1), -1);
        house.tape("x").house.tell(9);
        House.due("behind tell", house.house.end(1), -1);
        house.tape("A").house.look(0, 9);
        House.due("behind look", house.house.end(1), -1);
        house.tape("A W").house.save(1);
        House.due("behind save", house.house.end(1), -1);
        for (int i = 1; i < 6; i++) house.process("H 1");
        house.tape("H 1");
        House.due("FULL", house.house.process(), -4);
        House.due("behind FULL", house.house.end(1), -1);
    }

    private static void saves() {
        House h = new House();
        House.due("save", h.save("ABCDEFGH", ""), 1);
        House.due("save", h.save("%1", "A\n\n"), 3);
        h.tape("AB W 1");
        House.due("save", h.house.save(0), -1);
        House.due("used up", h.house.end(1), -1);
        for (int n : new int[] {-1, 9, 7, Integer.MIN_VALUE, Integer.MAX_VALUE}) {
            h.tape("AB W 1");
            House.due("save(" + n + ")", h.house.save(n), -1);
        }
        h.tape("AB W 1");
        House.due("save", h.house.save(3), -2);
        h.tape("AB");
        House.due("save", h.house.save(2), 1);
        for (String bad : new String[] {"1A", "A%", "_", "^A", "A B", "\u00e9"}) House.due("save " + bad, h.save(bad, " W"), -2);
        House.due("a fault", h.save("A", " W"), -12);
        House.due("a fault", h.save("A", "B\n W 1,"), -17);
        House.due("a long text", h.save("A", " W" + " ".repeat(2999)), -2);
        House.due("routines", h.house.count(0), 3);
        House.due("units", h.house.count(12), 3);
        for (int i = 3; i < 16; i++) House.due("save", h.save("R" + i, " W " + i), 1);
        House.due("no room", h.save("R16", ""), -4);
        House.due("a fault first", h.save("R16", "("), -10);
        for (String name : new String[] {"ABCDEFGH", "%1", "AB", "R3", "R9", "R14"}) House.due("in its place", h.save(name, " W 14"), 1);
        House.due("in its place", h.save("R15", " W 1\n W 2\n"), 3);
        House.due("routines", h.house.count(0), 16);
        House.due("it is that", h.run("D ^R15,^R14"), "1214");
        // 3000 bytes and 100 lines
        h = new House();
        House.due("100 lines", h.save("R", "A\n" + " ;" + "x".repeat(27) + ("\n ;" + "y".repeat(27)).repeat(97) + "\n ;" + "z".repeat(28)), 100);
        House.due("1 line", h.save("R", " ;" + "x".repeat(2998)), 1);
    }

    private static void inUse() {
        House h = new House();
        h.save("R", "F R X\n Q\nG X \"R X\"\n Q\nT TS () Q\nU TS () G ^S\nV S $ET=\"R X\" W 1/0\nX D  R Y\n .S $ET=\"R X\" W 1/0\nY TS () D Z^S\n Q");
        h.save("S", " R X\nZ R X");
        int p = h.process("D F^R R X");
        h.house.turns(9);
        House.due("a level is in it", h.save("R", "F ;"), -3);
        House.due("a fault first", h.save("R", "F("), -12);
        House.due("none is in it", h.save("S", " R X\nZ R X"), 2);
        h.tell(p, "");
        h.house.turns(9);
        String r = "F R X\n Q\nG X \"R X\"\n Q\nT TS () Q\nU TS () G ^S\nV S $ET=\"R X\" W 1/0\nX D  R Y\n .S $ET=\"R X\" W 1/0\nY TS () D Z^S\n Q";
        House.due("it is over", h.save("R", r), 11);
        h.house.halt(p);
        state(h, "D G^R", r, -3);
        // the level of the TSTART is over
        state(h, "D T^R R X", r, 11);
        // the level went to another routine, but its TSTART stands here
        state(h, "D U^R", r, -3);
        state(h, "D U^R", null, -3);
        // a trap is a text of its own
        state(h, "D V^R", r, 11);
        state(h, "D X^R", r, -3);
        state(h, "D Y^R", r, -3);
        state(h, "J F^R", r, -3);
        h.house.halt(h.house.count(3) - 1);
        House.due("all are over", h.save("R", r), 11);
    }

    private static void state(House h, String text, String routine, int want) {
        int p = h.process(text);
        h.house.turns(20);
        House.due("save with " + text, routine == null ? h.save("S", " R X\nZ R X") : h.save("R", routine), want);
        h.house.halt(p);
    }

    private static void looks() {
        House h = new House();
        int p = h.process("S A=5,A(1)=\"x\",A(1,2)=\"\",A(\"b c\")=7,B(2)=1,^A(-1)=2,^A(\"q\"\"q\",.5)=3,^B=4,^%=1 R X");
        h.house.turns(3);
        look(h, p, "A", "5", "B", "", "A(1)", "11");
        look(h, p, "A(1)", "x", "b c", "", "A(1,2)", "11");
        look(h, p, "A(1,2)", "", "", "", "A(\"b c\")", "1");
        look(h, p, "A(\"b c\")", "7", "", "1", "", "1");
        look(h, p, "A(0)", "-1", "1", "", "A(1)", "0");
        look(h, p, "B", "-1", "", "A", "B(2)", "10");
        look(h, p, "C", "-1", "", "B", "", "0");
        look(h, p, "%", "-1", "A", "", "", "0");
        look(h, 77, "^A", "-1", "^B", "^%", "^A(-1)", "10");
        look(h, -1, "^A(-1)", "2", "q\"q", "", "^A(\"q\"\"q\",.5)", "1");
        look(h, p, "^A(\"q\"\"q\",.5)", "3", "", "", "", "1");
        look(h, p, "^AA", "-1", "^B", "^A", "", "0");
        House.due("of an empty one", h.look(p, "A(\"\")", 1), "1");
        House.due("of an empty one", h.look(p, "A(\"\")", 2), "b c");
        House.due("of an empty one", h.look(p, "A(\"\")", 3), "A(1)");
        House.due("of an empty one", h.look(p, "A(1,\"\")", 3), "A(1,2)");
        House.due("of an empty one", h.look(p, "^A(\"\")", 2), "q\"q");
        House.due("of an empty one", h.look(p, "A(\"\")", 0), "-2");
        House.due("of an empty one", h.look(p, "A(\"\")", 4), "-2");
        House.due("of an empty one", h.look(p, "A(\"\",1)", 1), "-2");
        h.tape("A");
        House.due("the length", h.house.look(p, 0), 1);
        House.due("a byte", h.house.result(0), '5');
        House.due("no byte", h.house.result(1), -1);
        House.due("no byte", h.house.result(-1), -1);
        h.tape("A(0)");
        h.house.look(p, 0);
        House.due("refused, so nothing changed", h.result(), "5");
        // a NEW one hides, one by . NAME is the same
        h.save("R", "F(X) N A S X(1)=4,A=9 R Q Q");
        p = h.process("S A=1,V=2 D F^R(.V)");
        h.house.turns(20);
        House.due("A", h.look(p, "A", 0), "9");
        House.due("X", h.look(p, "X", 0), "2");
        House.due("V(1)", h.look(p, "V(1)", 0), "4");
        House.due("X", h.look(p, "X", 3), "X(1)");
        House.due("seen values", h.house.state(p, 11), 3);
    }

    private static void look(House h, int p, String node, String... want) {
        int[] what = {0, 1, 2, 3, 4};
        for (int i = 0; i < 5; i++) House.due("look at " + node + ", " + i, h.look(p, node, what[i]), want[i]);
    }

    private static void looksThatAreRefused() {
        House h = new House();
        int p = h.process("S A=1 R X");
        h.house.turns(3);
        for (String bad : new String[] {"", "1", "A(", "A()", "A(1", "A(1)(2)", "A(1) ", " A", "A(01)", "A(1.0)", "A(\"1\")", "A(x)", "A(\"x)", "A(\"x\"y)", "A(1,)", "A(,1)",
            "ABCDEFGHI", "A.", "@A", "A(1,2,3,4,5,6,7)", "A(\"" + "x".repeat(61) + "\")", "A(\"" + "x".repeat(60) + "\",\"" + "y".repeat(36) + "\")", "A(-0)", "A(+1)"}) {
            for (int what = 0; what < 5; what++) House.due("look at " + bad, h.look(p, bad, what), "-2");
            House.due("look at ^" + bad, h.look(p, "^" + bad, 4), "-2");
            House.due("what first", h.look(p, bad, 5), "-1");
            House.due("what first", h.look(p, bad, -1), "-1");
            House.due("the process first", h.look(p + 1, bad, 4), "-1");
        }
        House.due("used up", h.house.end(1), -1);
        House.due("the process", h.look(p + 1, "A", 4), "-1");
        House.due("the process", h.look(-1, "A", 4), "-1");
        House.due("^ alone", h.look(p, "^", 4), "-2");
        House.due("naked", h.look(p, "^(1)", 4), "-2");
        h.house.halt(p);
        House.due("over", h.look(p, "A", 4), "-1");
    }
}
