import java.io.ByteArrayOutputStream;
import java.util.ArrayList;
import java.util.Arrays;
import java.util.List;

/** Part 10 and promises 21 to 26: units, syncs, power, START, blocks that are not right. */
public final class DiskTest {
    public static void main(String[] args) {
        records();
        blocks();
        rooms();
        sixteen();
        power();
        starts();
        crafted();
        verified();
        refusals();
        House.report();
    }

    static byte[] node(String name, String... subscripts) {
        ByteArrayOutputStream b = new ByteArrayOutputStream();
        b.write(subscripts.length);
        b.write(name.length());
        b.writeBytes(House.bytes(name));
        for (String s : subscripts) {
            b.write(s.length());
            b.writeBytes(House.bytes(s));
        }
        return b.toByteArray();
    }

    static byte[] joined(Object... parts) {
        ByteArrayOutputStream b = new ByteArrayOutputStream();
        for (Object p : parts) {
            if (p instanceof Integer) b.write((Integer) p);
            else if (p instanceof String) b.writeBytes(House.bytes((String) p));
            else b.writeBytes((byte[]) p);
        }
        return b.toByteArray();
    }

    static byte[] set(String value, String name, String... subscripts) {
        return joined(1, node(name, subscripts), value.length(), value);
    }

    static byte[] kill(String name, String... subscripts) {
        return joined(2, node(name, subscripts));
    }

    static byte[] routine(String name, String text) {
        return joined(3, name.length(), name, text.length() >> 8, text.length() & 255, text);
    }

    /** The blocks of a sync of these bytes, from a number on. */
    static List<byte[]> sync(int first, byte[] bytes) {
        List<byte[]> all = new ArrayList<>();
        for (int at = 0; at < bytes.length; at += 248) {
            byte[] b = new byte[256];
            int n = Math.min(248, bytes.length - at), number = first + all.size();
            b[0] = (byte) (number >> 8);
            b[1] = (byte) number;
            b[2] = (byte) (at + 248 >= bytes.length ? 1 : 0);
            b[3] = (byte) n;
            System.arraycopy(bytes, at, b, 4, n);
            sum(b);
            all.add(b);
        }
        return all;
    }

    static void sum(byte[] b) {
        int s = 0;
        for (int i = 0; i < 252; i++) s = Integer.rotateLeft(s ^ b[i] & 255, 9) * 0x9E3779B1;
        for (int i = 0; i < 4; i++) b[252 + i] = (byte) (s >>> 24 - 8 * i);
    }

    static void disk(String what, House h, List<byte[]> want) {
        int wrong = 0;
        for (int k = 1; k <= 400; k++) {
            for (int i = 0; i < 256; i++) {
                int due = k <= want.size() ? want.get(k - 1)[i] & 255 : 0;
                if (h.house.octet(k, i) != due) wrong++;
            }
        }
        House.due(what + ": bytes that differ", wrong, 0);
    }

    private static void records() {
        House h = new House();
        h.save("Rout1", "A ;x\n Q");
        h.process("S ^A=1,^A(1,\"x\")=\"abc\",^%(-.5)=\"\" K ^A(1),^B,^A(7) K ^% S B(2)=5,B=6,B(\"a\",1)=7 M ^C(9)=B S B=0 K B");
        h.house.turns(20);
        byte[] want = joined(routine("Rout1", "A ;x\n Q"), 0, set("1", "A"), 0, set("abc", "A", "1", "x"), 0, set("", "%", "-.5"), 0,
            kill("A", "1"), 0, kill("%"), 0, set("6", "C", "9"), set("5", "C", "9", "2"), set("7", "C", "9", "a", "1"), 0);
        House.due("units", h.house.count(12), 7);
        House.due("bytes", h.house.count(13), want.length);
        House.due("used", h.house.count(11), 0);
        disk("nothing written", h, new ArrayList<>());
        House.due("sync", h.house.sync(), 1);
        List<byte[]> blocks = sync(1, want);
        disk("first sync", h, blocks);
        House.due("units", h.house.count(12), 0);
        House.due("bytes", h.house.count(13), 0);
        House.due("used", h.house.count(11), 1);
        House.due("sync", h.house.sync(), 0);
        h.process("TS  S ^A=2 K ^A S ^D(\"" + "y".repeat(60) + "\")=$J(1,250) K ^D TC  S ^E=5 S ^A=$G(^A,3) S ^A=^A");
        h.house.turns(30);
        want = joined(set("2", "A"), kill("A"), set(" ".repeat(249) + "1", "D", "y".repeat(60)), kill("D"), 0, set("5", "E"), 0, set("3", "A"), 0, set("3", "A"), 0);
        House.due("units", h.house.count(12), 4);
        House.due("sync", h.house.sync(), 2);
        blocks.addAll(sync(2, want));
        disk("second sync", h, blocks);
        House.due("used", h.house.count(11), 3);
        House.due("verify", h.house.verify(), -1);
    }

    private static void blocks() {
        // units that fill a block, or a byte more
        for (int more = -1; more <= 1; more++) {
            House h = new House();
            h.process("S ^A=$J(1," + (248 - 6 + more) + ")");
            h.house.turns(3);
            House.due("bytes", h.house.count(13), 248 + more);
            House.due("sync", h.house.sync(), more > 0 ? 2 : 1);
            disk("full blocks", h, sync(1, joined(set(" ".repeat(241 + more) + "1", "A"), 0)));
            House.due("verify", h.house.verify(), -1);
            h.house.cut(0, 0);
            h.process("S ^B=1");
            h.house.turns(3);
            House.due("sync", h.house.sync(), -6);
            House.due("start", h.house.start(), 1);
        }
        House h = new House();
        h.save("R", "F F I=1:1:140 S ^A(I)=$J(I,250)\n Q");
        h.process("D ^R");
        for (int i = 0; i < 3; i++) h.house.turns(400);
        int bytes = h.house.count(13);
        House.due("sync", h.house.sync(), (bytes + 247) / 248);
        House.due("number", h.house.octet(130, 0) * 256 + h.house.octet(130, 1), 130);
        House.due("not last", h.house.octet(130, 2), 0);
        h.house.cut(0, 0);
        h.process("K ^A");
        h.house.turns(2);
        h.house.sync();
        House.due("start", h.house.start(), 141);
        House.due("values", h.house.count(1), 140);
        House.due("A", h.look(0, "^A(77)", 0), " ".repeat(248) + "77");
    }

    /** A house with 99192 bytes that wait, where 99200 have room. */
    private static House filled() {
        House h = new House();
        h.process("F I=1:1:388 S ^A=$J(\"\",$S(I<388:250,1:114))");
        for (int i = 0; i < 2; i++) h.house.turns(400);
        House.due("bytes", h.house.count(13), 99192);
        return h;
    }

    /** What is done with so many bytes in a unit: it has room or, with one more, not. */
    private static void room(String fits, String doesNot) {
        House h = filled();
        House.due(fits, h.run(fits), "");
        House.due("bytes", h.house.count(13), 99200);
        House.due("KILL", h.run("K ^A"), "{,Z1,}");
        House.due("sync", h.house.sync(), 400);
        House.due("FULL", h.save("R", ""), -4);
        h = filled();
        House.due(doesNot, h.run(doesNot), "{,Z1,}");
        House.due("bytes", h.house.count(13), 99192);
        House.due("A", h.look(0, "^A", 0), " ".repeat(114));
        House.due("values", h.house.count(1), 1);
    }

    private static void rooms() {
        room("S ^B=12", "S ^B=123");
        room("S ^B(1)=\"\"", "S ^B(1)=1");
        room("S A=12 M ^B=A", "S A=123 M ^B=A");
        room("TS  S ^B=12 TC", "TS  S ^B=123 TC");
        House h = filled();
        House.due("transaction", h.run("TS  S ^B=123 S $ET=\"W $TL TRO  W $TL\" TC"), "10{,Z1,}");
        House.due("save", h.save("R", " ;x"), -4);
        House.due("save", h.save("R", " ;"), 1);
        House.due("bytes", h.house.count(13), 99200);
    }

    /** A routine that is saved twice is one of sixteen. */
    private static void sixteen() {
        House h = new House();
        String text = "A ;" + "x".repeat(300) + "\n W 4\n ;" + "y".repeat(300);
        h.save("Long", text);
        House.due("sync", h.house.sync(), 3);
        disk("a long routine", h, sync(1, joined(routine("Long", text), 0)));
        h.process("S ^A=1");
        h.house.turns(2);
        h.house.cut(0, 0);
        h.house.sync();
        House.due("start", h.house.start(), 1);
        House.due("lines", h.run("D ^Long W $T(A+1^Long) W $T(A+2^Long)"), "4 W 4{,M75,}");
        h = new House();
        for (int i = 0; i < 16; i++) h.save("R" + i, " ;" + i);
        h.save("R15", " ;again");
        House.due("save", h.save("R16", ""), -4);
        h.house.sync();
        h.process("S ^A=1");
        h.house.turns(2);
        h.house.cut(0, 9);
        h.house.sync();
        House.due("start", h.house.start(), 17);
        House.due("routines", h.house.count(0), 16);
        House.due("text", h.run("W $T(+1^R15)"), " ;again");
    }

    /** A house with one sync of ^A and ^B, and three more blocks that wait. */
    private static House written() {
        House h = new House();
        h.process("S ^A=1,^B=2");
        h.house.turns(3);
        h.house.sync();
        h.process("S ^A=$J(2,200),^C=$J(3,200),^D=$J(4,200)");
        h.house.turns(3);
        return h;
    }

    private static void power() {
        House h = written();
        List<byte[]> blocks = sync(1, joined(set("1", "A"), 0, set("2", "B"), 0));
        List<byte[]> second = sync(2, joined(set(" ".repeat(199) + "2", "A"), 0, set(" ".repeat(199) + "3", "C"), 0, set(" ".repeat(199) + "4", "D"), 0));
        House.due("blocks", second.size(), 3);
        for (int n = 0; n < 3; n++) {
            for (int tear : new int[] {0, 1, 100, 255}) {
                h = written();
                House.due("cut", h.house.cut(n, tear), 1);
                House.due("sync", h.house.sync(), -6);
                List<byte[]> want = new ArrayList<>(blocks);
                want.addAll(second.subList(0, n));
                byte[] torn = new byte[256];
                System.arraycopy(second.get(n), 0, torn, 0, tear);
                want.add(torn);
                disk("cut at " + n + " behind " + tear, h, want);
                House.due("down", h.house.count(0), -5);
                House.due("start", h.house.start(), 2);
                disk("cleared", h, blocks);
                House.due("used", h.house.count(11), 1);
                House.due("A", h.look(0, "^A", 0), "1");
                House.due("C", h.look(0, "^C", 4), "0");
                House.due("waiting", h.house.count(12) + h.house.count(13), 0);
                House.due("verify", h.house.verify(), -1);
                // what was cut is written anew
                h.process("S ^E=5");
                h.house.turns(2);
                House.due("sync", h.house.sync(), 1);
                House.due("verify", h.house.verify(), -1);
                h.house.cut(0, 3);
                h.process("S ^F=5");
                h.house.turns(2);
                h.house.sync();
                House.due("start", h.house.start(), 3);
            }
        }
        h = written();
        h.house.cut(3, 9);
        House.due("sync", h.house.sync(), 3);
        h.process("S ^E=1");
        h.house.turns(2);
        House.due("sync", h.house.sync(), -6);
        House.due("start", h.house.start(), 5);
        h.process("S ^E=1");
        h.house.turns(2);
        h.house.cut(0, 9);
        House.due("stays", h.house.cut(-1, 0), 1);
        House.due("sync", h.house.sync(), 1);
        // a block whose last bytes were the same is torn all the same
        h = new House();
        h.process("S ^A=1");
        h.house.turns(2);
        byte[] b = sync(1, joined(set("1", "A"), 0)).get(0);
        h.house.poke(1, 255, b[255]);
        h.house.cut(0, 255);
        h.house.sync();
        disk("as if whole", h, List.of(b));
        House.due("start", h.house.start(), 0);
        disk("nothing", h, new ArrayList<>());
    }

    private static void starts() {
        House h = new House();
        h.save("R", "A ;1");
        h.save("S", "B W 5");
        h.process("S ^A=1,^A(1)=2,^B=3 K ^B S ^C=4");
        h.house.turns(9);
        h.house.sync();
        h.save("R", "A W 7");
        h.house.seed(5);
        h.house.time(9);
        h.process("TS () S ^A=2 L Q S A=5 R X");
        h.house.turns(9);
        h.house.count(0);
        h.house.sync();
        h.process("S ^Z=1");
        h.house.turns(9);
        h.house.cut(0, 0);
        h.code(0);
        h.look(0, "^A(1)", 0);
        h.house.sync();
        h.tape("W 1");
        House.due("down", h.house.process(), -5);
        House.due("start", h.house.start(), 8);
        House.due("process of the tape that stayed", h.house.process(), 0);
        House.due("result stayed", h.result(), "2");
        int[] want = {2, 3, 0, 1, 1, 0, 0, 0, 0, 0, 0, 2, 0, 0, 9};
        for (int i = 0; i < want.length; i++) House.due("count " + i, h.house.count(i), want[i]);
        House.due("A", h.look(0, "^A", 0), "1");
        House.due("R", h.run("D ^R,^S W $H"), "750,9");
        House.due("not down", h.house.start(), -3);
        House.due("sound", h.house.sound(), 1);
        // a SYNC whose end is missing is none
        h = new House();
        h.process("S ^A=1");
        h.house.turns(2);
        h.house.sync();
        h.process("S ^B=$J(1,250),^C=$J(1,250)");
        h.house.turns(2);
        h.house.sync();
        h.process("S ^D=1");
        h.house.turns(2);
        h.house.sync();
        House.due("used", h.house.count(11), 5);
        House.due("poke", h.house.poke(4, 20, 1), h.house.octet(4, 20));
        House.due("verify", h.house.verify(), 4);
        h.process("S ^E=1");
        h.house.turns(2);
        h.house.cut(0, 0);
        h.house.sync();
        House.due("start", h.house.start(), 1);
        House.due("used", h.house.count(11), 1);
        House.due("cleared", h.house.octet(2, 0) + h.house.octet(2, 1) + h.house.octet(5, 1), 0);
        House.due("verify", h.house.verify(), -1);
    }

    /** The house after START from these bytes as its one sync, of one block; so many units are done again. */
    static House from(int units, byte[] bytes) {
        House h = new House();
        List<byte[]> blocks = sync(1, bytes);
        h.process("F I=0:1:" + blocks.size() + " S ^q=$J(1,250)");
        for (int i = 0; i < 3; i++) h.house.turns(400);
        h.house.cut(blocks.size(), 0);
        h.house.sync();
        for (int k = 1; k <= blocks.size(); k++) {
            for (int i = 0; i < 256; i++) h.house.poke(k, i, h.house.octet(k, i) ^ blocks.get(k - 1)[i] & 255);
        }
        House.due("units", h.house.start(), units);
        return h;
    }

    private static void crafted() {
        byte[] one = joined(set("1", "A"), 0);
        House.due("A", from(1, one).look(0, "^A", 0), "1");
        from(1, joined(set("x".repeat(250), "A"), 0));
        from(0, joined(set("x".repeat(251), "A"), 0));
        from(0, joined(0));
        from(0, joined(0, one));
        from(1, joined(one, 0, one));
        from(1, joined(one, 1));
        from(2, joined(one, one, set("1", "A")));
        from(1, joined(one, 4, node("A"), 0));
        from(0, joined(1, 0, 0, 1, "1", 0));
        from(0, joined(set("1", "1"), 0));
        from(0, joined(set("1", "ABCDEFGHI"), 0));
        from(0, joined(set("1", "A_"), 0));
        from(0, joined(set("1", "A", ""), 0));
        from(1, joined(set("1", "A", "x".repeat(60)), 0));
        from(0, joined(set("1", "A", "x".repeat(61)), 0));
        from(1, joined(set("1", "A", "x".repeat(60), "y".repeat(35)), 0));
        from(0, joined(set("1", "A", "x".repeat(60), "y".repeat(36)), 0));
        from(1, joined(set("1", "A", "1", "2", "3", "4", "5", "6"), 0));
        from(0, joined(set("1", "A", "1", "2", "3", "4", "5", "6", "7"), 0));
        from(1, joined(kill("A"), 0));
        House h = from(2, joined(set("1", "A"), set("2", "A", "1"), kill("A", "1"), routine("R", " W 5"), set("3", "B"), 0, kill("B"), 0));
        House.due("A", h.look(0, "^A", 0) + h.look(0, "^A(1)", 4) + h.look(0, "^B", 4), "100");
        House.due("R", h.run("D ^R"), "5");
        h = from(1, joined(one, set("1", "B"), routine("R", " A"), 0, set("1", "C"), 0));
        House.due("B is not done", h.look(0, "^B", 4) + h.look(0, "^C", 4), "00");
        House.due("no routine", h.house.count(0), 0);
        from(1, joined(routine("R", ""), 0));
        from(0, joined(routine("1", ""), 0));
        from(0, joined(3, 1, "R", 0, 9, " W 5", 0));
        from(0, joined(3, 1, "R", 255, 255, " W 5", 0));
        ByteArrayOutputStream many = new ByteArrayOutputStream();
        for (int i = 0; i < 16; i++) many.writeBytes(joined(routine("R" + i, ""), 0));
        h = from(17, joined(many.toByteArray(), routine("R7", " "), 0, routine("R16", ""), 0));
        House.due("routines", h.house.count(0), 16);
        h = from(1, joined(set("1", "A"), routine("R0", ""), routine("R1", ""), routine("R0", " W 3"), 0, routine("R2", "A("), 0));
        House.due("routines", h.house.count(0), 2);
        House.due("the last one", h.run("D ^R0"), "3");
        byte[] fifteen = Arrays.copyOf(many.toByteArray(), many.size() - joined(routine("R15", ""), 0).length);
        // a unit with the sixteenth routine twice, and one with two of which the second is the seventeenth
        h = from(16, joined(fifteen, routine("X", ""), routine("R3", " "), routine("X", " W 6"), 0));
        House.due("routines", h.house.count(0), 16);
        House.due("the last one", h.run("D ^X"), "6");
        h = from(15, joined(fifteen, routine("X", ""), routine("R3", " "), routine("Y", ""), 0));
        House.due("routines", h.house.count(0), 15);
    }

    private static void verified() {
        House h = written();
        h.house.sync();
        House.due("verify", h.house.verify(), -1);
        House.due("sound", h.house.sound(), 1);
        int was = h.house.octet(3, 7);
        House.due("poke", h.house.poke(3, 7, 0x7fffff00), was);
        House.due("verify", h.house.verify(), -1);
        House.due("poke", h.house.poke(3, 7, 255), was ^ 255);
        House.due("octet", h.house.octet(3, 7), was ^ 255);
        House.due("verify", h.house.verify(), 3);
        h.house.poke(2, 255, 1);
        House.due("verify", h.house.verify(), 2);
        h.house.poke(2, 255, 1);
        h.house.poke(3, 7, 255);
        House.due("verify", h.house.verify(), -1);
        for (int i : new int[] {0, 1, 2, 3, 4, 251, 252, 253, 254, 255}) {
            h.house.poke(1, i, 1);
            House.due("verify byte " + i, h.house.verify(), 1);
            h.house.poke(1, i, 1);
        }
        h.house.poke(5, 7, 1);
        House.due("one not used", h.house.verify(), -1);
        // a right sum is not enough
        int[][] wrong = {{1, 2}, {2, 2}, {2, 0}, {3, 0}, {3, 249}, {0, 1}};
        for (int[] w : wrong) {
            House g = new House();
            g.process("S ^A=1");
            g.house.turns(2);
            g.house.sync();
            byte[] b = new byte[256];
            for (int i = 0; i < 256; i++) b[i] = (byte) g.house.octet(1, i);
            b[w[0]] = (byte) w[1];
            sum(b);
            for (int i = 0; i < 256; i++) g.house.poke(1, i, g.house.octet(1, i) ^ b[i] & 255);
            House.due("byte " + w[0] + " is " + w[1], g.house.verify(), 1);
        }
    }

    private static void refusals() {
        House h = new House();
        for (int[] bad : new int[][] {{-2, 0}, {2001, 0}, {0, -1}, {0, 256}, {-1, 256}, {Integer.MAX_VALUE, 0}}) House.due("cut", h.house.cut(bad[0], bad[1]), -1);
        House.due("cut", h.house.cut(2000, 255), 1);
        House.due("cut", h.house.cut(-1, 255), 1);
        for (int[] bad : new int[][] {{0, 0}, {401, 0}, {1, -1}, {1, 256}, {-1, 0}, {Integer.MAX_VALUE, Integer.MAX_VALUE}}) {
            House.due("octet", h.house.octet(bad[0], bad[1]), -1);
            House.due("poke", h.house.poke(bad[0], bad[1], 1), -1);
        }
        House.due("octet", h.house.octet(400, 255), 0);
        House.due("start", h.house.start(), -3);
        h.process("S ^A=1");
        h.house.turns(2);
        h.house.cut(0, 8);
        h.code(0);
        House.due("lost", h.house.sync(), -6);
        House.due("feed", h.house.feed(0x57203100, 0, 0, 0, 0), 20);
        House.due("end", h.house.end(3), 3);
        House.due("end", h.house.end(4), -1);
        int[] all = {h.house.save(0), h.house.process(), h.house.tell(-1), h.house.time(-1), h.house.seed(1), h.house.turns(0), h.house.halt(-1),
            h.house.state(-1, -1), h.house.written(-1, -1), h.house.take(-1), h.house.code(-1), h.house.level(-1, 0, 0), h.house.look(-1, -1),
            h.house.lock(-1, -1), h.house.count(-1), h.house.sound(), h.house.sync(), h.house.cut(-5, -5), h.house.verify()};
        for (int i = 0; i < all.length; i++) House.due("down " + i, all[i], -5);
        House.due("result", h.house.result(0), -1);
        House.due("octet", h.house.octet(1, 3), 7);
        House.due("poke", h.house.poke(1, 3, 7), 0);
        House.due("start", h.house.start(), 0);
        House.due("the tape was not used up", h.house.process(), 0);
    }
}
