import java.io.ByteArrayOutputStream;
import java.util.ArrayList;
import java.util.List;

/** Part 10 at its edges: units, blocks, room, power, START. */
public final class BoundaryDiskTest extends Boundary {
    public static void main(String[] args) {
        units();
        bytes();
        syncs();
        rooms();
        power();
        right();
        used();
        starts();
        unitsAgain();
        stays();
        House.report();
    }

    private static int unitsOf(String text) {
        House h = house("S ^A=1,^A(1)=2,^B=1 " + text);
        turns(h, 60);
        return h.house.count(12) - 3;
    }

    private static void units() {
        says("each node that is SET, each KILL of what has DATA (of each name for itself), each MERGE that has nodes, outside of a transaction; each transaction that changes something");
        String[] texts = {"S ^C=1", "S ^A=1", "S ^A=^A", "S (^A,^B,^C)=1", "S A=1", "S $P(^A,1,2)=5", "S $P(^A,``)=5", "S $E(^A,2,1)=5", "K ^A", "K ^A(1)", "K ^A(2)", "K ^C", "K ^A,^B", "K ^A,^A", "K A", "K", "K  K (A)", "M ^C=^A", "M ^C=^A,^D=^A", "M ^C=^D", "M ^C=A", "M C=^A", "M ^A(2)=^B",
            "TS  S ^C=1,^D=1 K ^A TC", "TS  TC", "TS  K ^C TC", "TS  M ^C=^D TC", "TS  S X=^A TC", "TS  S ^C=1 TRO", "TS  S ^C=1", "TS  S ^C=1 TS  S ^D=1 TC  TC", "TS  S ^A=1 K ^A S ^A=1 TC", "TS  S $P(^A,``)=1 TC", "TS () S ^C=1 TRE:$TR<2  TC", "L ^A", "S X=$O(^A)", "D ^Z", "S ^C($J(1,61))=1"};
        int[] wanted = {1, 1, 1, 3, 0, 1, 0, 0, 1, 1, 0, 0, 2, 1, 0, 0, 0, 1, 2, 0, 0, 0, 1, 1, 0, 0, 0, 0, 0, 0, 1, 1, 0, 1, 0, 0, 0, 0};
        for (int i = 0; i < texts.length; i++) due(texts[i], unitsOf(texts[i]), wanted[i]);
        says("each routine saved");
        House h = new House();
        h.save("R", "");
        h.save("R", "");
        h.save("R", " (");
        h.save("1", "");
        due("units", h.house.count(12), 2);
    }

    private static void written(String text, byte[] want) {
        House h = house(text);
        turns(h, 40);
        due("bytes of " + text, h.house.count(13), want.length);
        h.house.sync();
        DiskTest.disk(text, h, DiskTest.sync(1, want));
    }

    private static void bytes() {
        says("RECORDS, one behind the other in the order of what was done, then a byte 0. A RECORD: 1, NODE, the value's length, its bytes (set); 2, NODE (killed)");
        written("S ^A=``", DiskTest.joined(1, 0, 1, "A", 0, 0));
        written("S ^A=$J(1,250)", DiskTest.joined(1, 0, 1, "A", 250, " ".repeat(249) + "1", 0));
        written("S ^ABCDEFGH(1,22,`x`,-.5,`1.0`,6)=1", DiskTest.joined(1, 6, 8, "ABCDEFGH", 1, "1", 2, "22", 1, "x", 3, "-.5", 3, "1.0", 1, "6", 1, "1", 0));
        for (int n = 1; n <= 8; n++) {
            String name = "ABCDEFGH".substring(0, n);
            written("S ^" + name + "(5)=7 K ^" + name, DiskTest.joined(DiskTest.set("7", name, "5"), 0, DiskTest.kill(name), 0));
            House g = new House();
            g.save(name, " Q");
            g.house.sync();
            DiskTest.disk("a routine " + name, g, DiskTest.sync(1, DiskTest.joined(DiskTest.routine(name, " Q"), 0)));
        }
        written("S ^%($J(1,60))=$C(0,255)", DiskTest.joined(1, 1, 1, "%", 60, " ".repeat(59) + "1", 2, "\0\u00ff", 0));
        written("S ^A(1)=1 K ^A", DiskTest.joined(1, 1, 1, "A", 1, "1", 1, "1", 0, 2, 0, 1, "A", 0));
        written("S ^A(1,2)=1 K ^A(1),^A", DiskTest.joined(1, 2, 1, "A", 1, "1", 1, "2", 1, "1", 0, 2, 1, 1, "A", 1, "1", 0));
        written("TS  S ^B=1,^A=2 K ^B S ^B(1)=3 TC", DiskTest.joined(1, 0, 1, "B", 1, "1", 1, 0, 1, "A", 1, "2", 2, 0, 1, "B", 1, 1, 1, "B", 1, "1", 1, "3", 0));
        says("(A MERGE's: each node in their order, as set.)");
        written("S B(`x`)=1,B(10)=2,B(9)=3,B=4 M ^A(7)=B", DiskTest.joined(1, 1, 1, "A", 1, "7", 1, "4", 1, 2, 1, "A", 1, "7", 1, "9", 1, "3", 1, 2, 1, "A", 1, "7", 2, "10", 1, "2", 1, 2, 1, "A", 1, "7", 1, "x", 1, "1", 0));
        says("3, the routine's name's length, that, its text's length in two bytes (the higher one first), that");
        for (int n : new int[] {0, 1, 2, 255, 256, 257, 511, 512, 3000}) {
            House h = new House();
            String text = n == 0 ? "" : n == 1 ? " " : " ;" + "x".repeat(n - 2);
            due("save " + n, h.save("ABCDEFGH", text), 1);
            due("bytes", h.house.count(13), 1 + 1 + 8 + 2 + n + 1);
            h.house.sync();
            DiskTest.disk("a text of " + n, h, DiskTest.sync(1, DiskTest.joined(3, 8, "ABCDEFGH", n >> 8, n & 255, text, 0)));
        }
    }

    private static void syncs() {
        says("THE DISK has BLOCKS 1 .. 400 of 256 bytes, at first all 0");
        House h = new House();
        DiskTest.disk("a new one", h, new ArrayList<>());
        due("octet", h.house.octet(400, 255), 0);
        due("octet", h.house.octet(401, 0), -1);
        due("octet", h.house.octet(0, 0), -1);
        due("octet", h.house.octet(1, 256), -1);
        says("A SYNC writes the units that wait, one behind the other, into the blocks behind those USED");
        h = house("S ^A=1 R X S ^B=$J(2,250) R X S ^C=3");
        turns(h, 9);
        due("sync", h.house.sync(), 1);
        due("used", h.house.count(11), 1);
        due("waiting", h.house.count(12) + h.house.count(13), 0);
        due("nothing waits", h.house.sync(), 0);
        due("used", h.house.count(11), 1);
        h.tell(0, "");
        turns(h, 9);
        due("sync", h.house.sync(), 2);
        due("used", h.house.count(11), 3);
        h.tell(0, "");
        turns(h, 9);
        due("sync", h.house.sync(), 1);
        List<byte[]> want = new ArrayList<>(DiskTest.sync(1, DiskTest.joined(DiskTest.set("1", "A"), 0)));
        want.addAll(DiskTest.sync(2, DiskTest.joined(DiskTest.set(" ".repeat(249) + "2", "B"), 0)));
        want.addAll(DiskTest.sync(4, DiskTest.joined(DiskTest.set("3", "C"), 0)));
        DiskTest.disk("three syncs", h, want);
        says("how many bytes it has of them, n (248 in all but the last one)");
        // 6 more than the value: 247, 248, 249, 495, 496, 497 bytes
        int[][] sizes = {{241, 1}, {242, 1}, {243, 2}, {240, 2}, {241, 2}, {242, 3}};
        for (int i = 0; i < sizes.length; i++) {
            h = house(i < 3 ? "S ^A=$J(1," + sizes[i][0] + ")" : "S ^A=$J(1,243),^B=$J(1," + sizes[i][0] + ")");
            turns(h, 9);
            int bytes = h.house.count(13);
            due("bytes", bytes, sizes[i][0] + 6 + (i < 3 ? 0 : 249));
            due("blocks", h.house.sync(), sizes[i][1]);
            for (int k = 1; k <= sizes[i][1]; k++) {
                due("third byte of block " + k, h.house.octet(k, 2), k == sizes[i][1] ? 1 : 0);
                due("n of block " + k, h.house.octet(k, 3), k == sizes[i][1] ? bytes - 248 * (k - 1) : 248);
            }
        }
    }

    /** A house with so many bytes in units that wait. */
    private static House filled(int bytes) {
        House h = new House();
        int left = bytes - 256 * ((bytes - 6) / 256);
        h.process(m("F I=1:1:" + (bytes - 6) / 256 + " S ^A=$J(``,250)"));
        turns(h, 900);
        h.process(m("S ^A=$J(``," + (left - 6) + ")"));
        turns(h, 9);
        due("bytes", h.house.count(13), bytes);
        return h;
    }

    private static void rooms() {
        says("THERE IS NO ROOM for a unit if with it those that wait would want more blocks than there are behind those used: error Z1 (FULL of save()), nothing is changed");
        for (String text : new String[] {"S ^B=*", "S A=* M ^B=A", "TS  S ^B=* TC", "S $E(^B)=*"}) {
            // a unit of 5 + 3 + 1 bytes
            House h = filled(99200 - 9);
            due(text, done(h, text.replace("*", "123")), "");
            due("bytes", h.house.count(13), 99200);
            h = filled(99200 - 9);
            due(text, done(h, text.replace("*", "1234")), "{,Z1,}");
            due("bytes, values, units", h.house.count(13) + h.house.count(1) * 100000 + h.look(0, "^B", 4), "1991910");
        }
        for (int more = 0; more < 2; more++) {
            // 2, NODE, 0
            House h = filled(99200 - 5 + more);
            due("K ^A", done(h, "K ^A"), more == 0 ? "" : "{,Z1,}");
            due("A", h.look(0, "^A", 4), more == 0 ? "0" : "1");
            // 3, 1, R, 0, 4, 4 bytes, 0
            h = filled(99200 - 10 + more);
            due("save", h.save("R", " W 1"), more == 0 ? 1 : -4);
            due("routines", h.house.count(0), 1 - more);
            due("bytes", h.house.count(13), more == 0 ? 99200 : 99191);
        }
        House h = filled(99200);
        due("K ^B changes nothing", done(h, "K ^B M ^B=^C S $P(^A,``)=1 TS  TC  W 1"), "1");
        due("sync", h.house.sync(), 400);
        due("used", h.house.count(11), 400);
        due("SET", done(h, "S ^B=1"), "{,Z1,}");
        due("save", h.save("R", ""), -4);
        h.house.cut(0, 0);
        due("nothing to write", h.house.sync(), 0);
        due("verify", h.house.verify(), -1);
        // behind one block that is used there are 399
        h = house("S ^A=1 R X S A=2");
        turns(h, 9);
        h.house.sync();
        h.house.halt(0);
        h.process(m("F I=1:1:386 S ^A=$J(``,250)"));
        turns(h, 900);
        due("bytes", h.house.count(13), 386 * 256);
        due("fits", done(h, "S ^B=$J(1," + (399 * 248 - 386 * 256 - 6) + ")"), "");
        due("does not", done(h, "S ^B=``"), "{,Z1,}");
        due("sync", h.house.sync(), 399);
    }

    private static void power() {
        says("POWER may be set to go at a block: of it the first so many bytes are the new ones. Then the house is DOWN till start()");
        for (int n = 0; n < 4; n++) {
            for (int tear : new int[] {0, 1, 3, 4, 5, 254, 255}) {
                House h = house("S ^A=$J(1,250),^B=$J(2,250)");
                turns(h, 9);
                for (int k = 1; k <= 3; k++) for (int i = 0; i < 256; i++) h.house.poke(k, i, 0x5A);
                byte[] unit = DiskTest.joined(DiskTest.set(" ".repeat(249) + "1", "A"), 0, DiskTest.set(" ".repeat(249) + "2", "B"), 0);
                List<byte[]> fresh = DiskTest.sync(1, unit);
                due("cut", h.house.cut(n, tear), 1);
                due("sync", h.house.sync(), n < 3 ? -6 : 3);
                int wrong = 0;
                for (int k = 1; k <= 3; k++) {
                    for (int i = 0; i < 256; i++) {
                        boolean is = k - 1 < n || k - 1 == n && i < tear;
                        if (h.house.octet(k, i) != (is ? fresh.get(k - 1)[i] & 255 : 0x5A)) wrong++;
                    }
                }
                due("bytes that are others, cut at " + n + " behind " + tear, wrong, 0);
                due("DOWN", h.house.count(11), n < 3 ? -5 : 3);
                due("start", h.house.start(), n < 3 ? 0 : -3);
            }
        }
        says("Power goes at the n-th block that is written from now on (0 the next one)");
        House h = house("S ^A=1 R X S ^A=2 R X S ^A=3");
        h.house.cut(2, 9);
        for (int i = 0; i < 3; i++) {
            turns(h, 9);
            due("nothing else is written", h.house.sync(), i < 2 ? 1 : -6);
            h.tell(0, "");
        }
        h.house.start();
        due("A", h.look(0, "^A", 0), "2");
        says("NONE: it stays");
        h = house("S ^A=1");
        turns(h, 9);
        h.house.cut(0, 0);
        due("cut", h.house.cut(-1, 0), 1);
        due("sync", h.house.sync(), 1);
        says("set again");
        h = house("S ^A=1 R X S ^A=2");
        turns(h, 9);
        h.house.cut(0, 0);
        h.house.cut(1, 0);
        due("sync", h.house.sync(), 1);
        h.tell(0, "");
        turns(h, 9);
        due("sync", h.house.sync(), -6);
    }

    /** A house whose block 1 is changed: as the disk's own, but one byte, with a right sum. */
    private static House changed(int at, int is, boolean summed) {
        House h = house("S ^A=1");
        turns(h, 9);
        h.house.sync();
        byte[] b = DiskTest.sync(1, DiskTest.joined(DiskTest.set("1", "A"), 0)).get(0);
        b[at] = (byte) is;
        if (summed) DiskTest.sum(b);
        for (int i = 0; i < 256; i++) h.house.poke(1, i, h.house.octet(1, i) ^ b[i] & 255);
        return h;
    }

    private static void right() {
        says("A block is RIGHT when its number and sum are so, its third byte is 0 or 1, n is 248 where that is 0, 1 .. 248 where it is 1");
        int[][] wrong = {{0, 1}, {1, 0}, {1, 2}, {2, 2}, {2, 255}, {3, 0}, {3, 249}, {3, 255}, {2, 0}};
        for (int[] w : wrong) {
            House h = changed(w[0], w[1], true);
            due("byte " + w[0] + " is " + w[1], h.house.verify(), 1);
        }
        int[][] fine = {{3, 1}, {3, 6}, {3, 7}, {3, 8}, {3, 248}, {4, 9}, {11, 0}, {11, 7}, {251, 3}};
        for (int[] w : fine) due("byte " + w[0] + " is " + w[1], changed(w[0], w[1], true).house.verify(), -1);
        for (int at : new int[] {0, 1, 2, 3, 4, 10, 11, 200, 250, 251, 252, 253, 254, 255}) due("byte " + at + " with a wrong sum", changed(at, 77, false).house.verify(), 1);
        // the third byte 0 wants 248 of n
        House h = house("S ^A=$J(1,250)");
        turns(h, 9);
        h.house.sync();
        byte[] b = DiskTest.sync(1, DiskTest.joined(DiskTest.set(" ".repeat(249) + "1", "A"), 0)).get(0);
        for (int n : new int[] {247, 248, 249, 1}) {
            b[3] = (byte) n;
            DiskTest.sum(b);
            for (int i = 0; i < 256; i++) h.house.poke(1, i, h.house.octet(1, i) ^ b[i] & 255);
            due("n " + n + " where the third byte is 0", h.house.verify(), n == 248 ? -1 : 1);
        }
        says("when it was not cut so (by the power that went last)");
        h = house("S ^A=1");
        turns(h, 9);
        h.house.cut(0, 100);
        h.house.sync();
        b = DiskTest.sync(1, DiskTest.joined(DiskTest.set("1", "A"), 0)).get(0);
        for (int i = 0; i < 256; i++) h.house.poke(1, i, h.house.octet(1, i) ^ b[i] & 255);
        due("whole, but it was cut", h.house.start(), 0);
        due("used", h.house.count(11), 0);
        due("octet", h.house.octet(1, 1), 0);
        h.process("S ^A=1");
        turns(h, 9);
        due("written anew", h.house.sync(), 1);
        due("it is right", h.house.verify(), -1);
        h.process("S ^A=2");
        turns(h, 9);
        h.house.cut(0, 100);
        h.house.sync();
        due("the power that went last cut another", h.house.start(), 1);
    }

    /** Syncs of one, two and one blocks, of which one byte is changed before the power goes: so many are used then. */
    private static void usedWith(int block, int want) {
        House h = house("S ^A=1 R X S ^B=$J(2,250) R X S ^C=3 R X S ^D=4");
        for (int i = 0; i < 3; i++) {
            turns(h, 9);
            h.house.sync();
            h.tell(0, "");
        }
        turns(h, 9);
        if (block > 0) h.house.poke(block, 77, 1);
        due("verify", h.house.verify(), block > 0 ? block : -1);
        h.house.cut(0, 0);
        h.house.sync();
        int[] units = {0, 1, 1, 2, 3};
        due("units with block " + block + " changed", h.house.start(), units[want]);
        due("used", h.house.count(11), want);
        for (int k = 1; k <= 5; k++) due("block " + k, h.house.octet(k, 1), k <= want ? k : 0);
        due("verify", h.house.verify(), -1);
        due("values", h.house.count(1), units[want]);
    }

    private static void used() {
        says("of the blocks from 1 on, as far as each is right, those up to the last whose third byte is 1 are USED, all others become 0");
        usedWith(0, 4);
        usedWith(1, 0);
        usedWith(2, 1);
        usedWith(3, 1);
        usedWith(4, 3);
        House h = house("S ^A=1 R X S ^B=2");
        turns(h, 9);
        h.house.sync();
        h.house.poke(400, 255, 9);
        h.house.poke(2, 0, 9);
        h.tell(0, "");
        turns(h, 9);
        h.house.cut(0, 0);
        h.house.sync();
        due("start", h.house.start(), 1);
        due("others", h.house.octet(400, 255) + h.house.octet(2, 0), 0);
    }

    private static byte[] one(String name) {
        return DiskTest.joined(DiskTest.set("1", name), 0);
    }

    private static void again(int units, Object... parts) {
        House h = DiskTest.from(units, DiskTest.joined(parts));
        due("sound", h.house.sound(), 1);
    }

    private static void unitsAgain() {
        says("of each sync as far as its units are whole and such");
        again(1, one("A"));
        again(2, one("A"), one("B"));
        again(1, one("A"), 1);
        again(1, one("A"), DiskTest.set("1", "B"));
        again(0, DiskTest.set("1", "A"));
        again(1, one("A"), 2, 0, 1);
        again(0, 9, one("A"));
        again(1, one("A"), 0, one("B"));
        again(1, one("A"), 4, one("B"));
        says("one record at least");
        again(0, 0);
        again(0, 0, one("A"));
        says("A RECORD: 1, 2 or 3 ..");
        for (int type : new int[] {0, 4, 5, 128, 255}) {
            again(0, type, DiskTest.node("A"), 0, 0);
            again(0, type, DiskTest.node("A"), 0);
            again(1, one("A"), type, DiskTest.node("A"), 1, "1", 0);
        }
        says("each as told above, with NAMES and nodes that can be");
        again(1, DiskTest.set("1", "ABCDEFGH"), 0);
        again(0, DiskTest.set("1", "ABCDEFGHI"), 0);
        again(0, 1, 0, 0, 1, "1", 0);
        for (String name : new String[] {"%", "A", "Z", "a", "z", "A0", "A9", "AZ", "Az", "%a"}) again(1, one(name));
        for (String name : new String[] {"@", "[", "{", "1", "/", "A/", "A:", "A@", "A[", "A{", "A%", "A ", "\u00c1"}) again(0, one(name));
        again(1, DiskTest.set("1", "A", "1", "2", "3", "4", "5", "6"), 0);
        again(0, DiskTest.set("1", "A", "1", "2", "3", "4", "5", "6", "7"), 0);
        again(0, 1, 255, 1, "A", 0, 0);
        again(1, DiskTest.set("1", "A", "x"), 0);
        again(0, DiskTest.set("1", "A", ""), 0);
        again(1, DiskTest.kill("A", "x".repeat(60)), 0);
        again(0, DiskTest.kill("A", "x".repeat(61)), 0);
        again(1, DiskTest.set("", "A", "x".repeat(60), "y".repeat(35)), 0);
        again(0, DiskTest.set("", "A", "x".repeat(60), "y".repeat(36)), 0);
        again(1, DiskTest.set("", "ABCDEFGH", "x".repeat(60), "y".repeat(28)), 0);
        again(0, DiskTest.kill("ABCDEFGH", "x".repeat(60), "y".repeat(29)), 0);
        again(1, DiskTest.set("x".repeat(250), "A"), 0);
        again(0, DiskTest.set("x".repeat(251), "A"), 0);
        again(0, 1, 0, 1, "A", 5, "1234", 0);
        again(1, DiskTest.kill("A"), 0);
        again(2, one("A"), DiskTest.kill("A"), 0);
        says("texts without a fault");
        again(1, DiskTest.routine("R", ""), 0);
        again(1, DiskTest.routine("R", " W 1\nA Q"), 0);
        again(0, DiskTest.routine("R", " W"), 0);
        again(0, DiskTest.routine("R", "A\nA"), 0);
        again(1, one("A"), DiskTest.set("1", "B"), DiskTest.routine("R", " ("), 0, one("C"));
        again(1, DiskTest.routine("R", " ;" + "x".repeat(2998)), 0);
        again(0, DiskTest.routine("R", " ;" + "x".repeat(2999)), 0);
        again(0, DiskTest.routine("1", ""), 0);
        again(0, DiskTest.routine("ABCDEFGHI", ""), 0);
        again(0, 3, 0, 0, 0, 0);
        again(0, 3, 1, "R", 0, 9, " W 5", 0);
        again(1, DiskTest.routine("R", "\n".repeat(99)), 0);
        again(0, DiskTest.routine("R", "\n".repeat(100)), 0);
        says("no 17th routine; the rest of that sync is passed over");
        ByteArrayOutputStream sixteen = new ByteArrayOutputStream();
        for (int i = 0; i < 16; i++) sixteen.writeBytes(DiskTest.joined(DiskTest.routine("R" + i, ""), 0));
        again(16, sixteen.toByteArray());
        again(16, sixteen.toByteArray(), DiskTest.routine("X", ""), 0, one("A"));
        again(18, sixteen.toByteArray(), DiskTest.routine("R15", " W 1"), 0, one("A"));
        for (int i : new int[] {0, 1, 8, 14}) again(18, sixteen.toByteArray(), DiskTest.routine("R" + i, " W 1"), 0, one("A"));
        again(17, sixteen.toByteArray(), DiskTest.routine("R0", " W 1"), DiskTest.routine("R15", " W 1"), DiskTest.set("1", "A"), 0, DiskTest.routine("R0", ""), DiskTest.routine("R16", ""), 0);
        House h = DiskTest.from(16, DiskTest.joined(sixteen.toByteArray(), DiskTest.set("1", "A"), DiskTest.routine("X", ""), 0, one("B")));
        due("all of that unit", h.house.count(0) * 10 + h.house.count(1), 160);
        says("a value for which there is no room is left out");
        ByteArrayOutputStream many = new ByteArrayOutputStream();
        for (int i = 1; i <= 800; i++) many.writeBytes(DiskTest.joined(DiskTest.set("v", "A", "" + i), 0));
        h = DiskTest.from(804, DiskTest.joined(many.toByteArray(), DiskTest.set("w", "B"), 0, DiskTest.set("x", "A", "7"), DiskTest.set("w", "B", "1"), 0, DiskTest.kill("A", "8"), 0, DiskTest.set("y", "C"), 0));
        due("values", h.house.count(1), 800);
        due("left out, changed, killed, in its place", h.look(0, "^B", 4) + h.look(0, "^A(7)", 0) + h.look(0, "^A(8)", 4) + h.look(0, "^C", 0), "0x0y");
        says("(of each sync as far as its units are whole and such ..; the rest of that sync is passed over)");
        twoSyncs();
    }

    /** The first of two syncs has a unit that is none: the second one is done all the same. */
    private static void twoSyncs() {
        House h = house("S ^q=1 R X S ^q=2 R X S ^q=3");
        turns(h, 9);
        h.house.sync();
        h.tell(0, "");
        turns(h, 9);
        h.house.sync();
        h.tell(0, "");
        turns(h, 9);
        h.house.cut(0, 0);
        h.house.sync();
        List<byte[]> blocks = DiskTest.sync(1, DiskTest.joined(one("A"), 4, one("B")));
        blocks.addAll(DiskTest.sync(2, DiskTest.joined(one("C"), one("D"))));
        for (int k = 1; k <= 2; k++) for (int i = 0; i < 256; i++) h.house.poke(k, i, h.house.octet(k, i) ^ blocks.get(k - 1)[i] & 255);
        due("start", h.house.start(), 3);
        due("A, B, C, D", h.look(0, "^A", 4) + h.look(0, "^B", 4) + h.look(0, "^C", 4) + h.look(0, "^D", 4), "1011");
    }

    private static void starts() {
        says("routines and globals are what the units in them make, in order");
        House h = new House();
        h.save("R", " W 1");
        h.save("S", " W 2");
        h.save("R", " W 3");
        h.process("S ^A=1,^B=2,^A=3,^C(1)=1 K ^B,^C");
        turns(h, 20);
        h.house.sync();
        h.save("R", " W 4");
        h.process("S ^A=9,^D=1");
        turns(h, 20);
        h.house.cut(0, 255);
        due("sync", h.house.sync(), -6);
        due("start", h.house.start(), 3 + 4 + 2);
        due("globals", h.look(0, "^A", 0) + h.look(0, "^B", 4) + h.look(0, "^C", 4) + h.look(0, "^D", 4) + h.house.count(1), "30001");
        due("routines", h.run("D ^R,^S") + h.house.count(0), "322");
        says("(routines that were not written are none)");
        h = house("S ^A=1");
        h.save("R", " W 1");
        turns(h, 9);
        h.house.cut(0, 0);
        h.house.sync();
        h.house.start();
        due("routines", h.house.count(0), 0);
        due("no such one", h.run("W $T(^R) D ^R"), "{,M13,}");
        says("each process begins anew");
        h = house("I 1 W !!,`abc` S A=1,A(1)=2 N A S A=3 TS (A) TRE:$TR<1  S $EC=`,a,` ", "W 1/0", "S ^A=1,B=1,$ET=`R X` F I=1 F J=1 S (X,Y,Z)=$$F^R W 1/0", "L A R X", "TS () TRE:$TR<2  S (A,B,C)=1,$ET=2 R X");
        turns(h, 80);
        due("$TRESTART", h.house.state(4, 4), 2);
        h.house.cut(0, 0);
        h.house.sync();
        h.house.start();
        for (int p = 0; p < 5; p++) {
            due("process", h.process(m("W $T,$X,$Y,$TL,$TR,`[`,$EC,$ET,`]`,$D(A),$D(B) S A=1,(X,Y)=2 R X")), p);
            for (int what = 0; what < 12; what++) due("state " + what, h.house.state(p, what), what == 1 ? 1 : 0);
            due("nothing is written", h.written(p) + h.code(p), "");
        }
        turns(h, 60);
        for (int p = 0; p < 5; p++) due("process " + p, h.written(p) + h.house.state(p, 11), "01000[]003");
        due("values", h.house.count(2), 15);
        says("STATE when it is not DOWN");
        due("start", h.house.start(), -3);
        says("There are no processes, no locks, nothing waits, nothing is set for power; numbers of processes begin anew");
        h = house("L (A,^B) S X=1,^A=1 TS () S ^A=2 TRE:$TR<1  R Y", "R X", "L A");
        turns(h, 40);
        h.house.cut(0, 0);
        h.house.sync();
        h.house.start();
        int[] zero = {0, 1, 2, 3, 4, 5, 6, 7, 8, 9, 10, 11, 12, 13};
        for (int what : zero) due("count " + what, h.house.count(what), 0);
        due("state", h.house.state(0, 0), -1);
        due("lock", h.house.lock(0, 0), -1);
        due("tell", h.tell(0, ""), -1);
        due("a process", h.process("S ^A=1"), 0);
        turns(h, 9);
        due("nothing is set for power", h.house.sync(), 1);
    }

    private static void stays() {
        says("The seed's x, the told second, the tape, the RESULT stay");
        House h = house("S ^A=`abc` S ^A(1)=1");
        h.house.time(77);
        h.house.seed(99);
        long x = 99;
        for (int i = 0; i < 2; i++) x = x * 6364136223846793005L + 1442695040888963407L;
        due("turns", turns(h, 9), 2);
        h.look(0, "^A", 0);
        h.house.cut(0, 0);
        h.tape("W 1");
        h.house.sync();
        h.house.start();
        due("the RESULT", h.result(), "abc");
        due("the tape", h.house.end(4), -1);
        due("the tape", h.house.process(), 0);
        due("the second", h.house.count(14), 77);
        h.house.halt(0);
        for (int i = 1; i < 6; i++) h.process("F  W 1");
        int[] went = new int[6];
        for (int i = 0; i < 30; i++) {
            h.house.turns(1);
            x = x * 6364136223846793005L + 1442695040888963407L;
            went[1 + (int) ((x >>> 33) % 5)]++;
            for (int p = 1; p < 6; p++) due("of process " + p + " at turn " + i, h.house.state(p, 9), went[p]);
        }
        says("numbers of processes begin anew");
        due("the process behind", h.process("W 1"), 6);
    }
}
