import java.lang.management.ManagementFactory;
import java.lang.reflect.Array;
import java.lang.reflect.Field;
import java.lang.reflect.Modifier;
import java.util.ArrayDeque;
import java.util.Deque;
import java.util.IdentityHashMap;
import java.util.Map;

/** Rule 12 of LANGUAGE.md: all that is made is made with the object, and has place in the one room; the calls make nothing. */
public final class RoomTest {
    private static final long MOST_OBJECTS = 600000, MOST_FIELDS = 7300000;
    private static final com.sun.management.ThreadMXBean MEASURE = (com.sun.management.ThreadMXBean) ManagementFactory.getThreadMXBean();

    private MumpsHouse house = new MumpsHouse();
    private int calls;
    private long made;

    public static void main(String[] args) throws Exception {
        int runs = 3;
        // what the machine makes for itself, it makes at a first time
        new RoomTest().all();
        for (int i = 0; i < runs; i++) {
            RoomTest t = new RoomTest();
            long[] fresh = t.size();
            House.due("objects beyond the room", Math.max(0, fresh[0] - MOST_OBJECTS), 0);
            House.due("fields and elements beyond the room", Math.max(0, fresh[1] - MOST_FIELDS), 0);
            t.all();
            long[] used = t.size();
            House.due("objects more", used[0] - fresh[0], 0);
            House.due("fields and elements more", used[1] - fresh[1], 0);
            House.due("bytes that calls made", t.made, 0);
            House.due("calls beyond 512", Math.max(0, t.calls - 512), 0);
        }
        House.report();
    }

    /** How many objects and arrays belong to the house, and how many fields and elements they have. */
    private long[] size() throws Exception {
        Map<Object, Object> seen = new IdentityHashMap<>();
        Deque<Object> open = new ArrayDeque<>();
        open.add(house);
        seen.put(house, house);
        long[] size = new long[2];
        while (!open.isEmpty()) {
            Object o = open.remove();
            size[0]++;
            if (o.getClass().isArray()) {
                int n = Array.getLength(o);
                size[1] += n;
                for (int i = 0; i < n && !o.getClass().getComponentType().isPrimitive(); i++) meet(Array.get(o, i), seen, open);
                continue;
            }
            for (Field f : o.getClass().getDeclaredFields()) {
                if (Modifier.isStatic(f.getModifiers())) continue;
                size[1]++;
                f.setAccessible(true);
                if (!f.getType().isPrimitive()) meet(f.get(o), seen, open);
            }
        }
        return size;
    }

    private static void meet(Object o, Map<Object, Object> seen, Deque<Object> open) {
        if (o != null && seen.put(o, o) == null) open.add(o);
    }

    private static long bytes() {
        return MEASURE.getThreadAllocatedBytes(Thread.currentThread().getId());
    }

    private void tape(String text) {
        byte[] b = House.bytes(text);
        int[] n = new int[(b.length + 19) / 20 * 5];
        for (int i = 0; i < b.length; i++) n[i / 4] |= (b[i] & 255) << 24 - 8 * (i % 4);
        long before = bytes();
        house.end(0);
        for (int i = 0; i < n.length; i += 5) house.feed(n[i], n[i + 1], n[i + 2], n[i + 3], n[i + 4]);
        house.end(b.length);
        made += bytes() - before;
        calls += 2 + n.length / 5;
    }

    private void save(String name, String text) {
        tape(name + text);
        long before = bytes();
        int answer = house.save(name.length());
        made += bytes() - before;
        calls++;
        House.due("refused to save", Math.min(answer, 0), 0);
    }

    private int process(String text) {
        tape(text);
        long before = bytes();
        int answer = house.process();
        made += bytes() - before;
        calls++;
        House.due("refused process", Math.min(answer, 0), 0);
        return answer;
    }

    private void turns(int times) {
        long before = bytes();
        for (int i = 0; i < times; i++) house.turns(400);
        made += bytes() - before;
        calls += times;
    }

    private void ask(String node, int process, int what) {
        tape(node);
        long before = bytes();
        house.look(process, what);
        house.result(0);
        made += bytes() - before;
        calls += 2;
    }

    /** Whatever has a limit is filled, or nearly so. */
    private void all() {
        for (int i = 0; i < 16; i++) save("R" + i, "F(N) Q:N<1 1 N A S A=N Q N*$$F(N-1)\nG ;\n D\n .W 1\n");
        save("R0", "F(N) Q:N<1 1 Q $$F(N-1)\nH(A,B) S A=B Q\n");
        for (int i = 0; i < 6; i++) process("S A=$J(1,250) W $$F^R0(28) F I=1:1:83 S B(I)=A S:I<51 ^C($J,I)=A");
        turns(15);
        for (int i = 0; i < 6; i++) halt(i);
        process("S C=1 N C S X=\"N C,C,C,C,C,C,C,C,C,C\" X X,X,X,X D H^R0(.Q,1) W Q,C,$ST F I=1:1:9 F J=1:1:9 F K=1:1:9 W I*J/K,$P(I,J,K)_$J(I/J,9,3)");
        process("TS (A,B) S A=1,^C(1)=2 K ^C(0) M ^D=^C,^E=A TC  S A=\"@B\",B=\"@D\",D=\"C\",C=5 W @A,$Q(^C(1)),$O(^C(\"\")) S $ET=\"W 1\" W 1/0");
        int reader = process("L (^A,B(1),C) S B=\"@A\",A=1 R X,Y:5 W X?1.N1\"a\".1(1A,.E),$NA(X(1,Y)),$TR(X,1,2),$FN(X,\",\") J F^R0(1) H 3 L +^A:3,-B");
        turns(6);
        tell(reader);
        turns(2);
        ask("A", reader, 0);
        ask("^C(1)", reader, 3);
        ask("^C(\"\")", reader, 1);
        disk();
    }

    private void halt(int process) {
        long before = bytes();
        house.halt(process);
        house.code(process);
        made += bytes() - before;
        calls += 2;
    }

    private void tell(int process) {
        tape("12345a");
        long before = bytes();
        for (int i = 0; i < 20; i++) house.tell(process);
        house.time(100);
        house.level(process, 0, 0);
        house.lock(1, 2);
        house.state(process, 11);
        made += bytes() - before;
        calls += 24;
    }

    private void disk() {
        long before = bytes();
        house.sound();
        house.sync();
        house.verify();
        house.cut(0, 9);
        house.poke(1, 1, 0);
        house.octet(1, 1);
        made += bytes() - before;
        process("S ^A=1");
        turns(1);
        before = bytes();
        house.sync();
        int units = house.start();
        made += bytes() - before;
        calls += 8;
        House.due("no units done again", units > 299 ? 0 : 1, 0);
    }
}
