/** What lasts, by chance: behind START the house has just the globals and routines of its last whole sync, wherever power went. */
public final class DurableTest {
    private static final int LOST = MumpsHouse.LOST;
    /** Works out one number of all globals: of each value its $NAME and its bytes. */
    private static final String SUM = "S H=7,N=\"^%\" F  S N=$O(@N) R:N=\"\" Z S X=N S:$D(@N)#2 H=H*31+$L(@N)#999983 F  S X=$Q(@X) Q:X=\"\"  F V=X,@X S H=H*31+$L(V)#999983 F I=1:1:$L(V) S:I#5=1 H=H*31+$A(V,I)#999983";

    private final House house = new House();
    private final RandomTexts texts;
    private final long seed;
    private int processes;

    private DurableTest(long s) {
        seed = s;
        texts = new RandomTexts(s);
    }

    public static void main(String[] args) {
        int rounds = args.length > 0 ? Integer.parseInt(args[0]) : 150, first = args.length > 1 ? Integer.parseInt(args[1]) : 1;
        for (long s = first; s < first + rounds; s++) new DurableTest(s).run();
        House.report();
    }

    private void run() {
        house.house.seed(seed);
        String lasting = all();
        for (int round = 0; round < 2; round++) {
            change();
            if (texts.chance(70)) {
                House.due("sync", Math.min(0, house.house.sync()), 0);
                lasting = all();
                change();
            }
            House.due("seed " + seed + ": sound", house.house.sound(), 1);
            // something waits in any case
            house.save("Q", "A Q");
            int blocks = (house.house.count(13) + 247) / 248;
            house.house.cut(texts.below(blocks), texts.below(256));
            House.due("power goes", house.house.sync(), LOST);
            house.house.start();
            processes = 0;
            House.due("seed " + seed + ", round " + round + ": behind START", all(), lasting);
            House.due("seed " + seed + ": sound behind START", house.house.sound(), 1);
        }
    }

    /** Processes of texts by chance work for a while; then they are over. */
    private void change() {
        if (texts.chance(50)) house.save(texts.pick("R", "S"), texts.pick("A S ^A(1)=5 Q", "A TS () S ^B(2)=$G(^B(2))+1 K ^A(2) TC  Q", "A M ^G=^A Q"));
        int first = processes;
        for (int i = 0; i < 3; i++) begin(texts.pick("D ^R,^S", "F I=1:1:9 TS () S ^A(I)=$G(^A(I))+1,^B=I TC", "F I=1:1:5 S ^A($R(9))=$J(I,$R(250)) K ^A($R(9))", "M ^C=^A,^A(7)=^B TS  K ^C(1) S ^C(2,\"x\")=1 TC  K ^B",
            "TS  S ^A=1,^D=2 H 1 TC", "S (^A(\"a\"),^B(-1),^B(1.5),^G(1,2,3))=$R(100)", "TS * S ^A(1)=1 K ^A TC  S ^A(2)=2", texts.of("own", 1)));
        house.house.turns(20 + texts.below(200));
        for (int p = first; p < processes; p++) house.house.halt(p);
    }

    private int begin(String text) {
        int p = house.process(text);
        if (p >= 0) processes = p + 1;
        return p;
    }

    /** The sum of all globals, as a process works it out that waits then; and how many routines and values there are. */
    private String all() {
        int p = begin(SUM);
        for (int i = 0; i < 60 && house.house.state(p, 0) == 0; i++) house.house.turns(400);
        String sum = house.code(p) + house.look(p, "H", 0);
        house.house.halt(p);
        return sum + " of " + house.house.count(1) + " values, " + house.house.count(0) + " routines";
    }
}
