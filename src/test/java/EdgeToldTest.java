import java.util.ArrayList;
import java.util.List;

/** Term 2, edge by edge: how code is MADE, and what is TOLD at the beginning, where ways meet, and out of reach. */
public final class EdgeToldTest {
    public static void main(String[] args) {
        leastCode();
        newRegisters();
        labels();
        unwrittenRegisters();
        beginning();
        noNames();
        bindsAndWrites();
        callsWrite();
        sums();
        sameByAllWays();
        sameConstByAllWays();
        goneByAllWays();
        waysThatCanBeGone();
        rings();
        outOfReach();
        behindTheLast();
        framesComeAndGo();
        framesInRings();
        toldAnew();
        Check.finish();
    }

    /** What is told of a name of FRAME 0 of a routine at each ITEM, and behind the last. */
    private static List<String> along(LineKeeper x, int r, int f, int name) {
        List<String> list = new ArrayList<>();
        for (int k = 0; k <= x.routine(r, 0); k++) {
            list.add(Check.told(x, r, k, f, name));
        }
        return list;
    }

    private static void told(String sentence, LineKeeper x, int r, int f, int name, String... due) {
        Check.due("Term 2: " + sentence, along(x, r, f, name), List.of(due));
    }

    private static void code(String sentence, LineKeeper x, int r, String... due) {
        Check.due("Term 2: " + sentence, Check.items(x, r), List.of(due));
    }

    private static void leastCode() {
        LineKeeper x = Check.keeper("f(){}");
        code("at the end RETURN 0, alone", x, 0, "RETURN 0");
        Check.due("Term 2: nothing else", List.of(x.routine(0, 0), x.routine(0, 1), x.routine(0, 2), x.routine(0, 3),
            x.routine(0, 4), x.routine(0, 5), x.routine(0, 6)), List.of(1, 1, 0, 0, 0, 1, 0));
        code("RETURN 0 behind a return, too", Check.keeper("f(){return 7;}"), 0, "LINE 1 in 0", "RETURN 7", "RETURN 0");
        code("empty BLOCKS", Check.keeper("f(a){if a{}if a{}else{}while a{}}"), 0,
            "LINE 1 in 0", "ZERO r0 L0", "LABEL L0",
            "LINE 2 in 0", "ZERO r0 L1", "JUMP L2", "LABEL L1", "LABEL L2",
            "LABEL L3", "LINE 3 in 0", "ZERO r0 L4", "JUMP L3", "LABEL L4", "RETURN 0");
    }

    private static void newRegisters() {
        code("new REGISTERS behind all names, each for one result", Check.keeper("f(a){x=-(a+1)*(a+1);y=-2;z=(7);w=((a));}"),
            0, "LINE 1 in 0", "PLUS r5 r0 1", "MINUS r6 0 r5", "PLUS r7 r0 1", "TIMES r8 r6 r7", "COPY r1 r8", "BIND 0.1 r1",
            "LINE 2 in 0", "MINUS r9 0 2", "COPY r2 r9", "BIND 0.2 r2",
            "LINE 3 in 0", "COPY r3 7", "BIND 0.3 r3", "LINE 4 in 0", "COPY r4 r0", "BIND 0.4 r4", "RETURN 0");
        code("parts from the left", Check.keeper("f(a,b){out a-b-a*b<-a;}"), 0, "LINE 1 in 0", "MINUS r2 r0 r1",
            "TIMES r3 r0 r1", "MINUS r4 r2 r3", "MINUS r5 0 r0", "LESS r6 r4 r5", "OUT r6", "RETURN 0");
    }

    private static void labels() {
        code("LABELS as they are first needed", Check.keeper("f(a){while a{if a{out 1;}else{while a{}}}}"), 0,
            "LABEL L0", "LINE 1 in 0", "ZERO r0 L1", "LINE 2 in 0", "ZERO r0 L2", "LINE 3 in 0", "OUT 1", "JUMP L3",
            "LABEL L2", "LABEL L4", "LINE 4 in 0", "ZERO r0 L5", "JUMP L4", "LABEL L5", "LABEL L3", "JUMP L0",
            "LABEL L1", "RETURN 0");
        code("those of a BLOCK ahead of the one behind else", Check.keeper("f(a){if a{if a{}}else{}}"), 0,
            "LINE 1 in 0", "ZERO r0 L0", "LINE 2 in 0", "ZERO r0 L1", "LABEL L1", "JUMP L2", "LABEL L0", "LABEL L2",
            "RETURN 0");
        code("each routine from 0 on", Check.keeper("f(a){if a{}}g(a){if a{}}"), 1, "LINE 2 in 0", "ZERO r0 L0",
            "LABEL L0", "RETURN 0");
    }

    private static void unwrittenRegisters() {
        LineKeeper x = Check.keeper("g(a,b){c=b+1;b=a;out d;d=a;}f(a){while a{x=g(a,3);a=a-1;}}");
        x.start(1, 3, 0, 0, 0);
        x.go(2, 500);
        Check.due("Term 2: REGISTERS are 0 where nothing was written, in each call", List.of(x.printed(0), x.printed(1),
            x.printed(2)), List.of(0, 0, 0));
    }

    private static void beginning() {
        LineKeeper x = Check.keeper("g(p){q=p;}f(a,b){c=g(a);}");
        x.pass(4, 1);
        Check.due("Term 2: at the beginning REG of parameters", List.of(Check.told(x, 1, 0, 0, 0),
            Check.told(x, 1, 0, 0, 1)), List.of("r0", "r1"));
        Check.due("Term 2: at the beginning CONST 0 of the others of FRAME 0", Check.told(x, 1, 0, 0, 2), "0");
        Check.due("Term 2: at the beginning GONE 1 of all others", List.of(Check.told(x, 1, 0, 1, 0),
            Check.told(x, 1, 0, 1, 1)), List.of("GONE1", "GONE1"));
        x = Check.keeper("f(a,b){c=b;b=c;out c;}");
        x.pass(5, 0);
        Check.due("Term 2: REG of parameters where SHARE put them", List.of(Check.told(x, 0, 0, 0, 0),
            Check.told(x, 0, 0, 0, 1), Check.told(x, 0, 0, 0, 2)), List.of("r" + x.routine(0, 7), "r" + x.routine(0, 8), "0"));
    }

    private static void noNames() {
        LineKeeper x = Check.keeper("f(){out 1;}");
        for (int k = -1; k <= 4; k++) {
            Check.due("Term 2: no name, nothing told at " + k, x.told(0, k, 0, 0, 0), -1);
        }
    }

    private static void bindsAndWrites() {
        LineKeeper x = Check.keeper("f(a){x=5;x=a;a=2;}");
        told("BIND tells its WHERE, what is written makes it GONE 3", x, 0, 0, 1,
            "0", "0", "0", "r1", "r1", "GONE3", "r1", "r1", "r1", "r1", "GONE1");
        told("a parameter that is written", x, 0, 0, 0,
            "r0", "r0", "r0", "r0", "r0", "r0", "r0", "r0", "GONE3", "r0", "GONE1");
        x = Check.keeper("f(a){a=a;}");
        told("what is written by itself", x, 0, 0, 0, "r0", "r0", "GONE3", "r0", "GONE1");
        x = Check.keeper("f(a){x=1;out x;x=a;out x;}");
        x.pass(0, 0);
        told("a CONST leans on nothing", x, 0, 0, 1, "0", "0", "0", "1", "1", "1", "1", "1", "r1", "r1", "r1", "GONE1");
    }

    private static void callsWrite() {
        LineKeeper x = Check.keeper("f(a){x=1;x=f(a);a=f(x);}");
        told("CALL writes r", x, 0, 0, 1, "0", "0", "0", "r1", "r1", "GONE3", "r1", "r1", "r1", "r1", "GONE1");
        told("CALL writes a parameter", x, 0, 0, 0, "r0", "r0", "r0", "r0", "r0", "r0", "r0", "r0", "GONE3", "r0", "GONE1");
    }

    private static void sums() {
        LineKeeper x = Check.keeper("f(a,b){x=a<b;out 1;b=2;out b;}");
        x.pass(1, 0);
        code("a SUM behind DROP", x, 0, "LINE 1 in 0", "BIND 0.2 LESS r0 r1", "LINE 2 in 0", "OUT 1", "LINE 3 in 0",
            "COPY r1 2", "BIND 0.1 r1", "LINE 4 in 0", "OUT r1", "RETURN 0");
        told("a SUM leans on its b", x, 0, 0, 2, "0", "0", "LESS r0 r1", "LESS r0 r1", "LESS r0 r1", "LESS r0 r1",
            "GONE3", "GONE3", "GONE3", "GONE3", "GONE1");
        Check.due("Promise 9: the a, b of a SUM", List.of(x.told(0, 2, 0, 2, 0), x.told(0, 2, 0, 2, 1),
            x.told(0, 2, 0, 2, 2), x.told(0, 2, 0, 2, 3), x.told(0, 2, 0, 2, 4)), List.of(7, 2, 2, 0, 1));
        x = Check.keeper("f(a,b){x=a-9;out 1;b=2;a=b;out a+b;}");
        x.pass(1, 0);
        told("a SUM leans on its a, not on what is a CONST", x, 0, 0, 2, "0", "0", "MINUS r0 9", "MINUS r0 9", "MINUS r0 9",
            "MINUS r0 9", "MINUS r0 9", "MINUS r0 9", "MINUS r0 9", "GONE3", "GONE3", "GONE3", "GONE3", "GONE3", "GONE1");
    }

    /** What is told of a name behind the LABEL that stands last. */
    private static String behindLastLabel(LineKeeper x, int name) {
        int k = x.routine(0, 0) - 1;
        while (k >= 0 && x.item(0, k, 0) != 13) {
            k--;
        }
        return Check.told(x, 0, k + 1, 0, name);
    }

    private static void meets(String sentence, String text, String passes, int name, String due) {
        LineKeeper x = Check.keeper(text);
        for (char pass : passes.toCharArray()) {
            x.pass(pass - '0', 0);
        }
        Check.due("Term 2: " + sentence + ": " + text, behindLastLabel(x, name), due);
    }

    private static void sameByAllWays() {
        meets("the same by both ways", "f(a){if a{x=1;}else{x=2;}}", "", 1, "r1");
        meets("the same as ahead", "f(a){x=1;if a{x=2;}}", "", 1, "r1");
        meets("a parameter, written by one way", "f(a){if a{a=2;}}", "", 0, "r0");
        meets("written by no way", "f(a){x=4;if a{out 1;}else{out 2;}}", "", 1, "r1");
        meets("never written", "f(a,b){if a{out 1;}out x;}", "", 2, "0");
        meets("it differs", "f(a){if a{x=1;}}", "", 1, "GONE4");
        meets("it differs behind else", "f(a){if a{}else{x=1;}}", "", 1, "GONE4");
        meets("it differs, the other way round", "f(a){if a{x=1;}else{}}", "", 1, "GONE4");
    }

    private static void sameConstByAllWays() {
        meets("the same CONST", "f(a){if a{x=3;}else{x=3;}}", "0", 1, "3");
        meets("another CONST", "f(a){if a{x=3;}else{x=4;}}", "0", 1, "GONE4");
        meets("CONST and REG", "f(a){if a{x=3;}else{x=a;}}", "0", 1, "GONE4");
        meets("CONST 0 as at the beginning", "f(a){if a{x=0;}}", "0", 1, "0");
        meets("CONST 1, not as at the beginning", "f(a){if a{x=1;}}", "0", 1, "GONE4");
        meets("REG of a parameter as at the beginning", "f(a){if a{b=a;a=b;}out a;}", "", 0, "r0");
        meets("the same SUM", "f(a,b){if a{x=a+b;}else{x=a+b;}out 1;}", "1", 2, "PLUS r0 r1");
        meets("a SUM of others", "f(a,b){if a{x=a+b;}else{x=b+a;}out 1;}", "1", 2, "GONE4");
        meets("a SUM of another act", "f(a,b){if a{x=a+b;}else{x=a-b;}out 1;}", "1", 2, "GONE4");
        meets("a SUM of another CONST", "f(a,b){if a{x=a+1;}else{x=a+2;}out 1;}", "1", 2, "GONE4");
        meets("a SUM of a CONST and of that REG", "f(a,b){if a{x=a+1;}else{x=a+b;}out 1;}", "1", 2, "GONE4");
        meets("SUM and the like REG", "f(a,b){if a{x=a;}else{x=a+b;}out 1;}", "1", 2, "GONE4");
        meets("REG of another's", "f(a,b){if a{x=a;}else{x=b;}out 1;}", "1", 2, "GONE4");
        meets("REG of the same", "f(a,b){if a{x=b;}else{x=b;}out 1;}", "1", 2, "r1");
    }

    private static void goneByAllWays() {
        String head = "f(a){x=a*5;out 1;";
        meets("GONE 2 by both", head + "if a{y=x;}else{y=x;}out a;}", "1", 2, "GONE2");
        meets("GONE 2 by one", head + "if a{y=x;}out a;}", "1", 2, "GONE4");
        meets("GONE 2 and GONE 3", head + "if a{y=x;}else{y=a;a=a-1;}out a;}", "1", 2, "GONE4");
        meets("GONE 3 by both", "f(a){y=a;out 1;if a{a=a-1;}else{a=a-2;}out a;}", "1", 1, "GONE3");
        meets("GONE 3 by one", "f(a){y=a;out 1;if a{a=a-1;}out a;}", "1", 1, "GONE4");
        meets("GONE 4 stays", "f(a){if a{y=1;}if a{out 1;}out a;}", "", 1, "GONE4");
        meets("GONE 4 and GONE 3", "f(a){y=a;if a{if a{a=a-1;}}else{a=a-1;}out a;}", "1", 1, "GONE4");
        meets("told again behind", "f(a){if a{y=1;}y=2;if a{out 1;}out a;}", "", 1, "r1");
    }

    private static void waysThatCanBeGone() {
        meets("a way that returns", "f(a){if a{x=1;return 1;}out x;}", "", 1, "0");
        meets("a way that returns, the other one tells", "f(a){if a{return 1;}else{x=1;}out x;}", "", 1, "r1");
        meets("both ways return", "f(a){if a{return 1;}else{return 2;}out x;}", "", 1, "GONE1");
        meets("a JUMP that can't be reached", "f(a){if a{x=1;return 1;}else{x=0;}out x;}", "0", 1, "0");
        meets("a JUMP for good", "f(a){if 0{x=1;}out x;}", "0", 1, "0");
        meets("a ZERO that went out", "f(a){if 1{x=1;}out x;}", "0", 1, "1");
        meets("a ZERO of a CONST goes both ways as long as it stands", "f(a){if 1{x=1;}out x;}", "", 1, "GONE4");
    }

    private static void rings() {
        LineKeeper x = Check.keeper("f(a){x=1;while a{out x;y=x;a=a-1;}out x;}");
        int ring = 3;
        Check.due("Term 2: the ring's LABEL", x.item(0, ring, 0), 13);
        Check.due("Term 2: the most that is so in a ring", List.of(Check.told(x, 0, ring, 0, 1),
            Check.told(x, 0, ring + 1, 0, 1), Check.told(x, 0, ring + 1, 0, 0)), List.of("r1", "r1", "r0"));
        Check.due("Term 2: ahead of the LABEL it differs already", List.of(Check.told(x, 0, ring, 0, 2),
            Check.told(x, 0, ring + 1, 0, 2)), List.of("GONE4", "GONE4"));
        Check.due("Term 2: ahead of the ring not", Check.told(x, 0, ring - 1, 0, 2), "0");
        meets("behind the ring", "f(a){while a{x=a;a=a-1;}}", "", 1, "GONE4");
        meets("a ring that is never left by its E", "f(a){x=1;while 1{out x;}}", "0", 1, "GONE1");
        // y is told as REG of x until the ring comes back with another x.
        x = Check.keeper("f(a){x=1;y=x;while a{out x;x=x+1;a=a-1;}}");
        x.pass(1, 0);
        List<String> y = along(x, 0, 0, 2);
        Check.due("Term 2: gone again and again", y.get(y.size() - 2), "GONE4");
        meets("a ring in a ring", "f(a,b){x=1;while a{y=2;while b{b=b-1;}a=a-1;}}", "", 2, "r2");
        meets("a ring in a ring, what its own way changes", "f(a,b){while a{while b{b=b-1;y=2;}a=a-1;}}", "", 2, "GONE4");
    }

    private static void outOfReach() {
        LineKeeper x = Check.keeper("f(a){return a;x=2;}");
        told("what can't be reached is GONE 1", x, 0, 0, 0, "r0", "r0", "GONE1", "GONE1", "GONE1", "GONE1", "GONE1");
        told("also behind a BIND there", x, 0, 0, 1, "0", "0", "GONE1", "GONE1", "GONE1", "GONE1", "GONE1");
        x = Check.keeper("f(a){return 1;while a{x=1;}}");
        told("a ring that can't be reached", x, 0, 0, 1, "0", "0", "GONE1", "GONE1", "GONE1", "GONE1", "GONE1", "GONE1",
            "GONE1", "GONE1", "GONE1", "GONE1");
    }

    private static void behindTheLast() {
        LineKeeper x = Check.keeper("f(a){out a;}");
        Check.due("Promise 9: behind the last one", List.of(x.told(0, 3, 0, 0, 0), x.told(0, 3, 0, 0, 3)), List.of(11, 0));
        Check.due("Promise 9: not beyond that", x.told(0, 4, 0, 0, 0), -1);
        x = Check.keeper("f(a){while 1{out a;}}");
        x.pass(0, 0);
        x.pass(1, 0);
        code("a code that ends with a JUMP", x, 0, "LABEL L0", "LINE 1 in 0", "LINE 2 in 0", "OUT r0", "JUMP L0");
        told("behind a JUMP", x, 0, 0, 0, "r0", "r0", "r0", "r0", "r0", "GONE1");
    }

    private static void framesComeAndGo() {
        LineKeeper x = Check.keeper("g(p){q=p;return q;}f(a){c=g(a);out c;}");
        x.pass(4, 1);
        code("melted in", x, 1, "LINE 3 in 0", "ENTER 1", "COPY r2 r0", "BIND 1.0 r2", "BIND 1.1 0", "LINE 1 in 1",
            "COPY r3 r2", "BIND 1.1 r3", "LINE 2 in 1", "COPY r1 r3", "JUMP L0", "COPY r1 0", "JUMP L0", "LABEL L0",
            "LEAVE 1", "BIND 0.1 r1", "LINE 4 in 0", "OUT r1", "RETURN 0");
        told("GONE 1 until BIND, and behind LEAVE", x, 1, 1, 0, "GONE1", "GONE1", "GONE1", "GONE1", "r2", "r2", "r2", "r2",
            "r2", "r2", "r2", "GONE1", "GONE1", "r2", "r2", "GONE1", "GONE1", "GONE1", "GONE1", "GONE1");
        told("a name that is no parameter", x, 1, 1, 1, "GONE1", "GONE1", "GONE1", "GONE1", "GONE1", "0", "0", "0", "r3",
            "r3", "r3", "GONE1", "GONE1", "r3", "r3", "GONE1", "GONE1", "GONE1", "GONE1", "GONE1");
    }

    private static void framesInRings() {
        LineKeeper x = Check.keeper("g(p){out p;}f(a){while a{c=g(a);a=a-1;}}");
        x.pass(4, 1);
        int label = 0;
        Check.due("Term 2: GONE 1 ahead of the ring and behind LEAVE are the same", Check.told(x, 1, label + 1, 1, 0), "GONE1");
        x = Check.keeper("h(s){out s;}g(p){c=h(p+1);out c;}f(a){x=g(a);}");
        x.pass(4, 1);
        x.pass(4, 2);
        int leave = x.routine(2, 0) - 1;
        while (leave > 0 && !(x.item(2, leave, 0) == 15 && x.item(2, leave, 1) == 2)) {
            leave--;
        }
        Check.due("Term 2: the FRAME that is left alone goes", List.of(Check.told(x, 2, leave, 2, 0).charAt(0),
            Check.told(x, 2, leave + 1, 2, 0), Check.told(x, 2, leave + 1, 1, 0).charAt(0)), List.of('r', "GONE1", 'r'));
    }

    /** What was told of a code is not what is told of the next one. */
    private static void toldAnew() {
        LineKeeper x = Check.keeper("f(a){x=1;x=a;out x;}");
        told("asked ahead of a PASS", x, 0, 0, 1, "0", "0", "0", "r1", "r1", "GONE3", "r1", "r1", "r1", "GONE1");
        x.pass(1, 0);
        told("asked behind DROP", x, 0, 0, 1, "0", "0", "1", "1", "1", "r1", "r1", "r1", "GONE1");
        x.pass(0, 0);
        told("asked behind FOLD", x, 0, 0, 1, "0", "0", "1", "1", "1", "r1", "r1", "r1", "GONE1");
        x.start(0, 6, 0, 0, 0);
        x.go(2, 2);
        Check.due("Promise 14: as it is told now", List.of(x.known(0, 1), x.value(0, 1)), List.of(1, 1));
        Check.tape(x, "f(a){out a;x=a;}");
        x.read();
        told("asked behind a read", x, 0, 0, 1, "0", "0", "0", "0", "0", "r1", "GONE1");
        Check.tape(x, "f(){return 3;while 1{x=2;}}");
        x.read();
        told("asked behind a read of what can't be reached", x, 0, 0, 0, "0", "0", "GONE1", "GONE1", "GONE1", "GONE1", "GONE1",
            "GONE1", "GONE1", "GONE1", "GONE1", "GONE1");
    }
}
