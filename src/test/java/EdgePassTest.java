import java.util.List;

/** Term 3, edge by edge: each PASS where it has nothing to do, at its limits, and on both sides of its conditions. */
public final class EdgePassTest {
    public static void main(String[] args) {
        nothingToDo();
        nothingLeft();
        otherRoutines();
        foldLabels();
        foldWrites();
        foldBinds();
        foldJumps();
        foldCalls();
        foldFive();
        foldKeepsKnowing();
        dropReach();
        dropReads();
        dropNear();
        dropRings();
        dropMoved();
        manyRegisters();
        moveRings();
        moveConditions();
        moveInner();
        alikeConditions();
        alikeItself();
        meltActs();
        meltItems();
        meltItemsOfNoughts();
        meltRegisters();
        meltFrames();
        meltWhich();
        meltNumbers();
        meltNoughts();
        meltOperands();
        meltWithoutReturn();
        shareNumbers();
        shareBinds();
        shareAtTheBeginning();
        shareByJumps();
        shareConsts();
        Check.finish();
    }

    private static LineKeeper code(String sentence, LineKeeper x, int r, String... due) {
        Check.due("Term 3: " + sentence, Check.items(x, r), List.of(due));
        return x;
    }

    private static void told(String sentence, int got, int due) {
        Check.due("Term 3: " + sentence, got, due);
    }

    /** Passes 0 to 4 tell 0 and leave all as it was; SHARE tells how many REGISTERS there are. */
    private static void leaves(String text, int r, String passes) {
        for (char one : passes.toCharArray()) {
            LineKeeper x = Check.keeper(text);
            List<String> items = Check.items(x, r);
            int registers = x.routine(r, 4);
            int kind = one - '0';
            told("pass " + kind + " has nothing to do on " + text, x.pass(kind, r), kind == 5 ? registers : 0);
            Check.due("Term 3: pass " + kind + " leaves " + text, Check.items(x, r), items);
            Check.due("Term 3: pass " + kind + " leaves the rest of " + text, List.of(x.routine(r, 4), x.routine(r, 5)),
                List.of(registers, 1));
        }
    }

    private static void nothingToDo() {
        leaves("f(){}", 0, "012345");
        leaves("f(a,b,c,d){}", 0, "012345");
        leaves("f(a){out a;}", 0, "012345");
        leaves("f(a){out a;out 1;if a{out 2;}return a;}", 0, "02345");
        leaves("f(a){while a{a=f(a);}}", 0, "012345");
        leaves("f(a){x=a+1;out x;}", 0, "1234");
        leaves("f(a,b){out a+b;out a*b;out b+a;}", 0, "01234");
        leaves("f(a){a=f(a);}", 0, "012345");
        // A LABEL to which no JUMP or ZERO goes stays; here all have theirs.
        leaves("f(a){if a{}else{}}", 0, "012345");
    }

    private static void nothingLeft() {
        String text = "g(p){q=p+1;return q;}f(a){x=1;while a{y=x*2;z=g(y);a=a-1;}out z;}";
        for (int kind = 1; kind < 6; kind++) {
            LineKeeper x = Check.keeper(text);
            int first = x.pass(kind, 1);
            List<String> items = Check.items(x, 1);
            told("pass " + kind + " a second time", x.pass(kind, 1), kind == 5 ? first : 0);
            Check.due("Term 3: pass " + kind + " a second time leaves all", Check.items(x, 1), items);
        }
    }

    private static void otherRoutines() {
        for (int kind = 0; kind < 6; kind++) {
            LineKeeper x = Check.keeper("f(a){x=1;y=x+2;z=x+2;z=g();while 1{out z*z;}}g(){x=1;y=x+2;while x{out 3*3;}}");
            List<String> items = Check.items(x, 1);
            x.pass(kind, 0);
            Check.due("Term 3: pass " + kind + " is of one routine's code", Check.items(x, 1), items);
        }
    }

    private static void foldLabels() {
        LineKeeper x = Check.keeper("f(a){x=1;if a{out x;}out x;x=2;out x;}");
        told("FOLD up to a LABEL", x.pass(0, 0), 2);
        code("FOLD: nothing of all at each LABEL", x, 0, "LINE 1 in 0", "COPY r1 1", "BIND 0.1 1", "LINE 2 in 0",
            "ZERO r0 L0", "LINE 3 in 0", "OUT 1", "LABEL L0", "LINE 4 in 0", "OUT r1", "LINE 5 in 0", "COPY r1 2",
            "BIND 0.1 2", "LINE 6 in 0", "OUT 2", "RETURN 0");
        x = Check.keeper("f(){out x;}");
        told("FOLD: nothing of all at the beginning", x.pass(0, 0), 0);
        x = Check.keeper("f(){x=3;return x;out x;}");
        told("FOLD goes on behind RETURN, ITEM by ITEM", x.pass(0, 0), 2);
    }

    private static void foldWrites() {
        LineKeeper x = Check.keeper("f(a,b){x=a;y=x;a=7;out x;out y;x=b;out x;out a;}");
        told("FOLD: what writes r", x.pass(0, 0), 3);
        code("FOLD: what is known as REG r is known no more", x, 0, "LINE 1 in 0", "COPY r2 r0", "BIND 0.2 r2",
            "LINE 2 in 0", "COPY r3 r0", "BIND 0.3 r3", "LINE 3 in 0", "COPY r0 7", "BIND 0.0 7", "LINE 4 in 0", "OUT r2",
            "LINE 5 in 0", "OUT r3", "LINE 6 in 0", "COPY r2 r1", "BIND 0.2 r2", "LINE 7 in 0", "OUT r1", "LINE 8 in 0",
            "OUT 7", "RETURN 0");
        x = Check.keeper("f(a){a=a;b=a;b=a;out b;a=5;a=a;out a;}");
        told("FOLD: behind COPY r a, a not REG r", x.pass(0, 0), 3);
        code("FOLD: COPY of itself", x, 0, "LINE 1 in 0", "COPY r0 r0", "BIND 0.0 r0", "LINE 2 in 0", "COPY r1 r0",
            "BIND 0.1 r1", "LINE 3 in 0", "COPY r1 r0", "BIND 0.1 r1", "LINE 4 in 0", "OUT r0", "LINE 5 in 0", "COPY r0 5",
            "BIND 0.0 5", "LINE 6 in 0", "COPY r0 5", "BIND 0.0 5", "LINE 7 in 0", "OUT 5", "RETURN 0");
        // a is known as b, then b as a: COPY b of a becomes COPY of b itself, and tells nothing of b.
        x = Check.keeper("f(a,b){a=b;b=a;out b;out a;}");
        told("FOLD: COPY that becomes one of itself", x.pass(0, 0), 1);
        code("FOLD: known neither way then", x, 0, "LINE 1 in 0", "COPY r0 r1", "BIND 0.0 r0", "LINE 2 in 0", "COPY r1 r1",
            "BIND 0.1 r1", "LINE 3 in 0", "OUT r1", "LINE 4 in 0", "OUT r0", "RETURN 0");
        x = Check.keeper("f(a){x=1;x=f(x);out x;}");
        told("FOLD: CALL writes r", x.pass(0, 0), 1);
        Check.due("Term 3: FOLD: known no more behind CALL", Check.item(x, 0, 7), "OUT r1");
    }

    private static void foldBinds() {
        LineKeeper x = Check.keeper("f(a){x=a+1;y=a;z=4;out 1;}");
        x.pass(0, 0);
        Check.due("Term 3: FOLD: BIND of REG that is known as CONST alone becomes it", List.of(Check.item(x, 0, 3),
            Check.item(x, 0, 6), Check.item(x, 0, 9)), List.of("BIND 0.1 r1", "BIND 0.2 r2", "BIND 0.3 4"));
        // z is told as REG of y, behind which FOLD has a CONST; x as a SUM of it.
        x = Check.keeper("f(a){y=a;x=y+1;z=y;out y;}");
        x.pass(1, 0);
        code("FOLD: ahead of it", x, 0, "LINE 1 in 0", "COPY r1 r0", "BIND 0.1 r1", "LINE 2 in 0", "BIND 0.2 PLUS r1 1",
            "LINE 3 in 0", "BIND 0.3 r1", "LINE 4 in 0", "OUT r1", "RETURN 0");
        told("FOLD: MARKS are not told", x.pass(0, 0), 1);
        code("FOLD: a SUM and a REG stay", x, 0, "LINE 1 in 0", "COPY r1 r0", "BIND 0.1 r1", "LINE 2 in 0",
            "BIND 0.2 PLUS r1 1", "LINE 3 in 0", "BIND 0.3 r1", "LINE 4 in 0", "OUT r0", "RETURN 0");
        x = Check.keeper("f(){y=8;x=y+1;z=y;out y;}");
        x.pass(1, 0);
        told("FOLD: known as CONST", x.pass(0, 0), 1);
        code("FOLD: a SUM stays, a REG becomes CONST", x, 0, "LINE 1 in 0", "COPY r0 8", "BIND 0.0 8", "LINE 2 in 0",
            "BIND 0.1 PLUS r0 1", "LINE 3 in 0", "BIND 0.2 8", "LINE 4 in 0", "OUT 8", "RETURN 0");
    }

    private static void foldJumps() {
        LineKeeper x = Check.keeper("f(){if 0{out 1;}if 1{out 2;}if -1{out 3;}}");
        told("FOLD: ZERO of 0, of 1; MINUS and ZERO of -1", x.pass(0, 0), 4);
        code("FOLD: becomes JUMP, goes out", x, 0, "LINE 1 in 0", "JUMP L0", "LINE 2 in 0", "OUT 1", "LABEL L0",
            "LINE 3 in 0", "LINE 4 in 0", "OUT 2", "LABEL L1", "LINE 5 in 0", "COPY r0 -1", "LINE 6 in 0", "OUT 3",
            "LABEL L2", "RETURN 0");
        Check.due("Promise 7: a JUMP that was a ZERO has no a", List.of(x.item(0, 1, 0), x.item(0, 1, 1), x.item(0, 1, 3),
            x.item(0, 1, 5)), List.of(8, 0, 0, 0));
        x = Check.keeper("f(a){if a{out 1;}}");
        told("FOLD: ZERO of REG stays", x.pass(0, 0), 0);
        x = Check.keeper("f(a){b=a;if b{out 1;}}");
        told("FOLD: ZERO of another REG", x.pass(0, 0), 1);
        Check.due("Term 3: FOLD: of that REG", Check.item(x, 0, 4), "ZERO r0 L0");
    }

    private static void foldCalls() {
        LineKeeper x = Check.keeper("g(a,b,c,d){out a;out b;out c;out d;}f(a){b=1;c=2;d=a;e=g(d,b,a,c);e=g(a,a,a,a);}");
        told("FOLD: a CALL is one ACT", x.pass(0, 1), 1);
        Check.due("Term 3: FOLD: its E", Check.item(x, 1, 10), "CALL r4 f0 r0 1");
        x.pass(1, 1);
        x.start(1, 9, 0, 0, 0);
        x.go(2, 100);
        Check.due("Term 3: FOLD: all four of its E", List.of(x.printed(0), x.printed(1), x.printed(2), x.printed(3)),
            List.of(9, 1, 9, 2));
        Check.due("Term 3: FOLD: DROP found b to d read by none", x.routine(1, 1), 3);
    }

    /** Each of the five, of two CONSTS and of one. */
    private static void foldFive() {
        String[] signs = {"+", "-", "*", "=", "<"};
        int[] give = {9, -5, 14, 0, 1};
        String[] acts = {"PLUS", "MINUS", "TIMES", "EQUAL", "LESS"};
        for (int i = 0; i < signs.length; i++) {
            LineKeeper x = Check.keeper("f(a){out 2" + signs[i] + "7;out 2" + signs[i] + "a;out a" + signs[i] + "2;}");
            told("FOLD: of two CONSTS, and the OUT behind it", x.pass(0, 0), 2);
            Check.due("Term 3: FOLD: of two CONSTS alone " + signs[i], List.of(Check.item(x, 0, 1), Check.item(x, 0, 2),
                Check.item(x, 0, 4), Check.item(x, 0, 7)), List.of("COPY r1 " + give[i], "OUT " + give[i],
                acts[i] + " r2 2 r0", acts[i] + " r3 r0 2"));
            Check.due("Promise 7: a COPY has no b", List.of(x.item(0, 1, 3), x.item(0, 1, 4), x.item(0, 1, 5),
                x.item(0, 1, 6), x.item(0, 1, 7)), List.of(1, 0, give[i], 0, 0));
        }
    }

    private static void foldKeepsKnowing() {
        LineKeeper x = Check.keeper("f(a,b){x=a;y=0;b=1;out x;out y;}");
        told("FOLD: what others write changes nothing", x.pass(0, 0), 2);
        Check.due("Term 3: FOLD: REG and CONST are still known", List.of(Check.item(x, 0, 10), Check.item(x, 0, 12)),
            List.of("OUT r0", "OUT 0"));
        x = Check.keeper("f(a){y=0;a=1;out y;}");
        x.pass(0, 0);
        Check.due("Term 3: FOLD: CONST 0 is not REG 0", Check.item(x, 0, 7), "OUT 0");
        x = Check.keeper("f(){x=5;if 1{}out x;}");
        told("FOLD: a LABEL right behind a ZERO that went out", x.pass(0, 0), 1);
        Check.due("Term 3: FOLD: nothing is known behind it", Check.item(x, 0, 6), "OUT r0");
        x = Check.keeper("f(){x=5;}g(){out x;}");
        x.pass(0, 0);
        told("FOLD: what another routine knew", x.pass(0, 1), 0);
    }

    private static void dropReach() {
        LineKeeper x = Check.keeper("f(a){if a{return 1;out 2;}else{return 3;}out 4;}");
        told("DROP of what can't be reached: JUMP, OUT 2, OUT 4, RETURN 0", x.pass(1, 0), 4);
        code("DROP: MARKS too", x, 0, "LINE 1 in 0", "ZERO r0 L0", "LINE 2 in 0", "RETURN 1", "LABEL L0", "LINE 4 in 0",
            "RETURN 3");
        x = Check.keeper("f(a){return 1;while a{a=1;}}");
        told("DROP: jumps that can't be reached reach nothing", x.pass(1, 0), 4);
        code("DROP: a LABEL that only they go to", x, 0, "LINE 1 in 0", "RETURN 1");
        x = Check.keeper("f(a){if 1{out a;}out a;}");
        x.pass(0, 0);
        told("DROP: a LABEL to which no jump goes", x.pass(1, 0), 0);
        code("DROP: it stays", x, 0, "LINE 1 in 0", "LINE 2 in 0", "OUT r0", "LABEL L0", "LINE 3 in 0", "OUT r0", "RETURN 0");
        x = Check.keeper("f(a){while 0{out a;}}");
        x.pass(0, 0);
        told("DROP behind a JUMP", x.pass(1, 0), 2);
        code("DROP: up to its LABEL", x, 0, "LABEL L0", "LINE 1 in 0", "JUMP L1", "LABEL L1", "RETURN 0");
        x = Check.keeper("f(a){if a{}out 1;}");
        told("DROP: ZERO stays, whatever stands behind it", x.pass(1, 0), 0);
    }

    private static void dropReads() {
        LineKeeper x = Check.keeper("f(a){x=a;if a{out x;}x=2;}");
        told("DROP: read on one way", x.pass(1, 0), 1);
        code("DROP: the last alone", x, 0, "LINE 1 in 0", "COPY r1 r0", "BIND 0.1 r1", "LINE 2 in 0", "ZERO r0 L0",
            "LINE 3 in 0", "OUT r1", "LABEL L0", "LINE 4 in 0", "BIND 0.1 2", "RETURN 0");
        x = Check.keeper("f(a){x=a;if a{x=1;}else{x=2;}out x;}");
        told("DROP: written on both ways ahead of being read", x.pass(1, 0), 1);
        x = Check.keeper("f(a){x=a;if a{x=1;}out x;}");
        told("DROP: written on one way alone", x.pass(1, 0), 0);
        x = Check.keeper("f(a){x=a;x=x+1;out x;}");
        told("DROP: read by what writes it", x.pass(1, 0), 0);
        x = Check.keeper("f(a){x=f(a);x=f(x);}");
        told("DROP: a CALL reads, and stays", x.pass(1, 0), 0);
        x = Check.keeper("g(a,b,c,d){}f(){a=1;b=2;c=3;d=4;e=g(a,b,c,d);}");
        told("DROP: a CALL reads all its E", x.pass(1, 1), 0);
        x = Check.keeper("f(a){x=a;return x;}");
        told("DROP: RETURN reads, the one behind it can't be reached", x.pass(1, 0), 1);
        x = Check.keeper("f(a){x=a;if x{}}");
        told("DROP: ZERO reads", x.pass(1, 0), 0);
    }

    private static void dropNear() {
        LineKeeper x = Check.keeper("f(a){x=7;y=a;z=a<3;}");
        told("DROP: COPY of CONST, of REG, one of the five", x.pass(1, 0), 4);
        code("DROP: what BIND becomes", x, 0, "LINE 1 in 0", "BIND 0.1 7", "LINE 2 in 0", "BIND 0.2 r0", "LINE 3 in 0",
            "BIND 0.3 LESS r0 3", "RETURN 0");
        // y = x stands behind LINE and BIND of x alone.
        x = Check.keeper("f(a){x=a*5;y=x;out a;}");
        x.pass(1, 0);
        Check.due("Term 3: DROP: LINE and BIND alone between", List.of(Check.item(x, 0, 1), Check.item(x, 0, 3)),
            List.of("BIND 0.1 TIMES r0 5", "BIND 0.2 TIMES r0 5"));
        x = Check.keeper("f(a){x=a*5;if a{y=x;}out a;}");
        x.pass(1, 0);
        Check.due("Term 3: DROP: an ACT between", Check.item(x, 0, 5), "BIND 0.2 GONE2");
        x = Check.keeper("f(a){while a{out 1;y=x;x=a*5;a=a-1;}}");
        x.pass(1, 0);
        Check.due("Term 3: DROP: ahead of it, by a ring", Check.item(x, 0, 6), "BIND 0.1 GONE2");
        // The BIND of y leans on x as a SUM: GONE 2, though LINE and BIND alone stand between.
        x = Check.keeper("f(a){x=a;y=x+1;out 2;}");
        x.pass(1, 0);
        code("DROP: a SUM is not of REG r", x, 0, "LINE 1 in 0", "BIND 0.1 r0", "LINE 2 in 0", "BIND 0.2 GONE2",
            "LINE 3 in 0", "OUT 2", "RETURN 0");
        Check.due("Promise 7: a BIND that is GONE has neither a nor b", List.of(x.item(0, 3, 3), x.item(0, 3, 4),
            x.item(0, 3, 5), x.item(0, 3, 6), x.item(0, 3, 7)), List.of(0, 0, 0, 0, 12));
        x = Check.keeper("f(a){a=a;out 1;b=a;}");
        told("DROP: COPY of itself, read by none", x.pass(1, 0), 2);
        code("DROP: BIND of it becomes REG, as a is", x, 0, "LINE 1 in 0", "BIND 0.0 r0", "LINE 2 in 0", "OUT 1",
            "LINE 3 in 0", "BIND 0.1 GONE2", "RETURN 0");
        x = Check.keeper("f(a){x=1;out x;x=2;x=a;y=x;out y;}");
        x.pass(1, 0);
        Check.due("Term 3: DROP: a BIND behind what writes r again stays", List.of(Check.item(x, 0, 6),
            Check.item(x, 0, 9)), List.of("BIND 0.1 2", "BIND 0.1 r1"));
    }

    private static void dropRings() {
        LineKeeper x = Check.keeper("f(a){while a{x=x+1;a=a-1;}}");
        told("DROP: what a ring reads for itself alone is read", x.pass(1, 0), 0);
        x = Check.keeper("f(a){while a{x=a;a=a-1;}}");
        told("DROP: written anew in each turn, read in none", x.pass(1, 0), 1);
        x = Check.keeper("f(a){while a{out x;x=a;a=a-1;}}");
        told("DROP: read in the next turn", x.pass(1, 0), 0);
    }

    private static void dropMoved() {
        LineKeeper x = Check.keeper("f(a,b){while a{x=b*b;a=a-1;}}");
        x.pass(2, 0);
        Check.due("Term 3: DROP: ahead of it", Check.item(x, 0, 0), "TIMES r3 r1 r1");
        told("DROP: ITEM 0, too", x.pass(1, 0), 2);
        code("DROP: its BIND stands far behind", x, 0, "LABEL L0", "LINE 1 in 0", "ZERO r0 L1", "LINE 2 in 0",
            "BIND 0.2 GONE2", "LINE 3 in 0", "MINUS r4 r0 1", "COPY r0 r4", "BIND 0.0 r0", "JUMP L0", "LABEL L1", "RETURN 0");
    }

    /** A sum of all twelve names, then of a CONST, up to the 120 ITEMS: 129 REGISTERS. */
    private static void manyRegisters() {
        String sum = "a+b+c+d+e+g+h+i+j+k+l+m" + "+1".repeat(106);
        LineKeeper x = Check.keeper("f(a,b,c,d){out " + sum + ";}");
        Check.due("Term 3: as many REGISTERS as can be", List.of(x.routine(0, 0), x.routine(0, 4)), List.of(120, 129));
        told("DROP: all are read", x.pass(1, 0), 0);
        told("MOVE: none within a LOOP", x.pass(2, 0), 0);
        Check.due("Term 3: SHARE: twelve live at the beginning", List.of(x.pass(5, 0), x.routine(0, 4)), List.of(12, 12));
        x.start(0, 1, 2, 3, 4);
        Check.due("Term 3: SHARE: the sum is the same", List.of(x.go(2, 200), x.printed(0)), List.of(0, 116));
        x = Check.keeper("f(a,b,c,d){m=" + "a+b+c+d+e+g+h+i+j+k+l+m" + "+1".repeat(105) + ";}");
        Check.due("Term 3: DROP: none is read", List.of(x.routine(0, 0), x.pass(1, 0), x.routine(0, 0)),
            List.of(120, 117, 3));
        code("DROP: the last act of it is told", x, 0, "LINE 1 in 0", "BIND 0.4 GONE2", "RETURN 0");
        // LABEL, LINE, ZERO, LINE, 112 sums, OUT, JUMP, LABEL, RETURN.
        x = Check.keeper("f(a){while a{out 1" + "+1".repeat(112) + ";}}");
        Check.due("Term 3: MOVE: all sums of a ring", List.of(x.routine(0, 0), x.pass(2, 0), x.item(0, 112, 0)),
            List.of(120, 112, 13));
    }

    private static void moveRings() {
        LineKeeper x = Check.keeper("f(a,b){if a{out b*b;}else{out b+b;}}");
        told("MOVE: no JUMP goes back, no LOOP", x.pass(2, 0), 0);
        x = Check.keeper("f(a,b){while a{}out b*b;}");
        told("MOVE: behind the last JUMP is not within", x.pass(2, 0), 0);
        x = Check.keeper("f(a,b){while a<b{}}");
        told("MOVE: of the E of while", x.pass(2, 0), 1);
        code("MOVE: right ahead of the LABEL", x, 0, "LESS r2 r0 r1", "LABEL L0", "LINE 1 in 0", "ZERO r2 L1", "JUMP L0",
            "LABEL L1", "RETURN 0");
        x = Check.keeper("f(a){while 1{out 1;return a*a;}}");
        told("MOVE: what stands behind RETURN within", x.pass(2, 0), 1);
        x = Check.keeper("f(a){while 1{out a*a;}}");
        x.pass(0, 0);
        x.pass(1, 0);
        Check.due("Term 3: MOVE: the JUMP is the last ITEM", List.of(x.item(0, x.routine(0, 0) - 1, 0), x.pass(2, 0)),
            List.of(8, 1));
    }

    private static void moveConditions() {
        LineKeeper x = Check.keeper("f(a,b){while a{x=b;y=b*b;a=f(a,y);}}");
        told("MOVE: a REGISTER that is no name's", x.pass(2, 0), 1);
        Check.due("Term 3: MOVE: COPY to a name stays within", List.of(Check.item(x, 0, 0), Check.item(x, 0, 5)),
            List.of("TIMES r4 r1 r1", "COPY r2 r1"));
        x = Check.keeper("f(a,b){while a{out a*b;a=a-1;}}");
        told("MOVE: a REG that is written within", x.pass(2, 0), 0);
        x = Check.keeper("f(a,b){while a{out b*a;a=a-1;}}");
        told("MOVE: b of it is written within", x.pass(2, 0), 0);
        x = Check.keeper("f(a,b){while a{out b*3;b=f(1,2);}}");
        told("MOVE: written by a CALL within", x.pass(2, 0), 0);
        x = Check.keeper("f(a,b){while a{out b*3;a=a-1;}b=5;}");
        told("MOVE: written behind the LOOP alone", x.pass(2, 0), 1);
        x = Check.keeper("f(a,b){out b*b;while a{out b*b;out b*b+1;a=a-1;}}");
        x.pass(5, 0);
        // SHARE gave all results one number: others write it.
        told("MOVE: a REGISTER that another ITEM writes", x.pass(2, 0), 0);
        x = Check.keeper("f(a){while a{out 2;a=f(3*4);}}");
        told("MOVE: no REG at all", x.pass(2, 0), 1);
    }

    private static void moveInner() {
        LineKeeper x = Check.keeper("f(a,b){while a{while b{out 7*8;b=b-1;}a=a-1;}}");
        told("MOVE: out of the inner, then out of the outer", x.pass(2, 0), 2);
        code("MOVE: from the last LABEL to the first", x, 0, "TIMES r2 7 8", "LABEL L0", "LINE 1 in 0", "ZERO r0 L1",
            "LABEL L2", "LINE 2 in 0", "ZERO r1 L3", "LINE 3 in 0", "OUT r2", "LINE 4 in 0", "MINUS r3 r1 1", "COPY r1 r3",
            "BIND 0.1 r1", "JUMP L2", "LABEL L3", "LINE 5 in 0", "MINUS r4 r0 1", "COPY r0 r4", "BIND 0.0 r0", "JUMP L0",
            "LABEL L1", "RETURN 0");
        x = Check.keeper("f(a,b){while a{out (b+1)*(b+2)-b*b;a=a-1;}}");
        told("MOVE: again and again, what reads those that went", x.pass(2, 0), 5);
        Check.due("Term 3: MOVE: the first first", Check.items(x, 0).subList(0, 6), List.of("PLUS r2 r1 1", "PLUS r3 r1 2",
            "TIMES r4 r2 r3", "TIMES r5 r1 r1", "MINUS r6 r4 r5", "LABEL L0"));
    }

    private static void alikeConditions() {
        String[][] cases = {
            {"f(a,b){out a+b;out a+b;}", "1", "alike"},
            {"f(a,b){out a+b;out b+a;}", "0", "the other way round"},
            {"f(a,b){out a+b;out a-b;}", "0", "another act"},
            {"f(a){out a+1;out a+2;}", "0", "another CONST"},
            {"f(a,b){out a+0;out a+a;}", "0", "a CONST 0 and a REG 0"},
            {"f(a,b){out 1+2;out 1+2;}", "1", "CONSTS alone"},
            {"f(a,b){out a+b;if a{out a+b;}}", "1", "a ZERO between"},
            {"f(a,b){out a+b;if a{}out a+b;}", "0", "a LABEL between"},
            {"f(a,b){while a{out a*b;}out a*b;}", "0", "a LABEL between, that of the ring"},
            {"f(a,b){return a+b;out a+b;}", "1", "a RETURN between"},
            {"f(a,b){out a+b;a=1;out a+b;}", "0", "a written since"},
            {"f(a,b){out a+b;b=1;out a+b;}", "0", "b written since"},
            {"f(a,b){out a+b;b=b;out a+b;}", "0", "b written since, with itself"},
            {"f(a,b){out a+b;b=f(1,2);out a+b;}", "0", "b written since by a CALL"},
            {"f(a,b){out a+b;c=f(1,2);out a+b;}", "1", "another one written by a CALL"},
            {"f(a,b){c=a;d=a;}", "0", "COPY is none of the five"},
            {"f(a,b){out a+b+1;out a+b+1;}", "1", "what reads another REGISTER is not as it"},
        };
        for (String[] one : cases) {
            told("ALIKE: " + one[2], Check.keeper(one[0]).pass(3, 0), Integer.parseInt(one[1]));
        }
        LineKeeper x = Check.keeper("f(a,b){out a+b;a=1;out a+b;out a+b;}");
        told("ALIKE: as the later one", x.pass(3, 0), 1);
        Check.due("Term 3: ALIKE: COPY of the r of the later one", Check.item(x, 0, 10), "COPY r4 r3");
        x = Check.keeper("f(a,b){out (a<b)*(a<b);}");
        told("ALIKE: right behind one another", x.pass(3, 0), 1);
        Check.due("Term 3: ALIKE: COPY of it", Check.item(x, 0, 2), "COPY r3 r2");
        x = Check.keeper("f(a){out 3-4;out 3-4;}");
        x.pass(3, 0);
        Check.due("Term 3: ALIKE: COPY of REG, though both were CONSTS", Check.item(x, 0, 4), "COPY r2 r1");
        Check.due("Promise 7: it has no b then", List.of(x.item(0, 4, 4), x.item(0, 4, 6)), List.of(0, 0));
        x = Check.keeper("f(a,b){while a{out b*b;out b*b;}}");
        Check.due("Term 3: ALIKE: as ITEM 0", List.of(x.pass(2, 0), x.pass(3, 0), Check.item(x, 0, 0), Check.item(x, 0, 1)),
            List.of(2, 1, "TIMES r2 r1 r1", "COPY r3 r2"));
        x = Check.keeper("f(a,b){out a+b+1;out a+b+1;}");
        x.pass(3, 0);
        x.pass(0, 0);
        told("ALIKE: again behind FOLD", x.pass(3, 0), 1);
    }

    private static void alikeItself() {
        LineKeeper x = Check.keeper("f(a){a=a+1;a=a+1;out a;}");
        x.pass(5, 0);
        code("ALIKE: ahead of it", x, 0, "LINE 1 in 0", "PLUS r0 r0 1", "COPY r0 r0", "BIND 0.0 r0", "LINE 2 in 0",
            "PLUS r0 r0 1", "COPY r0 r0", "BIND 0.0 r0", "LINE 3 in 0", "OUT r0", "RETURN 0");
        told("ALIKE: what it reads was written by itself", x.pass(3, 0), 0);
        // That one's r was written since, though what it reads was not.
        x = Check.keeper("f(a,b){c=a+b;out c;c=a-b;out c;c=a+b;out c;}");
        x.pass(5, 0);
        told("ALIKE: its r was written since", x.pass(3, 0), 0);
    }

    /** A routine g whose code has so many ACTS: OUT and at the end RETURN 0. */
    private static String acts(int n) {
        return "g(){" + "out 1;".repeat(n - 1) + "}";
    }

    private static void meltActs() {
        LineKeeper x = Check.keeper(acts(20) + "f(){x=g();}");
        Check.due("Term 3: MELT of at most 20 ACTS", List.of(x.routine(0, 1), x.pass(4, 1), x.routine(1, 5)),
            List.of(20, 1, 2));
        x = Check.keeper(acts(21) + "f(){x=g();}");
        List<String> items = Check.items(x, 1);
        Check.due("Term 3: MELT not of 21 ACTS", List.of(x.routine(0, 1), x.pass(4, 1), x.routine(1, 5)), List.of(21, 0, 1));
        Check.due("Term 3: MELT leaves it", Check.items(x, 1), items);
        // MARKS are no ACTS.
        x = Check.keeper("g(){" + "if 1{}".repeat(19) + "}f(){x=g();}");
        Check.due("Term 3: MELT of 20 ACTS and 38 MARKS", List.of(x.routine(0, 0), x.pass(4, 1)), List.of(58, 1));
        // A torn g has fewer.
        x = Check.keeper("g(){" + "x=1;".repeat(19) + "out x;out 2;}f(){x=g();}");
        Check.due("Term 3: MELT as the code is then", List.of(x.routine(0, 1), x.pass(4, 1), x.pass(1, 0), x.routine(0, 1),
            x.pass(4, 1)), List.of(22, 0, 18, 4, 1));
    }

    private static void meltItems() {
        // g of 37 ITEMS: with ENTER, LABEL, LEAVE and two of RETURN 41 in place of CALL.
        String g = acts(19);
        LineKeeper x = Check.keeper(g + "f(){" + "x=g();".repeat(4) + "out 1-2+3;".repeat(6) + "out -1;}");
        Check.due("Term 3: MELT up to 200 ITEMS", List.of(x.routine(1, 0), x.pass(4, 1), x.routine(1, 0)),
            List.of(40, 4, 200));
        x = Check.keeper(g + "f(){" + "x=g();".repeat(4) + "out 1-2+3;".repeat(6) + "out -1+2;}");
        Check.due("Term 3: MELT not 201 ITEMS", List.of(x.routine(1, 0), x.pass(4, 1), x.routine(1, 0)),
            List.of(41, 3, 161));
        Check.due("Term 3: MELT: the CALL that was left", List.of(x.routine(1, 5), x.pass(4, 1)), List.of(4, 0));
        // The first of h does not go, the later one of the small i does.
        x = Check.keeper(g + "i(){}f(){" + "x=g();".repeat(5) + "x=i();x=g();x=i();}");
        Check.due("Term 3: MELT goes on behind a CALL that it leaves",
            List.of(x.routine(2, 0), x.pass(4, 2), x.routine(2, 0), x.routine(2, 5)), List.of(25, 6, 193, 7));
    }

    /** COPIES of 0 to what lives at the beginning are ITEMS, too. */
    private static void meltItemsOfNoughts() {
        String g = "g(){" + "out 1;".repeat(12) + "out a+b+c+d+e+h+i;}";
        LineKeeper x = Check.keeper(g + "f(){" + "x=g();".repeat(3) + "out 1" + "+1".repeat(19) + ";}");
        Check.due("Term 3: MELT: g", List.of(x.routine(0, 0), x.routine(0, 1)), List.of(33, 20));
        // 33 ITEMS, 7 BINDs, 7 COPIES of 0, ENTER, LABEL, LEAVE and JUMP of RETURN: 51 in place of CALL.
        Check.due("Term 3: MELT: each of them", List.of(x.routine(1, 0), x.pass(4, 1), x.routine(1, 0)),
            List.of(31, 3, 181));
        x = Check.keeper(g + "f(){" + "x=g();".repeat(3) + "out 1" + "+1".repeat(38) + ";}");
        Check.due("Term 3: MELT up to 200 ITEMS, with COPIES of 0", List.of(x.routine(1, 0), x.pass(4, 1), x.routine(1, 0)),
            List.of(50, 3, 200));
        x = Check.keeper(g + "f(){" + "x=g();".repeat(3) + "out 1" + "+1".repeat(39) + ";}");
        Check.due("Term 3: MELT not 201, with COPIES of 0", List.of(x.routine(1, 0), x.pass(4, 1), x.routine(1, 0)),
            List.of(51, 2, 151));
    }

    private static void meltRegisters() {
        // g has a name and 17 sums: 18 REGISTERS.
        String g = "g(a){a=a" + "+a".repeat(17) + ";}";
        LineKeeper x = Check.keeper(g + "f(p,q,r,s){t=u;v=w;z=1;" + "x=g(1);".repeat(5) + "}");
        Check.due("Term 3: MELT up to 100 REGISTERS", List.of(x.routine(1, 4), x.pass(4, 1), x.routine(1, 4)),
            List.of(10, 5, 100));
        x = Check.keeper(g + "f(p,q,r,s){t=u;v=w;z=y;" + "x=g(1);".repeat(5) + "}");
        Check.due("Term 3: MELT not 101 REGISTERS", List.of(x.routine(1, 4), x.pass(4, 1), x.routine(1, 4)),
            List.of(11, 4, 83));
        x = Check.keeper("g(){}f(){out 1" + "+1".repeat(100) + ";x=g();}");
        Check.due("Term 3: MELT: there are more than 100 already", List.of(x.routine(1, 4), x.pass(4, 1)), List.of(101, 0));
        x = Check.keeper("g(){}f(){out 1" + "+1".repeat(99) + ";x=g();}");
        Check.due("Term 3: MELT: there are 100, none comes", List.of(x.routine(1, 4), x.pass(4, 1), x.routine(1, 4)),
            List.of(100, 1, 100));
        x = Check.keeper("g(){x=1;}f(){out 1" + "+1".repeat(99) + ";x=g();}");
        Check.due("Term 3: MELT: there are 100, one would come", x.pass(4, 1), 0);
    }

    private static void meltFrames() {
        LineKeeper x = Check.keeper("g(){}f(){" + "x=g();".repeat(11) + "}");
        Check.due("Term 3: MELT up to 12 FRAMES", List.of(x.pass(4, 1), x.routine(1, 5)), List.of(11, 12));
        x = Check.keeper("g(){}f(){" + "x=g();".repeat(12) + "}");
        Check.due("Term 3: MELT not 13 FRAMES", List.of(x.pass(4, 1), x.routine(1, 5)), List.of(11, 12));
        Check.due("Promise 8: of the last FRAME", List.of(x.frame(1, 11, 0), x.frame(1, 11, 1), x.frame(1, 11, 2)),
            List.of(0, 0, 11));
        Check.due("Promise 8: no 13th", x.frame(1, 12, 0), -1);
        // h has three FRAMES of its own when it is melted in.
        x = Check.keeper("g(){}h(){x=g();x=g();}f(){" + "x=h();".repeat(4) + "x=g();x=g();x=g();}");
        x.pass(4, 1);
        Check.due("Term 3: MELT: FRAMES of what is melted in count", List.of(x.pass(4, 2), x.routine(2, 5)), List.of(5, 12));
        Check.due("Term 3: MELT: h three times, then g twice", List.of(x.frame(2, 7, 0), x.frame(2, 8, 0), x.frame(2, 8, 1),
            x.frame(2, 9, 1), x.frame(2, 10, 0), x.frame(2, 11, 0), x.frame(2, 11, 2)), List.of(1, 0, 7, 7, 0, 0, 8));
    }

    private static void meltWhich() {
        LineKeeper x = Check.keeper("f(){x=f();}");
        told("MELT of another routine, not of itself", x.pass(4, 0), 0);
        x = Check.keeper("f(){x=g();}g(){x=h();}h(){}");
        told("MELT of a code that has no CALL", x.pass(4, 0), 0);
        told("MELT: one that has none", x.pass(4, 1), 1);
        told("MELT: none then", x.pass(4, 0), 1);
        x = Check.keeper("f(a){return 1;x=g();}g(){}");
        told("MELT: also where it can't be reached", x.pass(4, 0), 1);
        x = Check.keeper("f(){x=g();}g(){return 1;x=g();}");
        told("MELT: a CALL that can't be reached is one", x.pass(4, 0), 0);
        x.pass(1, 1);
        told("MELT: it went out", x.pass(4, 0), 1);
    }

    private static void meltNumbers() {
        LineKeeper x = Check.keeper("g(n){if n{return n;}}f(a){if 1{}x=g(a);if a{y=g(2);}}");
        x.pass(0, 1);
        x.pass(1, 1);
        told("MELT numbers on", x.pass(4, 1), 2);
        code("MELT: behind the greatest LABEL that stands in an ITEM", x, 1, "LINE 3 in 0", "LABEL L0", "LINE 4 in 0",
            "ENTER 1", "COPY r3 r0", "BIND 1.0 r3", "LINE 1 in 1", "ZERO r3 L2", "LINE 2 in 1", "COPY r1 r3", "JUMP L3",
            "LABEL L2", "COPY r1 0", "JUMP L3", "LABEL L3", "LEAVE 1", "BIND 0.1 r1", "LINE 5 in 0", "ZERO r0 L1",
            "LINE 6 in 0", "ENTER 2", "COPY r4 2", "BIND 2.0 r4", "LINE 1 in 2", "ZERO r4 L4", "LINE 2 in 2", "COPY r2 r4",
            "JUMP L5", "LABEL L4", "COPY r2 0", "JUMP L5", "LABEL L5", "LEAVE 2", "BIND 0.2 r2", "LABEL L1", "RETURN 0");
        x = Check.keeper("g(){}f(){x=g();}");
        told("MELT: no LABEL in either", x.pass(4, 1), 1);
        code("MELT: the first LABEL is 0", x, 1, "LINE 1 in 0", "ENTER 1", "COPY r0 0", "JUMP L0", "LABEL L0", "LEAVE 1",
            "BIND 0.0 r0", "RETURN 0");
    }

    private static void meltNoughts() {
        LineKeeper x = Check.keeper("g(p,q){out s;out r;r=1;s=q;t=2;out t;}f(){x=g(1,2);}");
        told("MELT: what LIVES at the beginning", x.pass(4, 1), 1);
        Check.due("Term 3: MELT: parameters, other names, COPY of 0 by number", Check.items(x, 1).subList(1, 13),
            List.of("ENTER 1", "COPY r1 1", "BIND 1.0 r1", "COPY r2 2", "BIND 1.1 r2", "BIND 1.2 0", "BIND 1.3 0",
                "BIND 1.4 0", "COPY r3 0", "COPY r4 0", "LINE 1 in 1", "OUT r3"));
        x = Check.keeper("g(p){if p{s=1;}out s;}f(){x=g(1);}");
        x.pass(4, 1);
        Check.due("Term 3: MELT: it lives by one way", Check.item(x, 1, 5), "COPY r2 0");
        x = Check.keeper("g(p){while p{out s*2;p=p-1;}}f(){x=g(1);}");
        x.pass(2, 0);
        x.pass(4, 1);
        Check.due("Term 3: MELT: it is read by ITEM 0", List.of(Check.item(x, 0, 0), Check.item(x, 1, 5),
            Check.item(x, 1, 6)), List.of("TIMES r2 r1 2", "COPY r2 0", "TIMES r3 r2 2"));
        x = Check.keeper("g(p){s=1;out s;out p;}f(){x=g(1);}");
        x.pass(4, 1);
        Check.due("Term 3: MELT: none lives but a parameter", Check.item(x, 1, 5), "LINE 1 in 1");
    }

    private static void meltOperands() {
        LineKeeper x = Check.keeper("g(p,q,r,s){out p-s;return q<3;}f(a,b){x=g(a,1,b,2);}");
        x.pass(4, 1);
        code("MELT: COPY of each E, a and b of each ACT", x, 1, "LINE 3 in 0", "ENTER 1", "COPY r3 r0", "BIND 1.0 r3",
            "COPY r4 1", "BIND 1.1 r4", "COPY r5 r1", "BIND 1.2 r5", "COPY r6 2", "BIND 1.3 r6", "LINE 1 in 1",
            "MINUS r7 r3 r6", "OUT r7", "LINE 2 in 1", "LESS r8 r4 3", "COPY r2 r8", "JUMP L0", "COPY r2 0", "JUMP L0",
            "LABEL L0", "LEAVE 1", "BIND 0.2 r2", "RETURN 0");
        for (int k = 0; k < x.routine(1, 0); k++) {
            int kind = x.item(1, k, 0);
            Check.due("Promise 7: LINE and BIND alone have a FRAME, ITEM " + k, x.item(1, k, 2),
                (kind == 11 || kind == 12) && k > 0 && k < 21 ? 1 : 0);
            Check.due("Promise 7: BIND alone has a WHERE, ITEM " + k, x.item(1, k, 7) > 0, kind == 12);
        }
    }

    private static void meltWithoutReturn() {
        LineKeeper x = Check.keeper("g(){while 1{}}f(){x=g();out x;}");
        x.pass(0, 0);
        x.pass(1, 0);
        told("MELT of a code without RETURN", x.pass(4, 1), 1);
        code("MELT: its LABEL and LEAVE stand all the same", x, 1, "LINE 2 in 0", "ENTER 1", "LABEL L0", "LINE 1 in 1",
            "JUMP L0", "LABEL L1", "LEAVE 1", "BIND 0.0 r0", "LINE 3 in 0", "OUT r0", "RETURN 0");
        x.start(1, 0, 0, 0, 0);
        Check.due("Term 4: a ring in a FRAME", List.of(x.go(2, 20000), x.run(4), x.stack(0, 0), x.stack(1, 1)),
            List.of(2, 2, 0, 2));
    }

    private static void shareNumbers() {
        told("SHARE: no REGISTER", Check.keeper("f(){}").pass(5, 0), 0);
        told("SHARE: one result", Check.keeper("f(){out 1+2;}").pass(5, 0), 1);
        told("SHARE: both are parameters", Check.keeper("f(a,b){}").pass(5, 0), 2);
        told("SHARE: both live at the beginning", Check.keeper("f(){out a;out b;}").pass(5, 0), 2);
        told("SHARE: a parameter, the other one lives there", Check.keeper("f(a){out b;}").pass(5, 0), 2);
        told("SHARE: a parameter, the other one lives not there", Check.keeper("f(a){b=1;out b;}").pass(5, 0), 1);
        told("SHARE: it lives behind what writes the other", Check.keeper("f(a){b=1;out b;out a;}").pass(5, 0), 2);
        told("SHARE: what is written has the lesser number", Check.keeper("f(a){out a;b=3;a=4;out b;out a;}").pass(5, 0), 2);
        told("SHARE: it lives no more behind what reads it", Check.keeper("f(a){b=a;out b;}").pass(5, 0), 1);
        told("SHARE: what is written and lives nowhere", Check.keeper("f(a){b=1;out a;}").pass(5, 0), 2);
        LineKeeper x = Check.keeper("f(a,b,c,d){out a;x=b;out c+d+x;y=1;out y;}");
        told("SHARE: the least number that is free", x.pass(5, 0), 4);
        Check.due("Term 3: SHARE: names' REGISTERS go along", List.of(x.routine(0, 7), x.routine(0, 8), x.routine(0, 9),
            x.routine(0, 10), x.routine(0, 11), x.routine(0, 12)), List.of(0, 1, 2, 3, 0, 0));
        x.start(0, 1, 2, 3, 4);
        x.go(2, 99);
        Check.due("Term 3: SHARE: it prints the same", List.of(x.printed(0), x.printed(1), x.printed(2)), List.of(1, 9, 1));
    }

    private static void shareBinds() {
        // x is told as REG of a when a's number has b's value.
        LineKeeper x = Check.keeper("f(a){b=a;out b;c=b;out 1;}");
        x.pass(1, 0);
        code("SHARE: ahead of it", x, 0, "LINE 1 in 0", "COPY r1 r0", "BIND 0.1 r1", "LINE 2 in 0", "OUT r1", "LINE 3 in 0",
            "BIND 0.2 r1", "LINE 4 in 0", "OUT 1", "RETURN 0");
        told("SHARE: a and b", x.pass(5, 0), 1);
        code("SHARE: what was written last to it was r", x, 0, "LINE 1 in 0", "COPY r0 r0", "BIND 0.1 r0", "LINE 2 in 0",
            "OUT r0", "LINE 3 in 0", "BIND 0.2 r0", "LINE 4 in 0", "OUT 1", "RETURN 0");
        x = Check.keeper("f(a){b=2;out b;c=a;out 1;}");
        x.pass(1, 0);
        Check.due("Term 3: SHARE: c is told as a", Check.item(x, 0, 6), "BIND 0.2 r0");
        x.pass(5, 0);
        Check.due("Term 3: SHARE: what was written last is another one", Check.item(x, 0, 6), "BIND 0.2 GONE3");
        x = Check.keeper("f(a,d){if d{b=2;out b;}c=a;out 1;}");
        x.pass(1, 0);
        Check.due("Term 3: SHARE: c is told as a, again", Check.item(x, 0, 9), "BIND 0.3 r0");
        x.pass(5, 0);
        Check.due("Term 3: SHARE: not on every way", Check.item(x, 0, 9), "BIND 0.3 GONE3");
        x = Check.keeper("f(a,d){if d{b=2;out b;}else{c=a;}out 1;}");
        x.pass(1, 0);
        x.pass(5, 0);
        Check.due("Term 3: SHARE: on every way to it", Check.item(x, 0, 10), "BIND 0.3 r0");
        x = Check.keeper("f(a,d){b=2;out b;c=a+d;out d;}");
        x.pass(1, 0);
        x.pass(5, 0);
        Check.due("Term 3: SHARE: a SUM of which one is lost", Check.item(x, 0, 6), "BIND 0.3 GONE3");
    }

    private static void shareAtTheBeginning() {
        // c is told as REG of e, which lives not at the beginning, and to which nothing is written.
        LineKeeper x = Check.keeper("f(a){c=e;out a;e=1;out e;}");
        x.pass(1, 0);
        Check.due("Term 3: SHARE: c as e", Check.item(x, 0, 1), "BIND 0.1 r2");
        x.pass(5, 0);
        Check.due("Term 3: SHARE: nothing was written to it, nor does it live at the beginning", Check.item(x, 0, 1),
            "BIND 0.1 GONE3");
        x = Check.keeper("f(a){c=e;out a;out e;}");
        x.pass(1, 0);
        x.pass(5, 0);
        Check.due("Term 3: SHARE: it lives at the beginning", List.of(Check.item(x, 0, 1), x.routine(0, 9)),
            List.of("BIND 0.1 r1", 1));
        x = Check.keeper("f(a){c=a;out 1;}");
        x.pass(1, 0);
        x.pass(5, 0);
        Check.due("Term 3: SHARE: a parameter, though it lives nowhere", Check.item(x, 0, 1), "BIND 0.1 r0");
    }

    private static void shareByJumps() {
        LineKeeper x = Check.keeper("f(a,d){if d{out d;}else{b=2;out b;}c=a;out 1;}");
        x.pass(1, 0);
        Check.due("Term 3: SHARE: c as a, behind else", Check.item(x, 0, 13), "BIND 0.3 r0");
        x.pass(5, 0);
        Check.due("Term 3: SHARE: lost by the way of else", Check.item(x, 0, 13), "BIND 0.3 GONE3");
        Check.due("Promise 7: it has neither a nor b then", List.of(x.item(0, 13, 3), x.item(0, 13, 5), x.item(0, 13, 7)),
            List.of(0, 0, 13));
        x = Check.keeper("f(a,d){if d{b=2;out b;}else{out d;}c=a;out 1;}");
        x.pass(1, 0);
        x.pass(5, 0);
        Check.due("Term 3: SHARE: lost by the way of a JUMP", Check.item(x, 0, 13), "BIND 0.3 GONE3");
        x = Check.keeper("f(a,d){while d{c=a;out 1;b=2;out b;d=d-1;}}");
        x.pass(1, 0);
        Check.due("Term 3: SHARE: c as a, in a ring", Check.item(x, 0, 4), "BIND 0.2 r0");
        x.pass(5, 0);
        Check.due("Term 3: SHARE: lost by the way back", Check.item(x, 0, 4), "BIND 0.2 GONE3");
        // What the inner ring writes comes to the inner LABEL, from there to the outer one, and so to the BIND ahead of it.
        x = Check.keeper("f(a,d,e){while d{c=a;out 1;while e{b=2;out b;e=f(0,0,0);}d=f(0,0,0);}}");
        x.pass(1, 0);
        Check.due("Term 3: SHARE: c as a, ahead of a ring in a ring", Check.item(x, 0, 4), "BIND 0.3 r0");
        x.pass(5, 0);
        Check.due("Term 3: SHARE: lost by the way back of the inner, then of the outer", List.of(Check.item(x, 0, 4),
            x.routine(0, 7), x.routine(0, 11)), List.of("BIND 0.3 GONE3", 0, 0));
        x = Check.keeper("f(a,b){while a{out b*b;a=a-1;}}");
        x.pass(2, 0);
        told("SHARE: ITEM 0 writes, too", x.pass(5, 0), 2);
        Check.due("Term 3: SHARE: by its new number", Check.item(x, 0, 0), "TIMES r1 r1 r1");
    }

    private static void shareConsts() {
        LineKeeper x = Check.keeper("f(a,b){x=1;out x;y=3;out y;z=a*3;out b;}");
        x.pass(0, 0);
        x.pass(1, 0);
        x.pass(5, 0);
        Check.due("Term 3: SHARE: a CONST is no REGISTER", List.of(Check.item(x, 0, 1), Check.item(x, 0, 5)),
            List.of("BIND 0.2 1", "BIND 0.3 3"));
        Check.due("Term 3: SHARE: nor is that of a SUM", Check.item(x, 0, 9), "BIND 0.4 TIMES r0 3");
    }
}
