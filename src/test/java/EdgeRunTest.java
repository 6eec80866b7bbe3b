import java.util.ArrayList;
import java.util.List;

/** Term 4 and promises 11 to 19, edge by edge: calls in one another, stops, the STACK, names, prints, beside. */
public final class EdgeRunTest {
    private static final int MAX = Integer.MAX_VALUE;
    private static final int MIN = Integer.MIN_VALUE;
    /** Each call of f is within another; out tells how deep it is. */
    private static final String DEEP = "f(a){out a;if a{b=f(a-1);}return a;}";

    public static void main(String[] args) {
        eightCalls();
        eightCallsAndEnters();
        failsAheadOfIt();
        callsOneAfterAnother();
        registersOfTheirOwn();
        startsAnew();
        startsAnewWithin();
        parameters();
        goArguments();
        goCounts();
        goUpToALine();
        goNoDeeper();
        goBehindTheEnd();
        goWhenOver();
        goWhenFailed();
        stackArguments();
        stackLines();
        stackOfFrames();
        stackWhenOver();
        knownArguments();
        knownBehindCalls();
        knownWhys();
        valuesNotTold();
        namesBeyondAFrame();
        runArguments();
        printedEdges();
        besideArguments();
        besideCounts();
        besideStays();
        besideUnlike();
        comparedEdges();
        Check.finish();
    }

    private static void due(String sentence, Object got, Object want) {
        Check.due(sentence, got, want);
    }

    private static List<Integer> prints(LineKeeper x) {
        List<Integer> list = new ArrayList<>();
        for (int i = 0; i < x.run(1); i++) {
            list.add(x.printed(i));
        }
        return list;
    }

    private static List<Integer> run(LineKeeper x) {
        List<Integer> list = new ArrayList<>();
        for (int what = 0; what < 6; what++) {
            list.add(x.run(what));
        }
        return list;
    }

    private static void eightCalls() {
        LineKeeper x = Check.keeper(DEEP);
        x.start(0, 8, 0, 0, 0);
        due("Term 4: 8 calls by CALL in one another", List.of(x.go(2, 20000), x.run(5), x.run(3)), List.of(0, 0, 8));
        due("Term 4: all nine of them print", prints(x), List.of(8, 7, 6, 5, 4, 3, 2, 1, 0));
        x.start(0, 9, 0, 0, 0);
        due("Term 4: a further one FAILS the run", List.of(x.go(2, 20000), x.run(5), x.run(3)), List.of(3, 1, 0));
        due("Term 4: it was not begun", prints(x), List.of(9, 8, 7, 6, 5, 4, 3, 2, 1));
        due("Term 4: the STACK of nine frames", List.of(x.run(4), x.stack(8, 0), x.stack(9, 0)), List.of(9, 0, -1));
    }

    private static void eightCallsAndEnters() {
        // h in g, g in e, both melted in: three ENTERs behind the CALLs of f.
        String text = "h(){out 5;}g(){x=h();}e(){x=g();}f(a){if a{b=f(a-1);}else{b=e();}}";
        for (int melted = 0; melted < 2; melted++) {
            LineKeeper x = Check.keeper(text);
            for (int r = 1; r < 4 && melted == 1; r++) {
                due("Term 4: melted in", x.pass(4, r), 1);
            }
            x.start(3, 5, 0, 0, 0);
            due("Term 4: 5 CALLs and 3 in them are 8", List.of(x.go(2, 20000), prints(x)), List.of(0, List.of(5)));
            x.start(3, 6, 0, 0, 0);
            due("Term 4: 6 and 3 are 9", List.of(x.go(2, 20000), x.run(1), x.run(4), x.run(5)), List.of(3, 0, 9, 1));
            due("Term 4: it stands ahead of it", x.item(melted == 1 ? 3 : 1, x.run(0), 0), melted == 1 ? 14 : 10);
            due("Term 4: the innermost is g", List.of(x.stack(0, 0), x.stack(1, 0), x.stack(2, 0)), List.of(1, 2, 3));
            due("Term 4: beside FAILS, too", List.of(x.beside(3, 6, 0, 0, 0, 20000), x.compared(2)),
                List.of(2 * 6 + 2 + 2, 2));
            due("Term 4: beside comes to its end", List.of(x.beside(3, 5, 0, 0, 0, 20000), x.compared(2)),
                List.of(2 * 5 + 2 + 3, 1));
        }
    }

    private static void failsAheadOfIt() {
        LineKeeper x = Check.keeper("f(a){a=f(a+1);}");
        x.start(0, 0, 0, 0, 0);
        // LINE, PLUS, CALL eight times, then LINE and PLUS.
        due("Term 4: n ITEMS up to the failing CALL", List.of(x.go(2, 26), x.run(5), x.run(2), x.run(0)),
            List.of(2, 0, 26, 2));
        due("Term 4: FAILS the run ahead of it", List.of(x.go(2, 1), x.run(5), x.run(2), x.run(0)), List.of(3, 1, 26, 2));
        due("Term 4: the names as they were", List.of(x.known(0, 0), x.value(0, 0), x.value(8, 0)), List.of(1, 8, 0));
    }

    private static void callsOneAfterAnother() {
        LineKeeper x = Check.keeper("g(){out 1;}f(a){while a{b=g();a=a-1;}}");
        for (int melted = 0; melted < 2; melted++) {
            x.start(1, 30, 0, 0, 0);
            due("Term 4: calls that ended count no more", List.of(x.go(2, 20000), x.run(1), x.run(5)), List.of(0, 30, 0));
            x.pass(4, 1);
        }
    }

    private static void registersOfTheirOwn() {
        LineKeeper x = Check.keeper("f(a){b=a*2;if a{c=f(a-1);}out b;return b;}");
        x.start(0, 2, 0, 0, 0);
        x.go(2, 500);
        due("Term 4: each routine that is called has REGISTERS of its own", prints(x), List.of(0, 2, 4));
    }

    private static void startsAnew() {
        LineKeeper x = Check.keeper(DEEP + "g(){}");
        due("Promise 11: no such routine", List.of(x.start(2, 0, 0, 0, 0), x.start(-1, 0, 0, 0, 0), x.start(MAX, 0, 0, 0, 0),
            x.start(MIN, 0, 0, 0, 0)), List.of(false, false, false, false));
        due("Promise 11: the last one", x.start(1, 0, 0, 0, 0), true);
        due("Promise 11: the first one", x.start(0, 9, 0, 0, 0), true);
        x.go(2, 20000);
        due("Promise 11: behind one that FAILED", List.of(x.start(0, 1, 0, 0, 0), run(x), x.printed(0), x.stack(0, 1),
            x.stack(1, 0)), List.of(true, List.of(0, 0, 0, 0, 1, 0), 0, 0, -1));
        x.go(2, 20000);
        due("Promise 11: behind one that is over", List.of(x.start(0, 7, 0, 0, 0), run(x), x.value(0, 0)),
            List.of(true, List.of(0, 0, 0, 0, 1, 0), 7));
        x.go(0, 20);
        x.go(0, 20);
        due("Promise 11: behind one that goes", List.of(x.start(0, 6, 0, 0, 0), run(x), x.value(0, 0)),
            List.of(true, List.of(0, 0, 0, 0, 1, 0), 6));
    }

    private static void startsAnewWithin() {
        LineKeeper x = Check.keeper("g(p){out p;}f(a){x=g(a);}");
        x.pass(4, 1);
        x.start(1, 3, 0, 0, 0);
        x.go(0, 9);
        x.go(0, 9);
        due("Promise 11: it stood in a FRAME", List.of(x.run(4), x.stack(0, 0)), List.of(2, 0));
        due("Promise 11: the new one stands in FRAME 0", List.of(x.start(1, 4, 0, 0, 0), x.run(4), x.stack(0, 0), x.stack(0, 1),
            x.stack(1, 0), x.value(0, 0)), List.of(true, 1, 1, 0, -1, 4));
        due("Promise 11: and goes", List.of(x.go(0, 9), x.go(0, 9), x.go(2, 9), prints(x)), List.of(1, 1, 0, List.of(4)));
        // The innermost of eight calls writes a name; in the next run it is nought there again.
        x = Check.keeper("f(a){out b;b=a+5;if a{c=f(a-1);}}");
        for (int i = 0; i < 2; i++) {
            x.start(0, 8, 0, 0, 0);
            x.go(2, 20000);
            due("Promise 11: names of all calls are nought again", prints(x), List.of(0, 0, 0, 0, 0, 0, 0, 0, 0));
        }
    }

    private static void parameters() {
        LineKeeper x = Check.keeper("f(){out a;}g(a,b,c,d){out d;out c;out b;out a;}h(a,b){out c;out b;out a;}");
        x.start(0, 1, 2, 3, 4);
        x.go(2, 50);
        due("Promise 11: as many as it has, none", prints(x), List.of(0));
        x.start(1, MIN, -1, 0, MAX);
        x.go(2, 50);
        due("Promise 11: as many as it has, four", prints(x), List.of(MAX, 0, -1, MIN));
        x.start(2, 1, 2, 3, 4);
        x.go(2, 50);
        due("Promise 11: as many as it has, two", prints(x), List.of(0, 2, 1));
    }

    private static void goArguments() {
        LineKeeper x = Check.keeper("f(a){while a{a=a-1;}}");
        due("Promise 12: there was no start()", List.of(x.go(0, 1), x.go(1, 1), x.go(2, 20000)), List.of(-1, -1, -1));
        x.start(0, 9000, 0, 0, 0);
        due("Promise 12: another how", List.of(x.go(-1, 1), x.go(3, 1), x.go(MAX, 1), x.go(MIN, 1)), List.of(-1, -1, -1, -1));
        due("Promise 12: another n", List.of(x.go(0, 0), x.go(1, -1), x.go(2, 20001), x.go(0, MAX), x.go(0, MIN)),
            List.of(-1, -1, -1, -1, -1));
        due("Promise 12: none was gone", run(x), List.of(0, 0, 0, 0, 1, 0));
        due("Promise 12: n 1", List.of(x.go(2, 1), x.run(2)), List.of(2, 1));
        due("Promise 12: n 20000", List.of(x.go(2, 20000), x.run(2)), List.of(2, 20001));
        x.pass(0, 0);
        due("Promise 12: no start() since the pass", x.go(0, 1), -1);
    }

    private static void goCounts() {
        LineKeeper x = Check.keeper("f(a){if a{}out 1;}");
        // LINE, ZERO, LABEL, LINE, OUT, RETURN: each is an ITEM that is gone, MARKS too.
        int[] told = {2, 2, 2, 2, 2, 0};
        x.start(0, 1, 0, 0, 0);
        for (int i = 0; i < told.length; i++) {
            due("Promise 12: ITEM by ITEM, MARKS too", List.of(x.run(2), x.run(0), x.go(2, 1)), List.of(i, i, told[i]));
        }
        due("Promise 16: ITEMS that were gone", List.of(x.run(2), x.run(0)), List.of(6, -1));
        x.start(0, 0, 0, 0, 0);
        due("Promise 12: RETURN as the n-th", List.of(x.go(2, 6), x.run(2)), List.of(0, 6));
        x.start(0, 0, 0, 0, 0);
        due("Promise 12: n were gone ahead of RETURN", List.of(x.go(2, 5), x.run(2)), List.of(2, 5));
    }

    private static void goUpToALine() {
        LineKeeper x = Check.keeper("f(a){x=a;out x;}");
        x.start(0, 1, 0, 0, 0);
        due("Promise 12: a LINE as the first of n", List.of(x.go(0, 1), x.run(0)), List.of(1, 1));
        due("Promise 12: ahead of the LINE n were gone", List.of(x.go(0, 2), x.run(0)), List.of(2, 3));
        due("Promise 12: it stands behind the mark", List.of(x.go(0, 20000), x.run(0), x.run(2), x.stack(0, 1)),
            List.of(1, 4, 4, 2));
        due("Promise 12: no LINE any more", List.of(x.go(0, 20000), x.run(2)), List.of(0, 6));
        x.start(0, 1, 0, 0, 0);
        x.go(0, 1);
        due("Promise 12: a LINE as the n-th", List.of(x.go(0, 3), x.run(0)), List.of(1, 4));
    }

    private static void goNoDeeper() {
        String text = "g(p){out p;q=p;return q;}f(a){x=g(a);y=g(x);out y;}";
        for (int melted = 0; melted < 2; melted++) {
            LineKeeper x = Check.keeper(text);
            if (melted == 1) {
                x.pass(4, 1);
            }
            x.start(1, 3, 0, 0, 0);
            List<Integer> lines = new ArrayList<>();
            while (lines.size() < 50 && x.go(1, 200) == 1) {
                lines.add(x.stack(0, 1));
            }
            due("Promise 12: up to a LINE at which the STACK is no deeper than now", lines, List.of(4, 5, 6));
            x.start(1, 3, 0, 0, 0);
            x.go(0, 200);
            x.go(0, 200);
            lines.clear();
            while (lines.size() < 50 && x.go(1, 200) == 1) {
                lines.add(x.stack(0, 1));
            }
            due("Promise 12: from within it, to its end and on", lines, List.of(2, 3, 5, 6));
        }
    }

    private static void goBehindTheEnd() {
        String text = "h(){out 1;out 2;}g(){x=h();x=h();}f(){x=g();x=h();out 3;}";
        for (int melted = 0; melted < 2; melted++) {
            LineKeeper x = Check.keeper(text);
            if (melted == 1) {
                x.pass(4, 1);
                x.pass(4, 2);
            }
            x.start(2, 0, 0, 0, 0);
            due("Promise 12: of the first frame there is no LINE behind", List.of(x.go(2, 20000), x.run(1)), List.of(0, 7));
            x.start(2, 0, 0, 0, 0);
            for (int i = 0; i < 3; i++) {
                x.go(0, 200);
            }
            due("Promise 12: in h of g", List.of(x.stack(0, 1), x.stack(1, 1), x.stack(2, 1)), List.of(1, 3, 5));
            due("Promise 12: behind the end of the innermost frame of now", List.of(x.go(2, 200), x.stack(0, 1), x.run(4)),
                List.of(1, 4, 2));
            due("Promise 12: the LINE of g, then of f", List.of(x.go(2, 200), x.stack(0, 1), x.run(4)), List.of(1, 6, 1));
        }
        // The last STATEMENT of g is the call: behind the end of h comes the end of g.
        LineKeeper x = Check.keeper("h(){out 1;}g(){x=h();}f(){x=g();out 3;}");
        x.start(2, 0, 0, 0, 0);
        for (int i = 0; i < 3; i++) {
            x.go(0, 200);
        }
        due("Promise 12: behind the end of two frames", List.of(x.run(4), x.go(2, 200), x.run(4), x.stack(0, 1)),
            List.of(3, 1, 1, 4));
    }

    private static void goWhenOver() {
        LineKeeper x = Check.keeper("f(){out 8;return 9;}");
        x.start(0, 0, 0, 0, 0);
        x.go(2, 50);
        List<Integer> over = run(x);
        due("Promise 12: the run is over", over, List.of(-1, 1, 4, 9, 0, 0));
        due("Promise 12: (or was)", List.of(x.go(0, 1), x.go(1, 20000), x.go(2, 7)), List.of(0, 0, 0));
        due("Promise 12: another how or n then", List.of(x.go(3, 1), x.go(0, 0), x.go(0, 20001)), List.of(-1, -1, -1));
        due("Promise 12: nothing more is gone", run(x), over);
        due("Promise 17: what it printed stays", x.printed(0), 8);
    }

    private static void goWhenFailed() {
        LineKeeper x = Check.keeper(DEEP);
        x.start(0, 10, 0, 0, 0);
        x.go(2, 20000);
        List<Integer> failed = run(x);
        due("Promise 12: it FAILED (or had)", List.of(x.go(0, 1), x.go(1, 20000), x.go(2, 7)), List.of(3, 3, 3));
        due("Promise 12: another how or n then", List.of(x.go(-1, 1), x.go(0, 0)), List.of(-1, -1));
        due("Promise 12: nothing more is gone when it had FAILED", run(x), failed);
    }

    private static void stackArguments() {
        LineKeeper x = Check.keeper("g(a){out a;}f(a,b){c=g(a);}");
        due("Promise 13: no run", List.of(x.stack(0, 0), x.stack(0, 1), x.stack(0, 2)), List.of(-1, -1, -1));
        x.start(1, 1, 2, 0, 0);
        x.go(0, 9);
        x.go(0, 9);
        due("Promise 13: frame 0, the innermost", List.of(x.stack(0, 0), x.stack(0, 1), x.stack(0, 2)), List.of(0, 1, 1));
        due("Promise 13: the last frame", List.of(x.stack(1, 0), x.stack(1, 1), x.stack(1, 2)), List.of(1, 2, 3));
        due("Promise 13: none such", List.of(x.stack(2, 0), x.stack(-1, 0), x.stack(MAX, 0), x.stack(MIN, 2)),
            List.of(-1, -1, -1, -1));
        due("Promise 13: another what", List.of(x.stack(0, 3), x.stack(0, -1), x.stack(1, MAX), x.stack(1, MIN)),
            List.of(-1, -1, -1, -1));
    }

    private static void stackLines() {
        for (int melted = 0; melted < 2; melted++) {
            LineKeeper x = Check.keeper("g(a){out a;}f(a){while a{c=g(a);a=a-1;}}");
            if (melted == 1) {
                x.pass(4, 1);
            }
            x.start(1, 2, 0, 0, 0);
            due("Promise 13: LINE 0, none yet", List.of(x.stack(0, 1), x.run(4)), List.of(0, 1));
            for (int turn = 0; turn < 2; turn++) {
                x.go(0, 99);
                x.go(0, 99);
                x.go(0, 1);
                due("Promise 13: entered anew, no LINE of it yet, turn " + turn,
                    List.of(x.run(4), x.stack(0, 0), x.stack(0, 1), x.stack(1, 1)), List.of(2, 0, 0, 3));
                x.go(0, 99);
                due("Promise 13: its LINE", List.of(x.stack(0, 1), x.stack(1, 1)), List.of(1, 3));
                x.go(0, 99);
                due("Promise 13: the LINE behind it", List.of(x.run(4), x.stack(0, 1)), List.of(1, 4));
            }
        }
    }

    private static void stackOfFrames() {
        LineKeeper x = Check.keeper("h(s){out s;}g(p){q=h(p);return q;}f(a){b=1;b=g(a);}e(){z=f(7);}");
        x.pass(4, 1);
        x.pass(4, 2);
        x.start(3, 0, 0, 0, 0);
        while (x.run(1) == 0 && x.run(2) < 90) {
            x.go(2, 1);
        }
        due("Term 4: FRAMES up to FRAME 0, then that of the CALL", List.of(x.run(4), x.stack(0, 0), x.stack(1, 0),
            x.stack(2, 0), x.stack(3, 0), x.stack(4, 0)), List.of(4, 0, 1, 2, 3, -1));
        due("Term 4: their LINES", List.of(x.stack(0, 1), x.stack(1, 1), x.stack(2, 1), x.stack(3, 1)), List.of(1, 2, 5, 6));
        due("Term 4: their names", List.of(x.stack(0, 2), x.stack(1, 2), x.stack(2, 2), x.stack(3, 2)), List.of(1, 2, 2, 1));
        due("Term 4: their values", List.of(x.value(0, 0), x.value(1, 0), x.value(2, 0), x.value(2, 1), x.value(3, 0)),
            List.of(7, 7, 7, 1, 0));
    }

    private static void stackWhenOver() {
        LineKeeper x = Check.keeper("f(a){out a;}");
        x.start(0, 1, 0, 0, 0);
        x.go(2, 2);
        due("Promise 13: ahead of the end", x.stack(0, 0), 0);
        x.go(2, 1);
        due("Promise 13: also when the run is over", List.of(x.stack(0, 0), x.stack(0, 1), x.stack(0, 2), x.run(4)),
            List.of(-1, -1, -1, 0));
        due("Promise 14: also then", List.of(x.known(0, 0), x.value(0, 0)), List.of(-1, 0));
    }

    private static void knownArguments() {
        LineKeeper x = Check.keeper("g(){out 1;}f(a,b){c=g();}");
        due("Promise 14: no run", List.of(x.known(0, 0), x.value(0, 0)), List.of(-1, 0));
        x.start(1, 5, 6, 0, 0);
        due("Promise 14: the first and the last name", List.of(x.known(0, 0), x.known(0, 2), x.value(0, 1)), List.of(1, 1, 6));
        due("Promise 14: none such name", List.of(x.known(0, 3), x.known(0, -1), x.known(0, MAX), x.known(0, MIN)),
            List.of(-1, -1, -1, -1));
        due("Promise 15: none such name", List.of(x.value(0, 3), x.value(0, -1), x.value(0, MAX), x.value(0, MIN)),
            List.of(0, 0, 0, 0));
        due("Promise 14: none such frame", List.of(x.known(1, 0), x.known(-1, 0), x.known(MAX, 0), x.known(MIN, 0)),
            List.of(-1, -1, -1, -1));
        due("Promise 15: none such frame", List.of(x.value(1, 0), x.value(-1, 0), x.value(MAX, 0), x.value(MIN, 0)),
            List.of(0, 0, 0, 0));
        x.go(0, 9);
        x.go(0, 9);
        due("Promise 14: a frame without names", List.of(x.stack(0, 0), x.known(0, 0), x.value(0, 0), x.known(1, 0)),
            List.of(0, -1, 0, 1));
    }

    private static void knownBehindCalls() {
        // x is written by the CALL: ahead of that it has its old value, behind it it is GONE 3 until BIND.
        LineKeeper x = Check.keeper("g(){return 4;}f(a){x=3;x=g();out x;}");
        x.start(1, 1, 0, 0, 0);
        for (int i = 0; i < 3; i++) {
            x.go(0, 9);
        }
        due("Promise 14: of frames behind a CALL ahead of that", List.of(x.run(4), x.known(1, 1), x.value(1, 1)),
            List.of(2, 1, 3));
        x.go(2, 1);
        due("Promise 14: behind the CALL, ahead of BIND", List.of(x.run(4), x.known(0, 1), x.value(0, 1)), List.of(1, 13, 0));
        x.go(2, 1);
        due("Promise 14: behind BIND", List.of(x.known(0, 1), x.value(0, 1)), List.of(1, 4));
    }

    private static void knownWhys() {
        LineKeeper x = Check.keeper("g(p){out p;}f(a){x=a*5;out 1;y=x;if a{z=1;}w=a;a=2;b=g(a);}");
        x.pass(1, 1);
        x.pass(4, 1);
        x.start(1, 6, 0, 0, 0);
        while (!(x.run(4) == 2) && x.run(2) < 200) {
            x.go(2, 1);
        }
        due("Promise 14: 11 not there, of a FRAME that is entered, ahead of its BIND", x.known(0, 0), 11);
        x.go(0, 20);
        due("Promise 14: told behind it", List.of(x.known(0, 0), x.value(0, 0)), List.of(1, 2));
        due("Promise 14: 1, and 12 dropped, 14 it differs, 13 written over", List.of(x.known(1, 0), x.known(1, 1),
            x.known(1, 2), x.known(1, 3), x.known(1, 4)), List.of(1, 13, 12, 14, 13));
    }

    private static void valuesNotTold() {
        LineKeeper x = Check.keeper("f(a){x=a*5;out 1;y=x;out 2;}");
        x.pass(1, 0);
        x.start(0, 3, 0, 0, 0);
        for (int i = 0; i < 4; i++) {
            x.go(0, 9);
        }
        due("Promise 15: that value", List.of(x.value(0, 0), x.value(0, 1)), List.of(3, 15));
        due("Promise 15: 0 where it is not told", List.of(x.known(0, 2), x.value(0, 2)), List.of(12, 0));
    }

    /** Names are numbered by frames: the one beyond a frame's last is none, though another frame has names. */
    private static void namesBeyondAFrame() {
        LineKeeper x = Check.keeper("g(p){out p;}f(a){x=g(a);}");
        x.pass(4, 1);
        x.start(1, 3, 0, 0, 0);
        x.go(0, 9);
        x.go(0, 9);
        due("Promise 14: the last name of each frame", List.of(x.known(0, 0), x.known(1, 1), x.value(0, 0), x.value(1, 0)),
            List.of(1, 1, 3, 3));
        due("Promise 14: none beyond them", List.of(x.known(0, 1), x.known(1, 2), x.value(0, 1), x.value(1, 2)),
            List.of(-1, -1, 0, 0));
    }

    private static void runArguments() {
        LineKeeper x = Check.keeper("f(a){out a;return 5;}");
        due("Promise 16: there was no run", run(x), List.of(-1, -1, -1, -1, -1, -1));
        x.start(0, 1, 0, 0, 0);
        due("Promise 16: at first ahead of item 0", run(x), List.of(0, 0, 0, 0, 1, 0));
        due("Promise 16: another what", List.of(x.run(6), x.run(-1), x.run(MAX), x.run(MIN)), List.of(-1, -1, -1, -1));
        x.go(2, 3);
        due("Promise 16: 0 until it returned", run(x), List.of(3, 1, 3, 0, 1, 0));
        x.go(2, 1);
        due("Promise 16: over", run(x), List.of(-1, 1, 4, 5, 0, 0));
        x.pass(5, 0);
        due("Promise 10: there is no run then", run(x), List.of(-1, -1, -1, -1, -1, -1));
    }

    private static void printedEdges() {
        LineKeeper x = Check.keeper("f(a){while a{out a;a=a-1;}}");
        due("Promise 17: no run", List.of(x.printed(0), x.printed(1)), List.of(0, 0));
        for (int n : new int[] {0, 1, 199, 200, 201, 300}) {
            x.start(0, n, 0, 0, 0);
            x.go(2, 20000);
            due("Promise 16: how many were printed", x.run(1), n);
            due("Promise 17: the first", x.printed(0), n);
            int last = Math.min(n, 200) - 1;
            due("Promise 17: the last of the first 200", x.printed(last), last < 0 ? 0 : n - last);
            due("Promise 17: 0 where there is none such", List.of(x.printed(last + 1), x.printed(n), x.printed(-1),
                x.printed(MAX), x.printed(MIN)), List.of(0, 0, 0, 0, 0));
        }
        x.pass(0, 0);
        due("Promise 17: no run any more", x.printed(0), 0);
        LineKeeper y = Check.keeper("f(a){out a;}");
        y.start(0, 6, 0, 0, 0);
        y.go(2, 1);
        due("Promise 17: ahead of OUT", y.printed(0), 0);
        y.go(2, 1);
        due("Promise 17: behind OUT", List.of(y.printed(0), y.printed(1)), List.of(6, 0));
    }

    private static void besideArguments() {
        LineKeeper x = Check.keeper("f(a){while a{a=a-1;}}");
        due("Promise 18: no such routine", List.of(x.beside(1, 0, 0, 0, 0, 1), x.beside(-1, 0, 0, 0, 0, 1),
            x.beside(MAX, 0, 0, 0, 0, 1), x.beside(MIN, 0, 0, 0, 0, 1)), List.of(-1, -1, -1, -1));
        due("Promise 18: another n", List.of(x.beside(0, 0, 0, 0, 0, 0), x.beside(0, 0, 0, 0, 0, -1),
            x.beside(0, 0, 0, 0, 0, 20001), x.beside(0, 0, 0, 0, 0, MAX), x.beside(0, 0, 0, 0, 0, MIN)),
            List.of(-1, -1, -1, -1, -1));
        due("Promise 19: ahead of any", List.of(x.compared(0), x.compared(1), x.compared(2)), List.of(-1, -1, -1));
        due("Promise 18: n 1", List.of(x.beside(0, 1, 0, 0, 0, 1), x.compared(2)), List.of(0, 0));
        // A turn has LABEL, LINE, ZERO, LINE, MINUS, COPY, BIND, JUMP: 2500 turns are 20000 ITEMS.
        due("Promise 18: n 20000", List.of(x.beside(0, 9999, 0, 0, 0, 20000), x.compared(2)), List.of(5000, 0));
    }

    private static void besideCounts() {
        LineKeeper x = Check.keeper("f(a){x=a;out x;}");
        int[] lines = {1, 1, 1, 2, 2, 2};
        for (int n = 1; n <= 6; n++) {
            due("Promise 18: LINES by at most " + n, List.of(x.beside(0, 5, 0, 0, 0, n), x.compared(2)),
                List.of(lines[n - 1], n == 6 ? 1 : 0));
        }
        x = Check.keeper("f(){}");
        due("Promise 18: no LINE", List.of(x.beside(0, 0, 0, 0, 0, 1), x.compared(0), x.compared(1), x.compared(2)),
            List.of(0, 0, 0, 1));
        x = Check.keeper("f(){return -7;}");
        due("Promise 18: a number below 0 that is returned", List.of(x.beside(0, 0, 0, 0, 0, 50), x.compared(2)),
            List.of(1, 1));
        x = Check.keeper("f(a){while a{out a;a=a-1;}}");
        due("Promise 18: more than 200 printed", List.of(x.beside(0, 300, 0, 0, 0, 20000), x.compared(2)),
            List.of(901, 1));
    }

    private static void besideStays() {
        LineKeeper x = Check.keeper(DEEP);
        x.beside(0, 3, 0, 0, 0, 50);
        due("Promise 18: there is no run by it", run(x), List.of(-1, -1, -1, -1, -1, -1));
        x.start(0, 3, 0, 0, 0);
        for (int i = 0; i < 5; i++) {
            x.go(0, 9);
        }
        List<Integer> before = run(x);
        due("Promise 18: it stands", before, List.of(3, 2, 10, 0, 2, 0));
        due("Promise 18: beside", List.of(x.beside(0, 9, 0, 0, 0, 20000), x.compared(2)), List.of(27, 2));
        due("Promise 18: a run that there is stays", List.of(run(x), x.printed(0), x.value(0, 0), x.value(1, 0)),
            List.of(before, 3, 2, 3));
        due("Promise 18: and goes on", List.of(x.go(2, 20000), x.go(2, 20000), x.run(3)), List.of(1, 0, 3));
    }

    /**
     * MELT makes REGISTERS 0 that live at the beginning, and BIND reads nothing: c is told as REG of e, which has 1 of
     * the last turn, though e is nought in each call.
     */
    private static void besideUnlike() {
        LineKeeper x = Check.keeper("g(a){c=e;out a;e=1;out e;}f(n){while n{x=g(n);n=n-1;}}");
        x.pass(1, 0);
        due("Promise 18: a call has REGISTERS of its own", List.of(x.beside(1, 3, 0, 0, 0, 500), x.compared(2)),
            List.of(22, 1));
        x.pass(4, 1);
        due("Promise 18: one turn is alike", List.of(x.beside(1, 1, 0, 0, 0, 500), x.compared(2)), List.of(8, 1));
        // LINES 5 6 1 2 3 4 7, then 5 6 1, and at 2 it is not so.
        due("Promise 18: -2 less how many were, if something was not", x.beside(1, 3, 0, 0, 0, 500), -2 - 10);
        // Told 1 1 4 4 4 3 2 and 1 1 4 and 4, GONE 1 1 1 1 1 2 0 and 1 1 1 and 1.
        due("Promise 19: in all frames at all LINES, that one too", List.of(x.compared(0), x.compared(1), x.compared(2)),
            List.of(29, 11, 0));
        // A turn has 28 ITEMS, and the LINE at which it is not so is the 12th of the second one.
        due("Promise 18: by fewer ITEMS it does not come there", List.of(x.beside(1, 3, 0, 0, 0, 39), x.compared(0),
            x.compared(1)), List.of(10, 25, 10));
        due("Promise 18: by one more it does", x.beside(1, 3, 0, 0, 0, 40), -12);
        x.pass(5, 1);
        due("Promise 18: SHARE makes c GONE", List.of(x.beside(1, 3, 0, 0, 0, 500), x.compared(2)), List.of(22, 1));
    }

    private static void comparedEdges() {
        LineKeeper x = Check.keeper("f(a,b){if a{c=1;}out c;}");
        due("Promise 19: ahead of any", List.of(x.compared(0), x.compared(1), x.compared(2), x.compared(3)),
            List.of(-1, -1, -1, -1));
        x.beside(0, 1, 0, 0, 0, 50);
        // Three LINES of three names; c differs by the ways at the last.
        due("Promise 19: told, GONE, the end", List.of(x.compared(0), x.compared(1), x.compared(2)), List.of(8, 1, 1));
        x.beside(0, 0, 0, 0, 0, 50);
        due("Promise 19: of the latest", List.of(x.compared(0), x.compared(1), x.compared(2)), List.of(5, 1, 1));
        due("Promise 19: not to the end this time", List.of(x.beside(0, 1, 0, 0, 0, 1), x.compared(0), x.compared(2)),
            List.of(1, 3, 0));
        x.beside(0, 0, 0, 0, 0, 50);
        due("Promise 19: another what", List.of(x.compared(3), x.compared(-1), x.compared(MAX), x.compared(MIN)),
            List.of(-1, -1, -1, -1));
        x.beside(0, 0, 0, 0, 0, 0);
        due("Promise 19: a refused one is none", List.of(x.compared(0), x.compared(1), x.compared(2)), List.of(5, 1, 1));
        x = Check.keeper("g(p){out p;}f(a){x=g(a);}");
        x.beside(1, 1, 0, 0, 0, 50);
        due("Promise 19: in all frames at all LINES", List.of(x.compared(0), x.compared(1)), List.of(2 + 3, 0));
    }
}
