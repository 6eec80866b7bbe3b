import java.io.IOException;
import java.util.ArrayList;
import java.util.List;

/** The promises 1 to 19, sentence by sentence in the document's order. */
public final class SentencePromisesTest {
    private static final int MAX = Integer.MAX_VALUE;
    private static final int MIN = Integer.MIN_VALUE;
    private static final int[] BEYOND = {-1, MIN, MAX};
    private static final String SQUARES = "g(n){return n*n;}f(k){s=0;while k{t=g(k);s=s+t;k=k-1;}out s;}";

    public static void main(String[] args) throws IOException {
        aNewObject();
        feed();
        end();
        read();
        fault();
        routine();
        item();
        frame();
        told();
        pass();
        start();
        go();
        stack();
        known();
        value();
        run();
        printed();
        beside();
        compared();
        Doc.finish();
    }

    private static void says(String sentence) {
        Doc.says(sentence);
    }

    private static void due(Object got, Object want) {
        Doc.due(got, want);
    }

    private static List<Integer> run(LineKeeper x) {
        List<Integer> list = new ArrayList<>();
        for (int what = 0; what < 6; what++) {
            list.add(x.run(what));
        }
        return list;
    }

    private static List<Integer> item(LineKeeper x, int r, int k) {
        List<Integer> list = new ArrayList<>();
        for (int what = 0; what < 8; what++) {
            list.add(x.item(r, k, what));
        }
        return list;
    }

    private static List<Integer> told(LineKeeper x, int r, int k, int f, int name) {
        List<Integer> list = new ArrayList<>();
        for (int what = 0; what < 5; what++) {
            list.add(x.told(r, k, f, name, what));
        }
        return list;
    }

    private static void aNewObject() {
        Doc.section("Promise 1");
        says("No routines; the tape and OUT are empty; no run.");
        LineKeeper x = new LineKeeper();
        due(List.of(x.routine(0, 0), x.item(0, 0, 0), x.frame(0, 0, 0), x.told(0, 0, 0, 0, 0), x.pass(0, 0)),
            List.of(-1, -1, -1, -1, -1));
        due(List.of(x.end(1), x.end(0), x.printed(0)), List.of(-1, 0, 0));
        due(List.of(x.go(0, 1), x.stack(0, 0), x.known(0, 0), x.run(0), x.run(5)), List.of(-1, -1, -1, -1, -1));
        due(List.of(x.start(0, 0, 0, 0, 0), x.beside(0, 0, 0, 0, 0, 1), x.compared(0)), List.of(false, -1, -1));
    }

    private static void feed() {
        Doc.section("Promise 2");
        says("Twenty bytes come behind the tape, of each number the highest first: how many it has.");
        LineKeeper x = new LineKeeper();
        // "f(){" "out " "12+3" "4+56" ";}  "
        due(x.feed(0x6628297b, 0x6f757420, 0x31322b33, 0x342b3536, 0x3b7d2020), 20);
        due(x.feed(0x67282961, 0, 0, 0, 0), 40);
        due(List.of(x.end(23), x.feed(0x7b6f7574, 0x20373b7d, 0x20202020, 0x20202020, 0x20202020)), List.of(23, 43));
        due(List.of(x.read(), Check.item(x, 0, 1), Check.item(x, 0, 2), Check.item(x, 1, 1)),
            List.of(2, "PLUS r0 12 34", "PLUS r1 r0 56", "OUT 7"));
        says("NONE, and nothing comes, if there would be more than 1200.");
        for (int i = 1; i <= 60; i++) {
            due(x.feed(0x20202020, 0x20202020, 0x20202020, 0x20202020, 0x20202020), 20 * i);
        }
        due(List.of(x.feed(0, 0, 0, 0, 0), x.end(1200), x.end(1181), x.feed(0, 0, 0, 0, 0), x.end(1182), x.read()),
            List.of(-1, 1200, 1181, -1, -1, 0));
        due(List.of(x.feed(0, 0, 0, 0, 0), x.end(0)), List.of(20, 0));
    }

    private static void end() {
        Doc.section("Promise 3");
        says("The tape has its first n bytes alone: n.");
        LineKeeper x = new LineKeeper();
        x.feed(0x6628297b, 0x7d212121, 0x21212121, 0x21212121, 0x21212121);
        due(List.of(x.end(20), x.end(6), x.end(5), x.read()), List.of(20, 6, 5, 1));
        says("NONE if it has not so many, or n is below 0.");
        x.feed(0x6628297b, 0x7d202020, 0x20202020, 0x20202020, 0x20202020);
        due(List.of(x.end(21), x.end(MAX), x.end(-1), x.end(MIN), x.end(8), x.end(9), x.read()),
            List.of(-1, -1, -1, -1, 8, -1, 1));
    }

    private static void read() {
        Doc.section("Promise 4");
        says("The tape is taken, as a TEXT: how many routines; their code is MADE; there is no run then.");
        LineKeeper x = Check.keeper("f(a){x=g();}g(){}");
        x.pass(4, 0);
        x.start(0, 1, 0, 0, 0);
        x.go(2, 9);
        Check.tape(x, SQUARES);
        due(List.of(x.read(), x.end(1), x.routine(1, 0), x.routine(2, 0), x.routine(0, 5)), List.of(2, -1, 22, -1, 1));
        Doc.code(x, 0, "LINE 1 in 0", "TIMES r1 r0 r0", "RETURN r1", "RETURN 0");
        due(List.of(run(x), x.go(0, 1), x.stack(0, 0), x.printed(0)), List.of(List.of(-1, -1, -1, -1, -1, -1), -1, -1, 0));
        due(List.of(x.read(), x.routine(0, 0)), List.of(0, -1));
        says("NONE: a FAULT.");
        x = Check.keeper(SQUARES);
        x.start(0, 5, 0, 0, 0);
        Check.tape(x, "f(){");
        due(List.of(x.read(), x.fault(0), x.end(1), x.routine(1, 0), x.run(0), x.value(0, 0)),
            List.of(-1, 1, -1, 22, 0, 5));
    }

    private static void fault() {
        Doc.section("Promise 5");
        says("Of the latest read(), what 0: the FAULT, 0 without, 1: its place, NONE without.");
        LineKeeper x = new LineKeeper();
        String[] texts = {"f(){out 1}", "f(){}", "f(){} f(){}", "f(){x=g(1);}", "", "f(a){x=f();}", "f(a,b,c,d,e){}"};
        int[][] faults = {{1, 9}, {0, -1}, {2, 6}, {3, 6}, {0, -1}, {4, 7}, {5, 10}};
        for (int i = 0; i < texts.length; i++) {
            Check.tape(x, texts[i]);
            x.read();
            due(List.of(texts[i], x.fault(0), x.fault(1)), List.of(texts[i], faults[i][0], faults[i][1]));
        }
        says("NONE for another what.");
        for (int what : new int[] {-1, 2, MAX, MIN}) {
            due(x.fault(what), -1);
        }
    }

    private static void routine() {
        Doc.section("Promise 6");
        says("Of a routine, what 0: ITEMS, 1: ACTS, 2: names, 3: parameters, 4: REGISTERS (1 more than the greatest that stands in"
            + " an ITEM or is a name's of a FRAME), 5: FRAMES, 6: its first LINE (0 without), 7: the REGISTER of its name (of"
            + " FRAME 0) 0, 8: of name 1, and so on.");
        LineKeeper x = Check.keeper(SQUARES);
        int[][] want = {{4, 3, 1, 1, 2, 1, 1, 0, -1}, {22, 10, 3, 1, 5, 1, 2, 0, 1, 2, -1}};
        for (int r = 0; r < 2; r++) {
            for (int what = 0; what < want[r].length; what++) {
                due(x.routine(r, what), want[r][what]);
            }
        }
        x.pass(4, 1);
        // In place of CALL: ENTER, COPY, BIND, LINE, TIMES, COPY, JUMP, COPY, JUMP, LABEL, LEAVE; n is 5 and n * n is 6.
        due(List.of(x.routine(1, 0), x.routine(1, 1), x.routine(1, 2), x.routine(1, 4), x.routine(1, 5), x.routine(1, 6)),
            List.of(32, 15, 3, 7, 2, 2));
        x = Check.keeper("e(){}f(){out a+b;x=1;}g(p){}");
        due(List.of(x.routine(0, 4), x.routine(0, 6), x.routine(1, 4), x.routine(2, 4), x.routine(2, 6)),
            List.of(0, 0, 4, 1, 0));
        x.pass(5, 1);
        // a and b live at the beginning; a + b and x are at odds with neither.
        due(List.of(x.routine(1, 7), x.routine(1, 8), x.routine(1, 9), x.routine(1, 4)), List.of(0, 1, 0, 2));
        says("NONE if there is none such, or for another what.");
        for (int r : new int[] {-1, 3, MAX, MIN}) {
            due(List.of(x.routine(r, 0), x.routine(r, 7)), List.of(-1, -1));
        }
        due(List.of(x.routine(1, 10), x.routine(2, 8), x.routine(0, 7), x.routine(1, -1), x.routine(1, MAX), x.routine(1, MIN)),
            List.of(-1, -1, -1, -1, -1, -1));
    }

    private static void item() {
        Doc.section("Promise 7");
        says("Of ITEM k of a routine, what 0: COPY 0, PLUS 1, MINUS 2, TIMES 3, EQUAL 4, LESS 5, OUT 6, RETURN 7, JUMP 8, ZERO 9,"
            + " CALL 10, LINE 11, BIND 12, LABEL 13, ENTER 14, LEAVE 15; 1: r; the LINE's number; BIND's name; of JUMP, ZERO,"
            + " LABEL l; of ENTER, LEAVE f; 2: of CALL the routine; of LINE and BIND the FRAME; 3, 4: a, b: 1 a CONST, 2 a REG;"
            + " 5, 6: their numbers; 7: of BIND: 1 CONST, 2 REG, 3 PLUS and so on to 7 LESS, 10 and why; the a, b of SUM are told"
            + " as such; CONST's, REG's number as a's.");
        LineKeeper x = Check.keeper("g(p){}f(a){x=a+2;x=3-a;x=a*a;x=4=a;x=a<5;out a;while a{return 6;}y=f(a);x=g(8);}");
        x.pass(4, 1);
        int[][] want = {{11, 1, 0, 0, 0, 0, 0, 0}, {1, 3, 0, 2, 1, 0, 2, 0}, {0, 1, 0, 2, 0, 3, 0, 0}, {12, 1, 0, 0, 0, 1, 0, 2},
            {11, 2, 0, 0, 0, 0, 0, 0}, {2, 4, 0, 1, 2, 3, 0, 0}, {0, 1, 0, 2, 0, 4, 0, 0}, {12, 1, 0, 0, 0, 1, 0, 2},
            {11, 3, 0, 0, 0, 0, 0, 0}, {3, 5, 0, 2, 2, 0, 0, 0}, {0, 1, 0, 2, 0, 5, 0, 0}, {12, 1, 0, 0, 0, 1, 0, 2},
            {11, 4, 0, 0, 0, 0, 0, 0}, {4, 6, 0, 1, 2, 4, 0, 0}, {0, 1, 0, 2, 0, 6, 0, 0}, {12, 1, 0, 0, 0, 1, 0, 2},
            {11, 5, 0, 0, 0, 0, 0, 0}, {5, 7, 0, 2, 1, 0, 5, 0}, {0, 1, 0, 2, 0, 7, 0, 0}, {12, 1, 0, 0, 0, 1, 0, 2},
            {11, 6, 0, 0, 0, 0, 0, 0}, {6, 0, 0, 2, 0, 0, 0, 0}, {13, 0, 0, 0, 0, 0, 0, 0}, {11, 7, 0, 0, 0, 0, 0, 0},
            {9, 1, 0, 2, 0, 0, 0, 0}, {11, 8, 0, 0, 0, 0, 0, 0}, {7, 0, 0, 1, 0, 6, 0, 0}, {8, 0, 0, 0, 0, 0, 0, 0},
            {13, 1, 0, 0, 0, 0, 0, 0}, {11, 9, 0, 0, 0, 0, 0, 0}, {10, 2, 1, 2, 0, 0, 0, 0}, {12, 2, 0, 0, 0, 2, 0, 2},
            {11, 10, 0, 0, 0, 0, 0, 0}, {14, 1, 0, 0, 0, 0, 0, 0}, {0, 8, 0, 1, 0, 8, 0, 0}, {12, 0, 1, 0, 0, 8, 0, 2},
            {0, 1, 0, 1, 0, 0, 0, 0}, {8, 2, 0, 0, 0, 0, 0, 0}, {13, 2, 0, 0, 0, 0, 0, 0}, {15, 1, 0, 0, 0, 0, 0, 0},
            {12, 1, 0, 0, 0, 1, 0, 2}, {7, 0, 0, 1, 0, 0, 0, 0}};
        due(x.routine(1, 0), want.length);
        for (int k = 0; k < want.length; k++) {
            List<Integer> all = new ArrayList<>();
            for (int one : want[k]) {
                all.add(one);
            }
            due(item(x, 1, k), all);
        }
        for (int i = 0; i < 5; i++) {
            x = Check.keeper("f(a,b){x=b" + "+-*=<".charAt(i) + "70;out 1;y=x;z=5;out z;}");
            x.pass(1, 0);
            x.pass(0, 0);
            // LINE, BIND x, LINE, OUT, LINE, BIND y, LINE, COPY, BIND z, ..
            due(List.of(item(x, 0, 1), item(x, 0, 5), item(x, 0, 8)), List.of(List.of(12, 2, 0, 2, 1, 1, 70, 3 + i),
                List.of(12, 3, 0, 0, 0, 0, 0, 12), List.of(12, 4, 0, 0, 0, 5, 0, 1)));
        }
        says("Of CALL 3 to 6 are of its first two E.");
        x = Check.keeper("g(a,b,c){}f(a){x=g(a,7,a+1);x=g(9,x,2);}");
        due(List.of(item(x, 1, 2), item(x, 1, 5)), List.of(List.of(10, 1, 0, 2, 1, 0, 7, 0), List.of(10, 1, 0, 1, 2, 9, 1, 0)));
        says("0 where there is nothing.");
        x = Check.keeper("g(){}f(){x=g();}");
        due(List.of(item(x, 1, 1), item(x, 1, 3)), List.of(List.of(10, 0, 0, 0, 0, 0, 0, 0), List.of(7, 0, 0, 1, 0, 0, 0, 0)));
        says("NONE if there is none such, or for another what.");
        due(List.of(x.item(2, 0, 0), x.item(1, 4, 0), x.item(1, 0, 8)), List.of(-1, -1, -1));
        for (int one : BEYOND) {
            due(List.of(x.item(one, 0, 0), x.item(1, one, 0), x.item(1, 0, one)), List.of(-1, -1, -1));
        }
    }

    private static void frame() {
        Doc.section("Promise 8");
        says("Of FRAME f of a routine, what 0: which routine it is, 1: the FRAME in which it stands (NONE of 0), 2: the LINE of its"
            + " call (0 of 0).");
        LineKeeper x = Check.keeper("f(){x=1;x=g();x=h();}g(){out 1;x=h();}h(){}");
        x.pass(4, 1);
        x.pass(4, 0);
        int[][] want = {{0, -1, 0}, {1, 0, 2}, {2, 1, 5}, {2, 0, 3}};
        due(x.routine(0, 5), 4);
        for (int f = 0; f < 4; f++) {
            due(List.of(x.frame(0, f, 0), x.frame(0, f, 1), x.frame(0, f, 2)), List.of(want[f][0], want[f][1], want[f][2]));
        }
        due(List.of(x.frame(1, 0, 0), x.frame(1, 1, 0), x.frame(1, 1, 1), x.frame(1, 1, 2)), List.of(1, 2, 0, 5));
        says("NONE if there is none such, or for another what.");
        due(List.of(x.frame(3, 0, 0), x.frame(0, 4, 0), x.frame(2, 1, 0), x.frame(0, 1, 3)), List.of(-1, -1, -1, -1));
        for (int one : BEYOND) {
            due(List.of(x.frame(one, 0, 0), x.frame(0, one, 0), x.frame(0, 1, one)), List.of(-1, -1, -1));
        }
    }

    private static void told() {
        Doc.section("Promise 9");
        says("TOLD of a name of a FRAME at ITEM k (or behind the last one), what 0: as 7 of item(); 1, 2: as 3, 4; 3, 4: as 5, 6.");
        LineKeeper x = Check.keeper("f(a){x=a;while a{a=a-1;}out x;}");
        // LINE, COPY, BIND x, LABEL, LINE, ZERO, LINE, MINUS, COPY, BIND a, JUMP, LABEL, LINE, OUT, RETURN.
        due(List.of(told(x, 0, 0, 0, 0), told(x, 0, 0, 0, 1), told(x, 0, 3, 0, 1), told(x, 0, 9, 0, 0), told(x, 0, 11, 0, 0)),
            List.of(List.of(2, 0, 0, 0, 0), List.of(1, 0, 0, 0, 0), List.of(2, 0, 0, 1, 0), List.of(13, 0, 0, 0, 0),
                List.of(2, 0, 0, 0, 0)));
        due(List.of(told(x, 0, 14, 0, 1), told(x, 0, 15, 0, 1)), List.of(List.of(2, 0, 0, 1, 0), List.of(11, 0, 0, 0, 0)));
        for (int i = 0; i < 5; i++) {
            x = Check.keeper("f(a,b){x=8" + "+-*=<".charAt(i) + "b;out 1;}");
            x.pass(1, 0);
            due(told(x, 0, 2, 0, 2), List.of(3 + i, 1, 2, 8, 1));
        }
        says("NONE if there is none such, or for another what.");
        int n = x.routine(0, 0);
        due(List.of(x.told(1, 0, 0, 0, 0), x.told(0, n + 1, 0, 0, 0), x.told(0, 0, 1, 0, 0), x.told(0, 0, 0, 3, 0),
            x.told(0, 0, 0, 0, 5)), List.of(-1, -1, -1, -1, -1));
        for (int one : BEYOND) {
            due(List.of(x.told(one, 0, 0, 0, 0), x.told(0, one, 0, 0, 0), x.told(0, 0, one, 0, 0), x.told(0, 0, 0, one, 0),
                x.told(0, 0, 0, 0, one)), List.of(-1, -1, -1, -1, -1));
        }
    }

    private static void pass() {
        Doc.section("Promise 10");
        says("A PASS is done on a routine (there is no run then): what it tells.");
        String text = "g(p){return p;}f(a,b){x=2*3;while a{x=b*b;y=b*b;y=g(b);a=a-1;}out x;}";
        // FOLD: 2 * 3 and COPY of it. DROP: y = b * b. MOVE: both b * b. ALIKE: the second. MELT: g. SHARE: a, b, x, y.
        int[] told = {2, 2, 2, 1, 1, 4};
        for (int kind = 0; kind < 6; kind++) {
            LineKeeper x = Check.keeper(text);
            x.start(1, 1, 1, 0, 0);
            due(List.of(kind, x.pass(kind, 1)), List.of(kind, told[kind]));
            due(List.of(run(x), x.go(0, 1)), List.of(List.of(-1, -1, -1, -1, -1, -1), -1));
        }
        says("NONE: there is no such pass or routine.");
        LineKeeper x = Check.keeper(text);
        x.start(1, 1, 1, 0, 0);
        due(List.of(x.pass(6, 0), x.pass(0, 2), x.run(0)), List.of(-1, -1, 0));
        for (int one : BEYOND) {
            due(List.of(x.pass(one, 0), x.pass(0, one), x.run(0)), List.of(-1, -1, 0));
        }
    }

    private static void start() {
        Doc.section("Promise 11");
        says("A run of a routine begins, a to d being its parameters, as many as it has.");
        LineKeeper x = Check.keeper("f(a,b){out a;out b;out c;}g(p,q,r,s){out s;}");
        due(List.of(x.start(0, 5, 6, 7, 8), run(x), x.stack(0, 0)), List.of(true, List.of(0, 0, 0, 0, 1, 0), 0));
        x.go(2, 99);
        due(List.of(x.printed(0), x.printed(1), x.printed(2), x.run(1)), List.of(5, 6, 0, 3));
        due(List.of(x.start(1, 5, 6, 7, 8), run(x), x.stack(0, 0), x.value(0, 0), x.value(0, 1), x.value(0, 2), x.value(0, 3)),
            List.of(true, List.of(0, 0, 0, 0, 1, 0), 1, 5, 6, 7, 8));
        says("False: there is no such routine.");
        x.go(0, 9);
        for (int r : new int[] {2, -1, MAX, MIN}) {
            due(List.of(x.start(r, 1, 1, 1, 1), run(x)), List.of(false, List.of(1, 0, 1, 0, 1, 0)));
        }
    }

    private static void go() {
        Doc.section("Promise 12");
        says("The run goes on by at most n ITEMS (1 .. 20000; MARKS, too), how 0: up to a LINE (it stands behind the mark then), 1:"
            + " up to a LINE at which the STACK is no deeper than now, 2: up to a LINE behind the end of the innermost frame of"
            + " now.");
        for (int melted = 0; melted < 2; melted++) {
            LineKeeper x = Check.keeper(SQUARES);
            if (melted == 1) {
                x.pass(4, 1);
            }
            x.start(1, 2, 0, 0, 0);
            // LINES 2, 3, 4, 1, 5, 6, 3, ..: with how 1 from 4 to 5, with how 2 from 1 to 5.
            due(List.of(x.go(0, 1), x.stack(0, 1), x.run(0), x.go(0, 99), x.go(0, 99), x.stack(0, 1)),
                List.of(1, 2, 1, 1, 1, 4));
            due(List.of(x.go(1, 99), x.stack(0, 1), x.run(4)), List.of(1, 5, 1));
            due(List.of(x.go(1, 99), x.go(1, 99), x.go(1, 99), x.go(0, 99), x.stack(0, 1), x.run(4)),
                List.of(1, 1, 1, 1, 1, 2));
            due(List.of(x.go(2, 99), x.stack(0, 1), x.run(4)), List.of(1, 5, 1));
            due(List.of(x.go(2, 20000), x.printed(0)), List.of(0, 5));
        }
        says("Told 1: it stopped so; 2: n were gone; 0: the run is over (or was); 3: it FAILED (or had).");
        LineKeeper x = Check.keeper("f(a){out a;while a{a=f(a);}}");
        x.start(0, 0, 0, 0, 0);
        // LINE, OUT, LABEL, LINE, ZERO, LABEL, RETURN.
        due(List.of(x.go(0, 1), x.go(0, 2), x.run(2), x.go(0, 1), x.go(2, 2), x.go(2, 1), x.go(2, 1), x.run(2)),
            List.of(1, 2, 3, 1, 2, 0, 0, 7));
        x.start(0, 1, 0, 0, 0);
        due(List.of(x.go(2, 20000), x.go(0, 1), x.go(1, 7), x.run(5)), List.of(3, 3, 3, 1));
        says("NONE: there was no start(), another how or n.");
        for (int one : new int[] {-1, 3, MAX, MIN}) {
            due(x.go(one, 1), -1);
        }
        for (int one : new int[] {0, -1, 20001, MAX, MIN}) {
            due(x.go(0, one), -1);
        }
        due(List.of(Check.keeper("f(){}").go(0, 1), x.start(0, 1, 0, 0, 0), x.go(2, 20000), x.go(2, 1)),
            List.of(-1, true, 3, 3));
    }

    private static void stack() {
        Doc.section("Promise 13");
        says("Of frame k of the STACK, 0 the innermost, what 0: its routine, 1: its LINE, 2: how many names it has.");
        LineKeeper x = Check.keeper(SQUARES);
        for (int melted = 0; melted < 2; melted++) {
            x.start(1, 2, 0, 0, 0);
            for (int i = 0; i < 4; i++) {
                x.go(0, 99);
            }
            due(List.of(x.stack(0, 0), x.stack(0, 1), x.stack(0, 2), x.stack(1, 0), x.stack(1, 1), x.stack(1, 2)),
                List.of(0, 1, 1, 1, 4, 3));
            if (melted == 0) {
                x.pass(4, 1);
            }
        }
        says("NONE if there is none such (also when the run is over), or for another what.");
        due(List.of(x.stack(2, 0), x.stack(0, 3)), List.of(-1, -1));
        for (int one : BEYOND) {
            due(List.of(x.stack(one, 0), x.stack(0, one)), List.of(-1, -1));
        }
        due(List.of(x.go(2, 20000), x.go(2, 20000), x.stack(0, 0), x.stack(0, 1), x.stack(0, 2)), List.of(1, 0, -1, -1, -1));
        due(new LineKeeper().stack(0, 0), -1);
    }

    private static void known() {
        Doc.section("Promise 14");
        says("Of a name of frame k of the STACK: 1 if its value is told where the run stands (of frames behind a CALL: ahead of"
            + " that), else 10 and why it is GONE.");
        LineKeeper x = Check.keeper("g(p){out p;}f(a){x=a*5;out 1;y=x;if a{z=1;}w=a;a=2;b=g(a);}");
        x.pass(1, 1);
        x.start(1, 6, 0, 0, 0);
        while (x.run(4) < 2 && x.run(2) < 99) {
            x.go(2, 1);
        }
        // x as a * 5 and w as a are written over by a = 2; y was dropped; z is told by one way alone; b is still nought.
        due(List.of(x.known(0, 0), x.known(1, 0), x.known(1, 1), x.known(1, 2), x.known(1, 3), x.known(1, 4), x.known(1, 5)),
            List.of(1, 1, 13, 12, 14, 13, 1));
        due(List.of(x.go(2, 99), x.run(4)), List.of(0, 0));
        x.pass(4, 1);
        x.start(1, 6, 0, 0, 0);
        while (x.run(4) < 2 && x.run(2) < 99) {
            x.go(2, 1);
        }
        // Behind ENTER, ahead of its BIND.
        due(List.of(x.known(0, 0), x.go(2, 2), x.known(0, 0)), List.of(11, 2, 1));
        says("NONE if there is none such.");
        due(List.of(x.known(0, 1), x.known(1, 6), x.known(2, 0)), List.of(-1, -1, -1));
        for (int one : BEYOND) {
            due(List.of(x.known(one, 0), x.known(0, one)), List.of(-1, -1));
        }
        x.go(2, 99);
        due(List.of(x.run(0), x.known(0, 0), new LineKeeper().known(0, 0)), List.of(-1, -1, -1));
    }

    private static void value() {
        Doc.section("Promise 15");
        says("That value; 0 where it is not told.");
        LineKeeper x = Check.keeper("g(p){q=p<9;r=4;out q;out r;}f(a){b=a*5;c=7;out 1;d=b;a=g(a);}");
        x.pass(1, 1);
        x.pass(0, 0);
        x.start(1, 6, 0, 0, 0);
        for (int i = 0; i < 8; i++) {
            x.go(0, 99);
        }
        // At out q: p and q by REG, r by CONST 4; in f: a by REG, b and d by SUM and GONE, c by CONST 7.
        due(List.of(x.stack(0, 1), x.value(0, 0), x.value(0, 1), x.value(0, 2)), List.of(3, 6, 1, 4));
        due(List.of(x.stack(1, 1), x.value(1, 0), x.known(1, 1), x.value(1, 1), x.value(1, 2)), List.of(9, 6, 1, 30, 7));
        due(List.of(x.known(1, 3), x.value(1, 3)), List.of(12, 0));
        due(List.of(x.value(0, 3), x.value(2, 0), x.value(-1, 0), x.value(0, -1), x.value(MAX, MIN)), List.of(0, 0, 0, 0, 0));
        x.go(2, 99);
        x.go(2, 99);
        due(List.of(x.run(0), x.value(0, 0), new LineKeeper().value(0, 0)), List.of(-1, 0, 0));
    }

    private static void run() {
        Doc.section("Promise 16");
        says("Of the run, what 0: the ITEM ahead of which it stands (NONE when it is over), 1: how many numbers were printed, 2:"
            + " ITEMS that were gone, 3: what it returned (0 until then), 4: depth of the STACK, 5: 1 if it FAILED.");
        LineKeeper x = Check.keeper("f(a){out a;if a{b=f(a-1);}return a+5;}");
        x.start(0, 1, 0, 0, 0);
        due(run(x), List.of(0, 0, 0, 0, 1, 0));
        // LINE, OUT, LINE, ZERO, LINE, MINUS, CALL; then LINE, OUT.
        x.go(2, 9);
        due(run(x), List.of(2, 2, 9, 0, 2, 0));
        x.go(2, 20000);
        due(run(x), List.of(10, 2, 18, 0, 1, 0));
        x.go(2, 20000);
        due(run(x), List.of(-1, 2, 20, 6, 0, 0));
        x.start(0, -1, 0, 0, 0);
        x.go(2, 20000);
        // Nine frames of LINE, OUT, LINE, ZERO, LINE, MINUS, and eight CALLs.
        due(run(x), List.of(6, 9, 62, 0, 9, 1));
        says("NONE: there was no run, or another what.");
        due(List.of(run(new LineKeeper()), x.run(6), x.run(-1), x.run(MAX), x.run(MIN)),
            List.of(List.of(-1, -1, -1, -1, -1, -1), -1, -1, -1, -1));
    }

    private static void printed() {
        Doc.section("Promise 17");
        says("The i-th number that the run printed (the first 200).");
        LineKeeper x = Check.keeper("f(a){while a{out a*3;a=a-1;}}");
        x.start(0, 250, 0, 0, 0);
        x.go(2, 20000);
        due(List.of(x.run(1), x.printed(0), x.printed(1), x.printed(199), x.printed(200)), List.of(250, 750, 747, 153, 0));
        says("0 where there is none such.");
        x.start(0, 2, 0, 0, 0);
        due(x.printed(0), 0);
        x.go(2, 20000);
        due(List.of(x.printed(0), x.printed(1), x.printed(2), x.printed(-1), x.printed(MAX), x.printed(MIN)),
            List.of(6, 3, 0, 0, 0, 0));
    }

    private static void beside() {
        Doc.section("Promise 18");
        says("A run of a routine with a to d by its code, and THE PLAIN RUN of the text, side by side, by at most n ITEMS (1 .."
            + " 20000): how many LINES were begun by both, all alike (the STACK, each name that is told), and what was printed and"
            + " returned; -2 less how many were, if something was not.");
        LineKeeper x = Check.keeper(SQUARES);
        // LINE 2, 3; thrice 4, 1, 5, 6, 3; then 7.
        due(x.beside(1, 3, 0, 0, 0, 20000), 18);
        for (int kind : new int[] {4, 0, 1, 2, 3, 5}) {
            x.pass(kind, 1);
            due(List.of(x.beside(1, 3, 0, 0, 0, 20000), x.compared(2)), List.of(18, 1));
        }
        x = Check.keeper(SQUARES);
        // LINE, COPY, BIND, LABEL, LINE, ZERO, LINE, CALL, LINE.
        int[] lines = {1, 1, 1, 1, 2, 2, 3, 3, 4};
        for (int n = 1; n <= lines.length; n++) {
            due(List.of(n, x.beside(1, 3, 0, 0, 0, n), x.compared(2)), List.of(n, lines[n - 1], 0));
        }
        // c is told as REG of e, which MELT need not make 0; it has 1 of the last turn at the 11th LINE.
        x = Check.keeper("g(a){c=e;out a;e=1;out e;}f(n){while n{x=g(n);n=n-1;}}");
        x.pass(1, 0);
        x.pass(4, 1);
        due(List.of(x.beside(1, 3, 0, 0, 0, 500), x.compared(2)), List.of(-12, 0));
        says("NONE: there is no such routine, or another n.");
        for (int one : new int[] {-1, 2, MAX, MIN}) {
            due(x.beside(one, 0, 0, 0, 0, 5), -1);
        }
        for (int one : new int[] {0, -1, 20001, MAX, MIN}) {
            due(x.beside(0, 0, 0, 0, 0, one), -1);
        }
        says("(A run that there is stays.)");
        x.start(1, 2, 0, 0, 0);
        x.go(2, 14);
        List<Integer> before = run(x);
        due(List.of(x.beside(1, 1, 0, 0, 0, 500), run(x), before.get(2), x.printed(0), x.value(1, 0), x.go(2, 9)),
            List.of(8, before, 14, 2, 2, 2));
    }

    private static void compared() {
        Doc.section("Promise 19");
        says("Of the latest beside(), what 0: names that were told, 1: GONE, in all frames at all LINES; 2: 1 if it came to the end"
            + " of both, 2 if both FAILED, else 0.");
        LineKeeper x = Check.keeper("g(p){out p;}f(a){if a{b=1;}c=g(a);out b;}");
        // LINES 2, 3: a b c; 4, 5: b differs; 1 within 4: p, and the same of f.
        due(List.of(x.beside(1, 1, 0, 0, 0, 99), x.compared(0), x.compared(1), x.compared(2)), List.of(5, 13, 3, 1));
        due(List.of(x.beside(1, 1, 0, 0, 0, 1), x.compared(0), x.compared(1), x.compared(2)), List.of(1, 3, 0, 0));
        x = Check.keeper("f(a){a=f(a);}");
        due(List.of(x.beside(0, 7, 0, 0, 0, 99), x.compared(0), x.compared(1), x.compared(2)), List.of(9, 45, 0, 2));
        says("NONE ahead of any, or for another what.");
        due(List.of(Check.keeper("f(){}").compared(0), x.compared(3), x.compared(-1), x.compared(MAX), x.compared(MIN)),
            List.of(-1, -1, -1, -1, -1));
    }
}
