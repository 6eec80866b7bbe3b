import java.util.ArrayList;
import java.util.List;

/** Promises 1 to 10, edge by edge: what is asked below the first, at the first, at the last and beyond it. */
public final class EdgeFaceTest {
    private static final int MAX = Integer.MAX_VALUE;
    private static final int MIN = Integer.MIN_VALUE;
    /** g of one parameter and two names; f of two parameters and three names, with a call, an if and a while. */
    private static final String TEXT = "g(p){q=p+1;return q;}f(a,b){if a<b{c=g(a);}while b{b=b-1;}out c;}h(){}";

    public static void main(String[] args) {
        newObject();
        feedUpTo();
        feedBytes();
        feedTakesAll();
        endUpTo();
        endKeepsBytes();
        readEmpty();
        readMany();
        readAnew();
        readAgainAndAgain();
        readTakesTheTape();
        faultWhat();
        faultOfTheLatest();
        routineArguments();
        routineNames();
        routineRegisters();
        itemArguments();
        itemKinds();
        itemsOfChoices();
        itemOfBinds();
        itemOfCalls();
        frameArguments();
        toldArguments();
        toldWhats();
        passArguments();
        passEndsTheRun();
        manyCalls();
        Check.finish();
    }

    private static void due(String sentence, Object got, Object want) {
        Check.due(sentence, got, want);
    }

    private static void newObject() {
        int[] edges = {0, -1, 1, 5, MAX, MIN};
        for (int i : edges) {
            for (int j : edges) {
                LineKeeper x = new LineKeeper();
                due("Promise 1: no routines", List.of(x.routine(i, j), x.item(i, j, 0), x.item(0, i, j), x.frame(i, j, 0),
                    x.frame(0, i, j), x.told(i, j, 0, 0, 0), x.told(0, 0, i, j, 0), x.pass(i, j)),
                    List.of(-1, -1, -1, -1, -1, -1, -1, -1));
                due("Promise 1: no run", List.of(x.go(i, j), x.stack(i, j), x.known(i, j), x.run(i), x.compared(i),
                    x.beside(i, 0, 0, 0, 0, j), x.start(i, j, 0, 0, 0)), List.of(-1, -1, -1, -1, -1, -1, false));
                due("Promise 1: OUT is empty, nothing is told", List.of(x.printed(i), x.value(i, j)), List.of(0, 0));
            }
        }
        LineKeeper x = new LineKeeper();
        due("Promise 1: the tape is empty", List.of(x.end(1), x.end(0), x.read()), List.of(-1, 0, 0));
        due("Promise 1: NONE", LineKeeper.NONE, -1);
    }

    private static void feedUpTo() {
        for (int cut = 0; cut <= 20; cut++) {
            LineKeeper x = new LineKeeper();
            for (int i = 1; i <= 60; i++) {
                due("Promise 2: how many it has", x.feed(i, i, i, i, i), 20 * i);
            }
            due("Promise 2: full", List.of(x.feed(0, 0, 0, 0, 0), x.feed(MAX, MIN, 0, -1, 1)), List.of(-1, -1));
            x.end(1200 - cut);
            due("Promise 2: at " + (1200 - cut), x.feed(0, 0, 0, 0, 0), cut < 20 ? -1 : 1200);
            due("Promise 2: nothing came", x.end(1201 - cut), cut < 20 ? -1 : 1181);
        }
    }

    private static void feedBytes() {
        LineKeeper x = new LineKeeper();
        // "f(){" "out " "0123" "456;" "}   ", of each number the highest first.
        x.feed(0x6628297b, 0x6f757420, 0x30313233, 0x3435363b, 0x7d202020);
        due("Promise 2: of each number the highest first", List.of(x.read(), x.item(0, 1, 5)), List.of(1, 123456));
        x.feed(-1, -1, -1, -1, -1);
        due("Promise 2: bytes of 255", List.of(x.read(), x.fault(0), x.fault(1)), List.of(-1, 1, 0));
        // The highest bit of a byte is its own.
        x.feed(0x662829fb, 0x7d202020, 0x20202020, 0x20202020, 0x20202020);
        due("Promise 2: a byte of 251", List.of(x.read(), x.fault(0), x.fault(1)), List.of(-1, 1, 3));
    }

    private static void feedTakesAll() {
        LineKeeper x = new LineKeeper();
        for (int i = 0; i < 60; i++) {
            x.feed(0x20202020, 0x20202020, 0x20202020, 0x20202020, i == 59 ? 0x28297b7d : 0x20202020);
        }
        x.feed(-1, -1, -1, -1, -1);
        due("Promise 2: refused bytes did not come, the last ones stand", List.of(x.read(), x.fault(1)), List.of(-1, 1196));
    }

    private static void endUpTo() {
        LineKeeper x = new LineKeeper();
        due("Promise 3: an empty tape", List.of(x.end(-1), x.end(0), x.end(1)), List.of(-1, 0, -1));
        x.feed(0, 0, 0, 0, 0);
        due("Promise 3: it has not so many", List.of(x.end(21), x.end(1200), x.end(MAX)), List.of(-1, -1, -1));
        due("Promise 3: below 0", List.of(x.end(-1), x.end(MIN)), List.of(-1, -1));
        due("Promise 3: all of it", List.of(x.end(20), x.end(20)), List.of(20, 20));
        due("Promise 3: fewer", List.of(x.end(19), x.end(20), x.end(19), x.end(1), x.end(2), x.end(0), x.end(1)),
            List.of(19, -1, 19, 1, -1, 0, -1));
    }

    private static void endKeepsBytes() {
        LineKeeper x = new LineKeeper();
        x.feed(0x6628297b, 0x7d212121, 0x21212121, 0x21212121, 0x21212121);
        x.end(21);
        x.end(-1);
        due("Promise 3: its first n bytes alone", List.of(x.end(5), x.read(), x.routine(0, 0)), List.of(5, 1, 1));
        x.feed(0x6628297b, 0x7d212121, 0x21212121, 0x21212121, 0x21212121);
        due("Promise 3: one more", List.of(x.end(6), x.read(), x.fault(1)), List.of(6, -1, 5));
        x.feed(0x6628297b, 0x7d212121, 0x21212121, 0x21212121, 0x21212121);
        due("Promise 3: one fewer", List.of(x.end(4), x.read(), x.fault(1)), List.of(4, -1, 4));
        x.feed(0x66282121, 0x21212121, 0x21212121, 0x21212121, 0x21212121);
        x.end(2);
        due("Promise 3: more comes behind those", x.feed(0x297b7d20, 0x20202020, 0x20202020, 0x20202020, 0x20202020), 22);
        due("Promise 3: they are one text", x.read(), 1);
    }

    private static void readEmpty() {
        LineKeeper x = Check.keeper(TEXT);
        x.start(0, 1, 0, 0, 0);
        due("Promise 4: an empty text has no routines", x.read(), 0);
        due("Promise 4: there are none then", List.of(x.routine(0, 0), x.start(0, 0, 0, 0, 0), x.pass(0, 0), x.run(0)),
            List.of(-1, false, -1, -1));
        due("Promise 5: without a FAULT", List.of(x.fault(0), x.fault(1)), List.of(0, -1));
    }

    private static void readMany() {
        StringBuilder text = new StringBuilder();
        for (int n = 1; n <= 6; n++) {
            text.append((char) ('a' + n)).append("(){out ").append(n).append(";}");
            LineKeeper x = Check.keeper(text.toString());
            due("Promise 4: how many routines", List.of(x.routine(n - 1, 6), x.routine(n, 6)), List.of(n, -1));
        }
    }

    private static void readAnew() {
        LineKeeper x = Check.keeper(TEXT);
        x.pass(4, 1);
        x.pass(1, 1);
        x.start(1, 3, 4, 0, 0);
        x.go(0, 20);
        Check.tape(x, TEXT);
        due("Promise 4: read anew", x.read(), 3);
        due("Promise 4: their code is MADE", Check.items(x, 1), Check.items(Check.keeper(TEXT), 1));
        due("Promise 4: FRAMES", List.of(x.routine(1, 5), x.frame(1, 1, 0)), List.of(1, -1));
        due("Promise 4: there is no run then", List.of(x.run(0), x.go(0, 1), x.stack(0, 0), x.known(0, 0), x.printed(0)),
            List.of(-1, -1, -1, -1, 0));
        due("Promise 18: the plain run of the new text", List.of(x.beside(0, 1, 0, 0, 0, 50), x.compared(2)),
            List.of(2, 1));
    }

    /** Nothing of an earlier text, nor of one with a FAULT, stands in the code of a later one. */
    private static void readAgainAndAgain() {
        String[] texts = {"f(a,b,c,d){x=f(1,2,3,4);y=a*b;}g(a){while a{a=a-1;}}", "f(){}g(){}", "f(a,b,c,d){x=1;out y+z",
            "f(a){if a{}else{}x=g();}g(){out 1;}", "f(a,b,c,d){}f(){}", "f(){out 1+2;x=g(3);}g(p){return p;}", TEXT, "f(){}"};
        LineKeeper x = new LineKeeper();
        for (String text : texts) {
            LineKeeper y = new LineKeeper();
            Check.tape(x, text);
            Check.tape(y, text);
            int got = x.read();
            due("Promise 4: again and again " + text, got, y.read());
            for (int r = 0; r < got; r++) {
                due("Promise 4: the code of " + text, wholes(x, r), wholes(y, r));
            }
        }
    }

    private static List<Integer> wholes(LineKeeper x, int r) {
        List<Integer> list = new ArrayList<>();
        for (int what = 0; what < 20; what++) {
            list.add(x.routine(r, what));
        }
        for (int k = 0; k < x.routine(r, 0); k++) {
            list.addAll(whole(x, r, k));
        }
        return list;
    }

    private static void readTakesTheTape() {
        LineKeeper x = Check.keeper(TEXT);
        due("the tape is empty behind each call that takes it", List.of(x.end(1), x.feed(0, 0, 0, 0, 0)), List.of(-1, 20));
        due("also behind a FAULT", List.of(x.read(), x.end(1), x.feed(0, 0, 0, 0, 0)), List.of(-1, -1, 20));
        x.end(0);
        due("an empty tape is taken, too", List.of(x.read(), x.read(), x.fault(0)), List.of(0, 0, 0));
    }

    private static void faultWhat() {
        LineKeeper x = new LineKeeper();
        due("Promise 5: ahead of any read()", List.of(x.fault(0), x.fault(1)), List.of(0, -1));
        for (String text : new String[] {"", "f(){", "f(){}f(){}", "f(){x=g();}", "f(a){x=f();}", "f(a,b,c,d,e){}"}) {
            Check.tape(x, text);
            x.read();
            due("Promise 5: another what", List.of(x.fault(2), x.fault(-1), x.fault(MAX), x.fault(MIN)),
                List.of(-1, -1, -1, -1));
        }
    }

    private static void faultOfTheLatest() {
        LineKeeper x = new LineKeeper();
        String[] texts = {"f(){", "f(){}f(){}", "f(){}", "f(){x=g();}", "", "f(a){x=f();}", "f(a,b,c,d,e){}", "f(){}"};
        int[] faults = {1, 2, 0, 3, 0, 4, 5, 0};
        int[] places = {4, 5, -1, 6, -1, 7, 10, -1};
        for (int i = 0; i < texts.length; i++) {
            Check.tape(x, texts[i]);
            x.read();
            due("Promise 5: of the latest read() " + texts[i], List.of(x.fault(0), x.fault(1)), List.of(faults[i], places[i]));
            x.feed(0, 0, 0, 0, 0);
            x.end(0);
            x.pass(0, 0);
            x.start(0, 0, 0, 0, 0);
            due("Promise 5: other calls leave it", List.of(x.fault(0), x.fault(1)), List.of(faults[i], places[i]));
        }
    }

    private static void routineArguments() {
        LineKeeper x = Check.keeper(TEXT);
        for (int what = 0; what < 20; what++) {
            due("Promise 6: none such", List.of(x.routine(-1, what), x.routine(3, what), x.routine(MAX, what),
                x.routine(MIN, what)), List.of(-1, -1, -1, -1));
        }
        due("Promise 6: another what", List.of(x.routine(0, -1), x.routine(0, MIN), x.routine(0, MAX), x.routine(0, 9),
            x.routine(1, 10), x.routine(2, 7)), List.of(-1, -1, -1, -1, -1, -1));
        due("Promise 6: the last what", List.of(x.routine(0, 8), x.routine(1, 9), x.routine(2, 6)), List.of(1, 2, 0));
        List<Integer> got = new ArrayList<>();
        for (int what = 0; what < 10; what++) {
            got.add(x.routine(1, what));
        }
        // LINE LESS ZERO LINE CALL BIND LABEL | LABEL LINE ZERO LINE MINUS COPY BIND JUMP LABEL | LINE OUT RETURN.
        due("Promise 6: of f", got, List.of(19, 9, 3, 2, 5, 1, 3, 0, 1, 2));
    }

    private static void routineNames() {
        LineKeeper x = Check.keeper("f(a,b,c,d){e=g+h+i+j+k+l+m;}");
        due("Promise 6: twelve names", List.of(x.routine(0, 2), x.routine(0, 18), x.routine(0, 19)), List.of(12, 11, -1));
        x = Check.keeper("f(){}g(f,g){x=f();x=g(1,2);}");
        due("Promise 6: routines that are called are no names", x.routine(1, 2), 3);
        x = Check.keeper("f(){out f;}g(){x=f();f=1;}");
        due("Promise 6: but they are where they stand otherwise", List.of(x.routine(0, 2), x.routine(1, 2)), List.of(1, 2));
        due("Promise 6: in the order as they come", Check.items(x, 1).subList(0, 6), List.of("LINE 2 in 0", "CALL r0 f0",
            "BIND 0.0 r0", "LINE 3 in 0", "COPY r1 1", "BIND 0.1 r1"));
        x = Check.keeper("f(b){a=b;c=d;}");
        due("Promise 6: a name that is assigned comes ahead of its E", Check.items(x, 0), List.of("LINE 1 in 0",
            "COPY r1 r0", "BIND 0.1 r1", "LINE 2 in 0", "COPY r2 r3", "BIND 0.2 r2", "RETURN 0"));
    }

    private static void routineRegisters() {
        due("Promise 6: no REGISTER", Check.keeper("f(){out 1;}").routine(0, 4), 0);
        due("Promise 6: the greatest is a name's that stands in no ITEM", Check.keeper("f(a,b,c,d){}").routine(0, 4), 4);
        due("Promise 6: the greatest stands in an ITEM", Check.keeper("f(a){out a+1;}").routine(0, 4), 2);
        LineKeeper x = Check.keeper("f(a){x=a*a+1;out 1;}");
        due("Promise 6: REGISTERS ahead of DROP", x.routine(0, 4), 4);
        x.pass(1, 0);
        due("Promise 6: those of DROP went", x.routine(0, 4), 2);
        x = Check.keeper("g(p,q){}f(a){x=g(a,1);}");
        x.pass(4, 1);
        due("Promise 6: a name's of a FRAME", x.routine(1, 4), 4);
        x.pass(1, 1);
        due("Promise 6: also when it stands in no ITEM", List.of(x.routine(1, 4), x.routine(1, 5)), List.of(4, 2));
    }

    private static void itemArguments() {
        LineKeeper x = Check.keeper(TEXT);
        for (int what = 0; what < 8; what++) {
            due("Promise 7: none such", List.of(x.item(0, -1, what), x.item(0, 7, what), x.item(0, MAX, what),
                x.item(0, MIN, what), x.item(-1, 0, what), x.item(3, 0, what), x.item(MAX, 0, what), x.item(MIN, 0, what)),
                List.of(-1, -1, -1, -1, -1, -1, -1, -1));
            due("Promise 7: the first and the last", List.of(x.item(0, 0, what) >= 0, x.item(0, 6, what) >= 0),
                List.of(true, true));
        }
        due("Promise 7: another what", List.of(x.item(0, 0, 8), x.item(0, 0, -1), x.item(0, 0, MAX), x.item(0, 0, MIN)),
            List.of(-1, -1, -1, -1));
    }

    private static List<Integer> whole(LineKeeper x, int r, int k) {
        List<Integer> list = new ArrayList<>();
        for (int what = 0; what < 8; what++) {
            list.add(x.item(r, k, what));
        }
        return list;
    }

    private static void itemKinds() {
        LineKeeper x = Check.keeper("f(a){b=a+1;b=a-1;b=2*a;b=a=3;b=a<b;out b;out 9;while a{return 4;}return a;}");
        int[][] whole = {
            {11, 1, 0, 0, 0, 0, 0, 0}, {1, 2, 0, 2, 1, 0, 1, 0}, {0, 1, 0, 2, 0, 2, 0, 0}, {12, 1, 0, 0, 0, 1, 0, 2},
            {11, 2, 0, 0, 0, 0, 0, 0}, {2, 3, 0, 2, 1, 0, 1, 0}, {0, 1, 0, 2, 0, 3, 0, 0}, {12, 1, 0, 0, 0, 1, 0, 2},
            {11, 3, 0, 0, 0, 0, 0, 0}, {3, 4, 0, 1, 2, 2, 0, 0}, {0, 1, 0, 2, 0, 4, 0, 0}, {12, 1, 0, 0, 0, 1, 0, 2},
            {11, 4, 0, 0, 0, 0, 0, 0}, {4, 5, 0, 2, 1, 0, 3, 0}, {0, 1, 0, 2, 0, 5, 0, 0}, {12, 1, 0, 0, 0, 1, 0, 2},
            {11, 5, 0, 0, 0, 0, 0, 0}, {5, 6, 0, 2, 2, 0, 1, 0}, {0, 1, 0, 2, 0, 6, 0, 0}, {12, 1, 0, 0, 0, 1, 0, 2},
            {11, 6, 0, 0, 0, 0, 0, 0}, {6, 0, 0, 2, 0, 1, 0, 0}, {11, 7, 0, 0, 0, 0, 0, 0}, {6, 0, 0, 1, 0, 9, 0, 0},
            {13, 0, 0, 0, 0, 0, 0, 0}, {11, 8, 0, 0, 0, 0, 0, 0}, {9, 1, 0, 2, 0, 0, 0, 0}, {11, 9, 0, 0, 0, 0, 0, 0},
            {7, 0, 0, 1, 0, 4, 0, 0}, {8, 0, 0, 0, 0, 0, 0, 0}, {13, 1, 0, 0, 0, 0, 0, 0}, {11, 10, 0, 0, 0, 0, 0, 0},
            {7, 0, 0, 2, 0, 0, 0, 0}, {7, 0, 0, 1, 0, 0, 0, 0}};
        due("Promise 7: ITEMS", x.routine(0, 0), whole.length);
        for (int k = 0; k < whole.length; k++) {
            List<Integer> want = new ArrayList<>();
            for (int one : whole[k]) {
                want.add(one);
            }
            due("Promise 7: each what of ITEM " + k, whole(x, 0, k), want);
        }
    }

    private static void itemOfBinds() {
        LineKeeper x = Check.keeper("f(a,b){x=a+b;x=a-2;x=3*b;x=a=b;x=a<b;x=a;x=-7;x=b+1;out 1;y=x;}");
        x.pass(1, 0);
        List<List<Integer>> got = new ArrayList<>();
        for (int k = 0; k < x.routine(0, 0); k++) {
            if (x.item(0, k, 0) == 12) {
                got.add(whole(x, 0, k));
            }
        }
        due("Promise 7: BINDs: SUMS, REG, a SUM of CONSTS, GONE 2", got, List.of(
            List.of(12, 2, 0, 2, 2, 0, 1, 3), List.of(12, 2, 0, 2, 1, 0, 2, 4), List.of(12, 2, 0, 1, 2, 3, 1, 5),
            List.of(12, 2, 0, 2, 2, 0, 1, 6), List.of(12, 2, 0, 2, 2, 0, 1, 7), List.of(12, 2, 0, 0, 0, 0, 0, 2),
            List.of(12, 2, 0, 1, 1, 0, 7, 4), List.of(12, 2, 0, 2, 1, 1, 1, 3), List.of(12, 3, 0, 0, 0, 0, 0, 12)));
        x = Check.keeper("g(p){q=5;}f(a){x=g(a);}");
        x.pass(0, 0);
        x.pass(4, 1);
        due("Promise 7: BINDs of a FRAME: REG and CONST 0", List.of(whole(x, 1, 1), whole(x, 1, 3), whole(x, 1, 4)),
            List.of(List.of(14, 1, 0, 0, 0, 0, 0, 0), List.of(12, 0, 1, 0, 0, 2, 0, 2), List.of(12, 1, 1, 0, 0, 0, 0, 1)));
        due("Promise 7: LINE and BIND in a FRAME", List.of(whole(x, 1, 5), whole(x, 1, 7)),
            List.of(List.of(11, 1, 1, 0, 0, 0, 0, 0), List.of(12, 1, 1, 0, 0, 5, 0, 1)));
        due("Promise 7: LEAVE", whole(x, 1, 11), List.of(15, 1, 0, 0, 0, 0, 0, 0));
    }

    private static void itemsOfChoices() {
        LineKeeper x = Check.keeper("f(a){if a{}else{}if a{}}");
        int[][] whole = {
            {11, 1, 0, 0, 0, 0, 0, 0}, {9, 0, 0, 2, 0, 0, 0, 0}, {8, 1, 0, 0, 0, 0, 0, 0}, {13, 0, 0, 0, 0, 0, 0, 0},
            {13, 1, 0, 0, 0, 0, 0, 0}, {11, 2, 0, 0, 0, 0, 0, 0}, {9, 2, 0, 2, 0, 0, 0, 0}, {13, 2, 0, 0, 0, 0, 0, 0},
            {7, 0, 0, 1, 0, 0, 0, 0}};
        for (int k = 0; k < whole.length; k++) {
            List<Integer> want = new ArrayList<>();
            for (int one : whole[k]) {
                want.add(one);
            }
            due("Promise 7: each what of ITEM " + k + " of choices", whole(x, 0, k), want);
        }
    }

    private static void itemOfCalls() {
        LineKeeper x = Check.keeper("f(){x=f();y=g(7);z=h(8,z,9);}g(a){}h(a,b,c){}");
        due("Promise 7: CALL without E", whole(x, 0, 1), List.of(10, 0, 0, 0, 0, 0, 0, 0));
        due("Promise 7: CALL of one", whole(x, 0, 4), List.of(10, 1, 1, 1, 0, 7, 0, 0));
        due("Promise 7: CALL of three, its first two", whole(x, 0, 7), List.of(10, 2, 2, 1, 2, 8, 2, 0));
        x = Check.keeper("h(a,b,c){}f(){z=h(8,z,9);y=g(7);x=f();}g(a){}");
        due("Promise 7: CALL of one behind that", whole(x, 1, 4), List.of(10, 1, 2, 1, 0, 7, 0, 0));
        due("Promise 7: CALL without E behind that", whole(x, 1, 7), List.of(10, 2, 1, 0, 0, 0, 0, 0));
    }

    private static void frameArguments() {
        LineKeeper x = Check.keeper(TEXT);
        due("Promise 8: FRAME 0", List.of(x.frame(1, 0, 0), x.frame(1, 0, 1), x.frame(1, 0, 2)), List.of(1, -1, 0));
        due("Promise 8: none melted in", List.of(x.frame(1, 1, 0), x.frame(1, 1, 1), x.frame(1, 1, 2)), List.of(-1, -1, -1));
        x.pass(4, 1);
        due("Promise 8: FRAME 1", List.of(x.frame(1, 1, 0), x.frame(1, 1, 1), x.frame(1, 1, 2)), List.of(0, 0, 4));
        due("Promise 8: FRAME 0 as ever", List.of(x.frame(1, 0, 0), x.frame(1, 0, 1), x.frame(1, 0, 2)), List.of(1, -1, 0));
        due("Promise 8: none such", List.of(x.frame(1, 2, 0), x.frame(1, -1, 0), x.frame(1, MAX, 0), x.frame(1, MIN, 0),
            x.frame(-1, 0, 0), x.frame(3, 0, 0), x.frame(MAX, 0, 0), x.frame(MIN, 0, 0)),
            List.of(-1, -1, -1, -1, -1, -1, -1, -1));
        due("Promise 8: another what", List.of(x.frame(1, 1, 3), x.frame(1, 1, -1), x.frame(1, 1, MAX), x.frame(1, 1, MIN)),
            List.of(-1, -1, -1, -1));
    }

    private static void toldArguments() {
        LineKeeper x = Check.keeper(TEXT);
        x.pass(4, 1);
        int n = x.routine(1, 0);
        for (int what = 0; what < 5; what++) {
            due("Promise 9: none such routine or ITEM", List.of(x.told(-1, 0, 0, 0, what), x.told(3, 0, 0, 0, what),
                x.told(MAX, 0, 0, 0, what), x.told(1, -1, 0, 0, what), x.told(1, n + 1, 0, 0, what),
                x.told(1, MAX, 0, 0, what), x.told(1, MIN, 0, 0, what)), List.of(-1, -1, -1, -1, -1, -1, -1));
            due("Promise 9: none such FRAME or name", List.of(x.told(1, 0, -1, 0, what), x.told(1, 0, 2, 0, what),
                x.told(1, 0, MAX, 0, what), x.told(1, 0, MIN, 0, what), x.told(1, 0, 0, 3, what), x.told(1, 0, 1, 2, what),
                x.told(1, 0, 0, -1, what), x.told(1, 0, 0, MAX, what), x.told(2, 0, 0, 0, what)),
                List.of(-1, -1, -1, -1, -1, -1, -1, -1, -1));
            due("Promise 9: the last of each", List.of(x.told(1, n, 0, 2, what) >= 0, x.told(1, n, 1, 1, what) >= 0,
                x.told(1, 0, 1, 1, what) >= 0, x.told(0, 7, 0, 1, what) >= 0), List.of(true, true, true, true));
        }
        due("Promise 9: another what", List.of(x.told(1, 0, 0, 0, 5), x.told(1, 0, 0, 0, -1), x.told(1, 0, 0, 0, MAX),
            x.told(1, 0, 0, 0, MIN)), List.of(-1, -1, -1, -1));
    }

    private static List<Integer> told(LineKeeper x, int r, int k, int f, int name) {
        List<Integer> list = new ArrayList<>();
        for (int what = 0; what < 5; what++) {
            list.add(x.told(r, k, f, name, what));
        }
        return list;
    }

    private static void toldWhats() {
        LineKeeper x = Check.keeper("f(a,b){x=b-4;y=9;out y;b=y;z=w;out b;}");
        x.pass(1, 0);
        due("Promise 9: REG of a parameter", told(x, 0, 0, 0, 1), List.of(2, 0, 0, 1, 0));
        due("Promise 9: CONST 0", told(x, 0, 0, 0, 2), List.of(1, 0, 0, 0, 0));
        due("Promise 9: a SUM", told(x, 0, 2, 0, 2), List.of(4, 2, 1, 1, 4));
        due("Promise 9: GONE 3", told(x, 0, 9, 0, 2), List.of(13, 0, 0, 0, 0));
        due("Promise 9: REG by a BIND", told(x, 0, 5, 0, 3), List.of(2, 0, 0, 3, 0));
        x.pass(0, 0);
        due("Promise 9: CONST by a BIND", told(x, 0, 5, 0, 3), List.of(1, 0, 0, 9, 0));
    }

    private static void passArguments() {
        LineKeeper x = Check.keeper(TEXT);
        due("Promise 10: no such pass", List.of(x.pass(-1, 0), x.pass(6, 0), x.pass(MAX, 0), x.pass(MIN, 0)),
            List.of(-1, -1, -1, -1));
        for (int kind = 0; kind < 6; kind++) {
            due("Promise 10: no such routine", List.of(x.pass(kind, -1), x.pass(kind, 3), x.pass(kind, MAX),
                x.pass(kind, MIN)), List.of(-1, -1, -1, -1));
            due("Promise 10: the last routine", x.pass(kind, 2), 0);
        }
    }

    private static void passEndsTheRun() {
        for (int kind = 0; kind < 6; kind++) {
            LineKeeper x = Check.keeper(TEXT);
            x.start(0, 1, 0, 0, 0);
            x.go(0, 5);
            due("Promise 10: of another routine, with nothing to do", x.pass(kind, 2), 0);
            due("Promise 10: there is no run then", List.of(x.run(0), x.run(2), x.go(0, 1), x.stack(0, 0), x.known(0, 0),
                x.value(0, 0)), List.of(-1, -1, -1, -1, -1, 0));
        }
    }

    private static void manyCalls() {
        LineKeeper x = Check.keeper("f(a){while a{out a;a=a-1;}}");
        x.start(0, 300, 0, 0, 0);
        // feed, feed, end, read, start and these are 512 calls.
        for (int i = 0; i < 506; i++) {
            due("512 calls: " + i, x.go(0, 99), 1);
        }
        due("512 calls: the last, two LINES into the 169th turn", x.run(1), 168);
    }
}
