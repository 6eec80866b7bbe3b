import java.util.List;

/** Promises 4 and 6 to 9: code as it is made, and how routine, item, frame, told show it. */
public final class CodeTest {
    public static void main(String[] args) {
        made();
        routines();
        items();
        frames();
        tellings();
        Check.finish();
    }

    private static void made() {
        LineKeeper x = Check.keeper("g(n){return n*n;}f(k){s=0;while k{t=g(k);s=s+t;k=k-1;}out s;}");
        Check.due("4 return", Check.items(x, 0), Check.lines(
            "LINE 1 in 0", "TIMES r1 r0 r0", "RETURN r1", "RETURN 0"));
        Check.due("4 while, call", Check.items(x, 1), Check.lines(
            "LINE 2 in 0", "COPY r1 0", "BIND 0.1 r1",
            "LABEL L0", "LINE 3 in 0", "ZERO r0 L1",
            "LINE 4 in 0", "CALL r2 f0 r0", "BIND 0.2 r2",
            "LINE 5 in 0", "PLUS r3 r1 r2", "COPY r1 r3", "BIND 0.1 r1",
            "LINE 6 in 0", "MINUS r4 r0 1", "COPY r0 r4", "BIND 0.0 r0",
            "JUMP L0", "LABEL L1", "LINE 7 in 0", "OUT r1", "RETURN 0"));
        x = Check.keeper("f(a){if a<1{if a{}b=1;}else{while b=a{}}if 2{}out -a*(-3+b);}");
        Check.due("4 if, else, labels by need, minus of one", Check.items(x, 0), Check.lines(
            "LINE 1 in 0", "LESS r2 r0 1", "ZERO r2 L0",
            "LINE 2 in 0", "ZERO r0 L1", "LABEL L1",
            "LINE 3 in 0", "COPY r1 1", "BIND 0.1 r1",
            "JUMP L2", "LABEL L0",
            "LABEL L3", "LINE 4 in 0", "EQUAL r3 r1 r0", "ZERO r3 L4", "JUMP L3", "LABEL L4",
            "LABEL L2",
            "LINE 5 in 0", "ZERO 2 L5", "LABEL L5",
            "LINE 6 in 0", "MINUS r4 0 r0", "MINUS r5 0 3", "PLUS r6 r5 r1", "TIMES r7 r4 r6", "OUT r7", "RETURN 0"));
        x = Check.keeper("f(a,b,c,d){d=f(d,c+1,7,-b);}");
        Check.due("4 all E ahead of the CALL", Check.items(x, 0), Check.lines(
            "LINE 1 in 0", "PLUS r4 r2 1", "MINUS r5 0 r1", "CALL r3 f0 r3 r4", "BIND 0.3 r3", "RETURN 0"));
        x = Check.keeper("f(){x=a-b-c=d*e*g+1;}");
        Check.due("4 from the left, E of S and S", Check.items(x, 0), Check.lines(
            "LINE 1 in 0", "MINUS r7 r1 r2", "MINUS r8 r7 r3", "TIMES r9 r4 r5", "TIMES r10 r9 r6", "PLUS r11 r10 1",
            "EQUAL r12 r8 r11", "COPY r0 r12", "BIND 0.0 r0", "RETURN 0"));
    }

    private static void routines() {
        LineKeeper x = Check.keeper("e(){}f(a,b){x=a+b;out x;return x*2;}");
        int[] want = {10, 6, 3, 2, 5, 1, 1, 0, 1, 2, -1, -1};
        for (int what = 0; what < want.length; what++) {
            Check.due("6 routine(1, " + what + ")", x.routine(1, what), want[what]);
        }
        int[] empty = {1, 1, 0, 0, 0, 1, 0, -1};
        for (int what = 0; what < empty.length; what++) {
            Check.due("6 routine(0, " + what + ")", x.routine(0, what), empty[what]);
        }
        int[] wrong = {-1, Integer.MIN_VALUE, Integer.MAX_VALUE, 19};
        for (int what : wrong) {
            Check.due("6 another what " + what, x.routine(1, what), -1);
        }
        for (int r : new int[] {-1, 2, 6, Integer.MAX_VALUE, Integer.MIN_VALUE}) {
            Check.due("6 no routine " + r, List.of(x.routine(r, 0), x.routine(r, 7)), List.of(-1, -1));
        }
        x = Check.keeper("e(){}f(a,b){out 1;}g(){out 2;}");
        Check.due("6 first LINES", List.of(x.routine(0, 6), x.routine(1, 6), x.routine(2, 6)), List.of(0, 1, 2));
    }

    private static List<Integer> cells(LineKeeper x, int r, int k) {
        return List.of(x.item(r, k, 0), x.item(r, k, 1), x.item(r, k, 2), x.item(r, k, 3), x.item(r, k, 4),
            x.item(r, k, 5), x.item(r, k, 6), x.item(r, k, 7));
    }

    private static void items() {
        LineKeeper x = Check.keeper("f(a,b){while a{x=a-3;}out 5<b;x=f(4,b);if x{return x;}}");
        int[][] want = {{13, 0, 0, 0, 0, 0, 0, 0}, {11, 1, 0, 0, 0, 0, 0, 0}, {9, 1, 0, 2, 0, 0, 0, 0},
            {11, 2, 0, 0, 0, 0, 0, 0}, {2, 3, 0, 2, 1, 0, 3, 0}, {0, 2, 0, 2, 0, 3, 0, 0}, {12, 2, 0, 0, 0, 2, 0, 2},
            {8, 0, 0, 0, 0, 0, 0, 0}, {13, 1, 0, 0, 0, 0, 0, 0}, {11, 3, 0, 0, 0, 0, 0, 0}, {5, 4, 0, 1, 2, 5, 1, 0},
            {6, 0, 0, 2, 0, 4, 0, 0}, {11, 4, 0, 0, 0, 0, 0, 0}, {10, 2, 0, 1, 2, 4, 1, 0}, {12, 2, 0, 0, 0, 2, 0, 2},
            {11, 5, 0, 0, 0, 0, 0, 0}, {9, 2, 0, 2, 0, 2, 0, 0}, {11, 6, 0, 0, 0, 0, 0, 0}, {7, 0, 0, 2, 0, 2, 0, 0},
            {13, 2, 0, 0, 0, 0, 0, 0}, {7, 0, 0, 1, 0, 0, 0, 0}};
        Check.due("7 count", x.routine(0, 0), want.length);
        for (int k = 0; k < want.length; k++) {
            for (int what = 0; what < 8; what++) {
                Check.due("7 item(0, " + k + ", " + what + ")", x.item(0, k, what), want[k][what]);
            }
        }
        Check.due("7 another what", List.of(x.item(0, 0, -1), x.item(0, 0, 8), x.item(0, 0, Integer.MAX_VALUE)),
            List.of(-1, -1, -1));
        Check.due("7 no such item", List.of(x.item(0, -1, 0), x.item(0, 21, 0), x.item(0, Integer.MAX_VALUE, 1)),
            List.of(-1, -1, -1));
        Check.due("7 no such routine", List.of(x.item(1, 0, 0), x.item(-1, 0, 0)), List.of(-1, -1));
        // A BIND of SUM and of GONE: x is dropped; y leans on what is dropped.
        x = Check.keeper("f(a){x=a+7;y=x*x;x=a;return x;}");
        Check.due("7 folded", x.pass(0, 0), 2);
        Check.due("7 dropped", x.pass(1, 0), 6);
        Check.due("7 BIND of SUM", cells(x, 0, 1), List.of(12, 1, 0, 2, 1, 0, 7, 3));
        Check.due("7 BIND of GONE", cells(x, 0, 3), List.of(12, 2, 0, 0, 0, 0, 0, 12));
        Check.due("7 BIND of REG", cells(x, 0, 5), List.of(12, 1, 0, 0, 0, 0, 0, 2));
        x = Check.keeper("f(){x=9;out x;}");
        x.pass(0, 0);
        Check.due("7 BIND of CONST", cells(x, 0, 2), List.of(12, 0, 0, 0, 0, 9, 0, 1));
    }

    private static void frames() {
        LineKeeper x = Check.keeper("h(){out 1;}g(a){b=h();}f(){x=1;x=g(x);y=h();}");
        Check.due("8 frame 0", List.of(x.frame(2, 0, 0), x.frame(2, 0, 1), x.frame(2, 0, 2)), List.of(2, -1, 0));
        Check.due("8 none else", List.of(x.frame(2, 1, 0), x.frame(2, -1, 0), x.frame(3, 0, 0), x.frame(-1, 0, 0)),
            List.of(-1, -1, -1, -1));
        Check.due("8 another what", List.of(x.frame(2, 0, 3), x.frame(2, 0, -1)), List.of(-1, -1));
        Check.due("8 melt h into g", x.pass(4, 1), 1);
        Check.due("8 melt g and h into f", x.pass(4, 2), 2);
        Check.due("8 FRAMES", x.routine(2, 5), 4);
        Check.due("8 g in f", List.of(x.frame(2, 1, 0), x.frame(2, 1, 1), x.frame(2, 1, 2)), List.of(1, 0, 4));
        Check.due("8 h in g", List.of(x.frame(2, 2, 0), x.frame(2, 2, 1), x.frame(2, 2, 2)), List.of(0, 1, 2));
        Check.due("8 h in f", List.of(x.frame(2, 3, 0), x.frame(2, 3, 1), x.frame(2, 3, 2)), List.of(0, 0, 5));
        Check.due("8 no fifth", x.frame(2, 4, 0), -1);
    }

    private static String all(LineKeeper x, int r, int k, int f, int names) {
        StringBuilder b = new StringBuilder();
        for (int i = 0; i < names; i++) {
            b.append(i == 0 ? "" : " ").append(Check.told(x, r, k, f, i).replace(' ', '_'));
        }
        return b.toString();
    }

    private static void tellings() {
        LineKeeper x = Check.keeper("f(a,b){x=a;while x{x=b;b=1;y=2;}if a{y=y;}return 0;out 1;}");
        // 0 LINE, 1 COPY x, 2 BIND x, 3 LABEL, 4 LINE, 5 ZERO, 6 LINE, 7 COPY x, 8 BIND, 9 LINE, 10 COPY b, 11 BIND,
        // 12 LINE, 13 COPY y, 14 BIND, 15 JUMP, 16 LABEL, 17 LINE, 18 ZERO, 19 LINE, 20 COPY y, 21 BIND, 22 LABEL,
        // 23 LINE, 24 RETURN, 25 LINE, 26 OUT, 27 RETURN
        Check.due("9 at the beginning", all(x, 0, 0, 0, 4), "r0 r1 0 0");
        Check.due("9 ahead of COPY", all(x, 0, 1, 0, 4), "r0 r1 0 0");
        Check.due("9 behind BIND", all(x, 0, 3, 0, 4), "r0 r1 r2 GONE4");
        Check.due("9 written over", all(x, 0, 8, 0, 4), "r0 r1 GONE3 GONE4");
        Check.due("9 a parameter written over", all(x, 0, 11, 0, 4), "r0 GONE3 r2 GONE4");
        Check.due("9 behind all", all(x, 0, 15, 0, 4), "r0 r1 r2 r3");
        Check.due("9 y on two ways", all(x, 0, 22, 0, 4), "r0 r1 r2 GONE4");
        Check.due("9 not reached", all(x, 0, 25, 0, 4), "GONE1 GONE1 GONE1 GONE1");
        Check.due("9 behind the last", all(x, 0, 28, 0, 4), "GONE1 GONE1 GONE1 GONE1");
        Check.due("9 parts of REG", List.of(x.told(0, 0, 0, 1, 0), x.told(0, 0, 0, 1, 1), x.told(0, 0, 0, 1, 2),
            x.told(0, 0, 0, 1, 3), x.told(0, 0, 0, 1, 4)), List.of(2, 0, 0, 1, 0));
        Check.due("9 another what", List.of(x.told(0, 0, 0, 0, 5), x.told(0, 0, 0, 0, -1)), List.of(-1, -1));
        Check.due("9 no such item", List.of(x.told(0, 29, 0, 0, 0), x.told(0, -1, 0, 0, 0)), List.of(-1, -1));
        Check.due("9 no such frame", List.of(x.told(0, 0, 1, 0, 0), x.told(0, 0, -1, 0, 0)), List.of(-1, -1));
        Check.due("9 no such name", List.of(x.told(0, 0, 0, 4, 0), x.told(0, 0, 0, -1, 0)), List.of(-1, -1));
        Check.due("9 no such routine", List.of(x.told(1, 0, 0, 0, 0), x.told(-1, 0, 0, 0, 0)), List.of(-1, -1));

        x = Check.keeper("f(a){x=a+7;return a;}");
        x.pass(1, 0);
        Check.due("9 SUM", Check.told(x, 0, 2, 0, 1), "PLUS r0 7");
        Check.due("9 parts of SUM", List.of(x.told(0, 2, 0, 1, 0), x.told(0, 2, 0, 1, 1), x.told(0, 2, 0, 1, 2),
            x.told(0, 2, 0, 1, 3), x.told(0, 2, 0, 1, 4)), List.of(3, 2, 1, 0, 7));

        // The same WHERE by both ways stays; two ways that tell it by different BINDs, too.
        x = Check.keeper("f(a){if a{x=1;}else{x=2;}out x;}");
        Check.due("9 the same by both ways", Check.told(x, 0, 11, 0, 1), "r1");
        x.pass(0, 0);
        Check.due("9 differs by the ways", Check.told(x, 0, 11, 0, 1), "GONE4");

        x = Check.keeper("g(n){m=n;}f(a){x=g(a);x=g(1);}");
        x.pass(4, 1);
        // 0 LINE, 1 ENTER, 2 COPY n, 3 BIND n, 4 BIND m, 5 LINE, 6 COPY m, 7 BIND m, 8 COPY x, 9 JUMP, 10 LABEL,
        // 11 LEAVE, 12 BIND x
        Check.due("9 FRAME not entered", all(x, 1, 1, 1, 2), "GONE1 GONE1");
        Check.due("9 entered, not bound", all(x, 1, 3, 1, 2), "GONE1 GONE1");
        Check.due("9 bound", all(x, 1, 5, 1, 2), "r2 0");
        Check.due("9 ahead of LEAVE", all(x, 1, 11, 1, 2), "r2 r3");
        Check.due("9 left", all(x, 1, 12, 1, 2), "GONE1 GONE1");
        Check.due("9 x written within", Check.told(x, 1, 9, 0, 1), "0");
        Check.due("9 x bound behind", Check.told(x, 1, 13, 0, 1), "r1");
    }
}
