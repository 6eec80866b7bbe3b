import java.util.List;

/** Promise 10: the six passes, by hand, with their limits. */
public final class PassTest {
    public static void main(String[] args) {
        wrongInputs();
        fold();
        drop();
        move();
        alike();
        melt();
        meltLimits();
        share();
        Check.finish();
    }

    private static void wrongInputs() {
        LineKeeper x = Check.keeper("f(a){x=1;out x;}");
        x.start(0, 1, 0, 0, 0);
        Check.due("10 no such pass", List.of(x.pass(-1, 0), x.pass(6, 0), x.pass(Integer.MAX_VALUE, 0)),
            List.of(-1, -1, -1));
        Check.due("10 no such routine", List.of(x.pass(0, -1), x.pass(0, 1), x.pass(5, 6)), List.of(-1, -1, -1));
        Check.due("10 refused: the run stays", x.run(0), 0);
        for (int kind = 0; kind < 6; kind++) {
            x.start(0, 1, 0, 0, 0);
            Check.due("10 done " + kind, x.pass(kind, 0) >= 0, true);
            Check.due("10 there is no run then " + kind, List.of(x.run(0), x.go(0, 1)), List.of(-1, -1));
        }
    }

    private static void fold() {
        LineKeeper x = Check.keeper("f(a){x=2;y=x*3;z=a;w=z-y;out w;if x{out y;}if y-6{out z;}z=x;out z;}");
        // TIMES, COPY of it, MINUS, OUT w, ZERO of 2, OUT y, and the last OUT z.
        Check.due("10 FOLD told", x.pass(0, 0), 7);
        Check.due("10 FOLD", Check.items(x, 0), Check.lines(
            "LINE 1 in 0", "COPY r1 2", "BIND 0.1 2",
            "LINE 2 in 0", "COPY r5 6", "COPY r2 6", "BIND 0.2 6",
            "LINE 3 in 0", "COPY r3 r0", "BIND 0.3 r3",
            "LINE 4 in 0", "MINUS r6 r0 6", "COPY r4 r6", "BIND 0.4 r4",
            "LINE 5 in 0", "OUT r6",
            "LINE 6 in 0", "LINE 7 in 0", "OUT 6", "LABEL L0",
            "LINE 8 in 0", "MINUS r7 r2 6", "ZERO r7 L1", "LINE 9 in 0", "OUT r3", "LABEL L1",
            "LINE 10 in 0", "COPY r3 r1", "BIND 0.3 r3", "LINE 11 in 0", "OUT r1", "RETURN 0"));
        x = Check.keeper("f(){x=0;if x{out 1;}return x+1;}");
        Check.due("10 FOLD ZERO of 0", x.pass(0, 0), 1);
        Check.due("10 FOLD to JUMP", Check.items(x, 0), Check.lines(
            "LINE 1 in 0", "COPY r0 0", "BIND 0.0 0", "LINE 2 in 0", "JUMP L0", "LINE 3 in 0", "OUT 1", "LABEL L0",
            "LINE 4 in 0", "PLUS r1 r0 1", "RETURN r1", "RETURN 0"));
        x = Check.keeper("g(a,b,c,d){}f(a){b=a;c=b;a=1;d=b;d=g(a,b,c,d);e=d;}");
        Check.due("10 FOLD writes forget", x.pass(0, 1), 2);
        Check.due("10 FOLD what is known as REG r is known no more", Check.items(x, 1), Check.lines(
            "LINE 1 in 0", "COPY r1 r0", "BIND 0.1 r1", "LINE 2 in 0", "COPY r2 r0", "BIND 0.2 r2",
            "LINE 3 in 0", "COPY r0 1", "BIND 0.0 1", "LINE 4 in 0", "COPY r3 r1", "BIND 0.3 r3",
            "LINE 5 in 0", "CALL r3 f0 1 r1", "BIND 0.3 r3", "LINE 6 in 0", "COPY r4 r3", "BIND 0.4 r4", "RETURN 0"));
        x = Check.keeper("f(a){x=65536*65536;y=0-1<0;z=3=3;out -2147483+7;a=a;b=a;}");
        x.pass(0, 0);
        Check.due("10 FOLD goes around", Check.item(x, 0, 1), "COPY r5 0");
        Check.due("10 FOLD less", Check.item(x, 0, 6), "COPY r7 1");
        Check.due("10 FOLD equal", Check.item(x, 0, 10), "COPY r8 1");
        Check.due("10 FOLD plus", Check.item(x, 0, 15), "COPY r10 -2147476");
        Check.due("10 FOLD a of a", Check.item(x, 0, 18), "COPY r0 r0");
        Check.due("10 FOLD not known by itself", Check.item(x, 0, 21), "COPY r4 r0");
    }

    private static void drop() {
        LineKeeper x = Check.keeper("f(a){return a;out 1;while a{out 2;}x=3;}");
        Check.due("10 DROP of what is not reached", x.pass(1, 0), 6);
        Check.due("10 DROP leaves", Check.items(x, 0), Check.lines("LINE 1 in 0", "RETURN r0"));

        x = Check.keeper("f(a){x=a+1;y=x*2;x=5;out x;}");
        Check.due("10 DROP told", x.pass(1, 0), 4);
        Check.due("10 DROP a SUM, and what leaned on it", Check.items(x, 0), Check.lines(
            "LINE 1 in 0", "BIND 0.1 PLUS r0 1", "LINE 2 in 0", "BIND 0.2 GONE2",
            "LINE 3 in 0", "COPY r1 5", "BIND 0.1 r1", "LINE 4 in 0", "OUT r1", "RETURN 0"));
        x = Check.keeper("f(a){x=a;if a{x=1;}y=2;out y;while a{x=3;a=a-1;}}");
        Check.due("10 DROP by ways", x.pass(1, 0), 3);
        Check.due("10 DROP COPY of REG, CONST", Check.items(x, 0), Check.lines(
            "LINE 1 in 0", "BIND 0.1 r0", "LINE 2 in 0", "ZERO r0 L0", "LINE 3 in 0", "BIND 0.1 1", "LABEL L0",
            "LINE 4 in 0", "COPY r2 2", "BIND 0.2 r2", "LINE 5 in 0", "OUT r2",
            "LABEL L1", "LINE 6 in 0", "ZERO r0 L2", "LINE 7 in 0", "BIND 0.1 3",
            "LINE 8 in 0", "MINUS r3 r0 1", "COPY r0 r3", "BIND 0.0 r0", "JUMP L1", "LABEL L2", "RETURN 0"));

        // y leans on r1 (x), whose latest COPY goes out when y has become REG of it.
        x = Check.keeper("f(a){x=a*a;out 1;y=x;out 2;}");
        Check.due("10 DROP all", x.pass(1, 0), 3);
        Check.due("10 DROP makes GONE", Check.items(x, 0), Check.lines(
            "LINE 1 in 0", "BIND 0.1 TIMES r0 r0", "LINE 2 in 0", "OUT 1", "LINE 3 in 0", "BIND 0.2 GONE2",
            "LINE 4 in 0", "OUT 2", "RETURN 0"));
        x = Check.keeper("f(a){x=f(1);x=2;}");
        Check.due("10 DROP leaves CALLS", x.pass(1, 0), 1);
        Check.due("10 DROP the CALL stays", Check.items(x, 0), Check.lines(
            "LINE 1 in 0", "CALL r1 f0 1", "BIND 0.1 r1", "LINE 2 in 0", "BIND 0.1 2", "RETURN 0"));
    }

    private static void move() {
        LineKeeper x = Check.keeper("f(a,b){i=0;while i<a{x=b*b;i=i+1;y=b*b+x;}out x+y;}");
        Check.due("10 MOVE told", x.pass(2, 0), 2);
        Check.due("10 MOVE", Check.items(x, 0).subList(0, 12), Check.lines(
            "LINE 1 in 0", "COPY r2 0", "BIND 0.2 r2", "TIMES r6 r1 r1", "TIMES r8 r1 r1", "LABEL L0", "LINE 2 in 0",
            "LESS r5 r2 r0", "ZERO r5 L1", "LINE 3 in 0", "COPY r3 r6", "BIND 0.3 r3"));
        x = Check.keeper("f(a,b){while a{while b{out a*a+b;b=b-1;}a=a-1;out 3*4+(5-1);}}");
        Check.due("10 MOVE within a ring within", x.pass(2, 0), 4);
        Check.due("10 MOVE out of the inner, out of the outer", Check.items(x, 0), Check.lines(
            "TIMES r6 3 4", "MINUS r7 5 1", "PLUS r8 r6 r7", "LABEL L0", "LINE 1 in 0", "ZERO r0 L1",
            "TIMES r2 r0 r0", "LABEL L2", "LINE 2 in 0", "ZERO r1 L3", "LINE 3 in 0", "PLUS r3 r2 r1", "OUT r3",
            "LINE 4 in 0", "MINUS r4 r1 1", "COPY r1 r4", "BIND 0.1 r1", "JUMP L2", "LABEL L3",
            "LINE 5 in 0", "MINUS r5 r0 1", "COPY r0 r5", "BIND 0.0 r0", "LINE 6 in 0", "OUT r8",
            "JUMP L0", "LABEL L1", "RETURN 0"));
        Check.due("10 MOVE nothing more", x.pass(2, 0), 0);
    }

    private static void alike() {
        LineKeeper x = Check.keeper("f(a,b){x=a*b;y=a*b;if a{z=a*b;a=1;z=a*b;}w=a*b;w=b*a;w=a*b;}");
        Check.due("10 ALIKE told", x.pass(3, 0), 3);
        Check.due("10 ALIKE", Check.items(x, 0), Check.lines(
            "LINE 1 in 0", "TIMES r6 r0 r1", "COPY r2 r6", "BIND 0.2 r2",
            "LINE 2 in 0", "COPY r7 r6", "COPY r3 r7", "BIND 0.3 r3",
            "LINE 3 in 0", "ZERO r0 L0", "LINE 4 in 0", "COPY r8 r6", "COPY r4 r8", "BIND 0.4 r4",
            "LINE 5 in 0", "COPY r0 1", "BIND 0.0 r0", "LINE 6 in 0", "TIMES r9 r0 r1", "COPY r4 r9", "BIND 0.4 r4",
            "LABEL L0", "LINE 7 in 0", "TIMES r10 r0 r1", "COPY r5 r10", "BIND 0.5 r5",
            "LINE 8 in 0", "TIMES r11 r1 r0", "COPY r5 r11", "BIND 0.5 r5",
            "LINE 9 in 0", "COPY r12 r10", "COPY r5 r12", "BIND 0.5 r5", "RETURN 0"));
        Check.due("10 ALIKE again", x.pass(3, 0), 0);
    }

    private static void melt() {
        LineKeeper x = Check.keeper("g(n,m){if n{return m+k;}k=1;}f(a){if a{x=g(a,3);}x=g(1,x);}");
        Check.due("10 MELT told", x.pass(4, 1), 2);
        Check.due("10 MELT", Check.items(x, 1), Check.lines(
            "LINE 4 in 0", "ZERO r0 L0", "LINE 5 in 0",
            "ENTER 1", "COPY r2 r0", "BIND 1.0 r2", "COPY r3 3", "BIND 1.1 r3", "BIND 1.2 0", "COPY r4 0",
            "LINE 1 in 1", "ZERO r2 L1", "LINE 2 in 1", "PLUS r5 r3 r4", "COPY r1 r5", "JUMP L2", "LABEL L1",
            "LINE 3 in 1", "COPY r4 1", "BIND 1.2 r4", "COPY r1 0", "JUMP L2", "LABEL L2", "LEAVE 1",
            "BIND 0.1 r1", "LABEL L0", "LINE 6 in 0",
            "ENTER 2", "COPY r6 1", "BIND 2.0 r6", "COPY r7 r1", "BIND 2.1 r7", "BIND 2.2 0", "COPY r8 0",
            "LINE 1 in 2", "ZERO r6 L3", "LINE 2 in 2", "PLUS r9 r7 r8", "COPY r1 r9", "JUMP L4", "LABEL L3",
            "LINE 3 in 2", "COPY r8 1", "BIND 2.2 r8", "COPY r1 0", "JUMP L4", "LABEL L4", "LEAVE 2",
            "BIND 0.1 r1", "RETURN 0"));
        Check.due("10 MELT REGISTERS, FRAMES", List.of(x.routine(1, 4), x.routine(1, 5)), List.of(10, 3));
        Check.due("10 MELT none left", x.pass(4, 1), 0);
        x = Check.keeper("f(a){x=f(1);x=g();}g(){x=h();}h(){out 1;}");
        Check.due("10 MELT not itself, not what calls", x.pass(4, 0), 0);
        Check.due("10 MELT the innermost", x.pass(4, 1), 1);
        Check.due("10 MELT what calls no more", x.pass(4, 0), 1);
        Check.due("10 MELT a frame in a frame", List.of(x.frame(0, 1, 0), x.frame(0, 2, 0), x.frame(0, 2, 1)),
            List.of(1, 2, 1));
    }

    private static void meltLimits() {
        // 19 OUT and RETURN 0 are 20 ACTS.
        String g = "g(){" + "out 1;".repeat(19) + "}";
        LineKeeper x = Check.keeper(g + "f(){x=g();}");
        Check.due("10 MELT 20 ACTS", x.pass(4, 1), 1);
        x = Check.keeper("g(){" + "out 1;".repeat(20) + "}f(){x=g();}");
        Check.due("10 MELT not 21 ACTS", x.pass(4, 1), 0);
        // Each call is a FRAME more: 11 of them and FRAME 0.
        x = Check.keeper("g(){}f(){" + "x=g();".repeat(13) + "}");
        Check.due("10 MELT up to 12 FRAMES", x.pass(4, 1), 11);
        Check.due("10 MELT 12 FRAMES", x.routine(1, 5), 12);
        // g has 37 ITEMS; RETURN as two, ENTER, LABEL, LEAVE: 41 come in place of a CALL.
        g = "g(){" + "out 1;".repeat(18) + "}";
        x = Check.keeper(g + "f(){" + "x=g();".repeat(6) + "}");
        Check.due("10 MELT up to 200 ITEMS", List.of(x.routine(1, 0), x.pass(4, 1), x.routine(1, 0)),
            List.of(19, 4, 179));
        x = Check.keeper(g + "f(){" + "x=g();".repeat(4) + "out 1-2+3;".repeat(6) + "out -1;}");
        Check.due("10 MELT 200 ITEMS", List.of(x.routine(1, 0), x.pass(4, 1), x.routine(1, 0)), List.of(40, 4, 200));
        x = Check.keeper(g + "f(){" + "x=g();".repeat(4) + "out 1-2+3;".repeat(6) + "out -1+2;}");
        Check.due("10 MELT not 201 ITEMS", List.of(x.routine(1, 0), x.pass(4, 1), x.routine(1, 0)), List.of(41, 3, 161));
        x = Check.keeper(g + "f(a){while a{a=a-1;out 1-2+3*4+5*6;" + "x=g();".repeat(4) + "out 1+2;out 1+2;out -(-1)+2;}}");
        Check.due("10 MOVE in a ring of 200 ITEMS", List.of(x.routine(1, 0), x.pass(4, 1), x.routine(1, 0),
            x.pass(2, 1), x.routine(1, 0)), List.of(40, 4, 200, 10, 200));
        Check.due("10 MOVE beside", x.beside(1, 5, 0, 0, 0, 20000) > 0, true);
        // g has 18 REGISTERS: its name and 17 sums.
        g = "g(a){a=a" + "+a".repeat(17) + ";}";
        x = Check.keeper(g + "f(){" + "x=g(1);".repeat(6) + "}");
        Check.due("10 MELT REGISTERS of g", x.routine(0, 4), 18);
        Check.due("10 MELT up to 100 REGISTERS", x.pass(4, 1), 5);
        Check.due("10 MELT REGISTERS", x.routine(1, 4), 91);
        x = Check.keeper(g + "f(p,q,r,s){t=u;v=w;z=1;" + "x=g(1);".repeat(6) + "}");
        Check.due("10 MELT 100 REGISTERS", List.of(x.routine(1, 4), x.pass(4, 1), x.routine(1, 4)), List.of(10, 5, 100));
        x = Check.keeper(g + "f(p,q,r,s){t=u;v=w;z=y;" + "x=g(1);".repeat(6) + "}");
        Check.due("10 MELT not 101", List.of(x.routine(1, 4), x.pass(4, 1), x.routine(1, 4)), List.of(11, 4, 83));
    }

    private static void share() {
        LineKeeper x = Check.keeper("f(a,b){x=a+1;y=x*2;out y;z=b;out z;}");
        Check.due("10 SHARE told", x.pass(5, 0), 2);
        Check.due("10 SHARE", Check.items(x, 0), Check.lines(
            "LINE 1 in 0", "PLUS r0 r0 1", "COPY r0 r0", "BIND 0.2 r0",
            "LINE 2 in 0", "TIMES r0 r0 2", "COPY r0 r0", "BIND 0.3 r0", "LINE 3 in 0", "OUT r0",
            "LINE 4 in 0", "COPY r0 r1", "BIND 0.4 r0", "LINE 5 in 0", "OUT r0", "RETURN 0"));
        Check.due("10 SHARE homes", List.of(x.routine(0, 7), x.routine(0, 8), x.routine(0, 9), x.routine(0, 10),
            x.routine(0, 11)), List.of(0, 1, 0, 0, 0));
        x.start(0, 4, 9, 0, 0);
        x.go(2, 100);
        Check.due("10 SHARE prints", List.of(x.printed(0), x.printed(1)), List.of(10, 9));

        // x is dropped: told as REG of a, whose number is another one's when it is told.
        x = Check.keeper("f(a){b=a*2;x=c;out b;c=3;out c;}");
        x.pass(1, 0);
        Check.due("10 SHARE ahead", Check.items(x, 0).get(4), "LINE 2 in 0");
        Check.due("10 SHARE BIND ahead", Check.items(x, 0).get(5), "BIND 0.2 r3");
        x.pass(5, 0);
        Check.due("10 SHARE GONE, what was written there last is not it", Check.items(x, 0).get(5), "BIND 0.2 GONE3");
        x = Check.keeper("f(a,b,c){}");
        Check.due("10 SHARE parameters are at odds", x.pass(5, 0), 3);
        x = Check.keeper("f(a){out b+c;}");
        Check.due("10 SHARE what lives at the beginning is at odds", x.pass(5, 0), 3);
        x = Check.keeper("f(){}");
        Check.due("10 SHARE none", x.pass(5, 0), 0);
    }
}
