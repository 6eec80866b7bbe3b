import java.util.List;

/** Promises 11 to 17: a run, its stops, its STACK and its names. */
public final class RunTest {
    private static final String SQUARES = "g(n){return n*n;}f(k){s=0;while k{t=g(k);s=s+t;k=k-1;}out s;}";

    public static void main(String[] args) {
        starts();
        stops();
        stepsOver();
        stepsOut();
        stacks();
        names();
        failures();
        prints();
        stackOfMelted();
        Check.finish();
    }

    private static void starts() {
        LineKeeper x = Check.keeper("f(a,b,c,d){out a;out b;out c;out d;}g(a){out a;out b;out c;}");
        Check.due("11 go without a start", x.go(0, 1), -1);
        Check.due("11 no such routine", List.of(x.start(2, 0, 0, 0, 0), x.start(-1, 0, 0, 0, 0)), List.of(false, false));
        Check.due("11 still no run", x.run(0), -1);
        Check.due("11 start", x.start(0, 5, -6, 7, Integer.MIN_VALUE), true);
        Check.due("11 stands ahead of ITEM 0", x.run(0), 0);
        Check.due("11 a refused start leaves the run", List.of(x.go(0, 2), x.start(7, 1, 1, 1, 1), x.run(2)),
            List.of(1, false, 1));
        Check.due("11 goes to its end", x.go(2, 20000), 0);
        Check.due("11 four parameters", List.of(x.printed(0), x.printed(1), x.printed(2), x.printed(3)),
            List.of(5, -6, 7, Integer.MIN_VALUE));
        x.start(1, 5, 6, 7, 8);
        x.go(2, 20000);
        Check.due("11 as many as it has", List.of(x.printed(0), x.printed(1), x.printed(2), x.run(1)),
            List.of(5, 0, 0, 3));
        x.pass(5, 0);
        x.start(0, 1, 2, 3, 4);
        x.go(2, 100);
        Check.due("11 parameters go where SHARE put them", List.of(x.printed(0), x.printed(3)), List.of(1, 4));
    }

    private static void stops() {
        LineKeeper x = Check.keeper(SQUARES);
        x.start(1, 2, 0, 0, 0);
        Check.due("12 another how", List.of(x.go(-1, 1), x.go(3, 1)), List.of(-1, -1));
        Check.due("12 another n", List.of(x.go(0, 0), x.go(0, -1), x.go(0, 20001), x.go(0, Integer.MIN_VALUE)),
            List.of(-1, -1, -1, -1));
        Check.due("12 nothing was gone", List.of(x.run(0), x.run(2)), List.of(0, 0));
        Check.due("12 to the first LINE", List.of(x.go(0, 1), x.run(0), x.run(2)), List.of(1, 1, 1));
        Check.due("12 n were gone", List.of(x.go(0, 3), x.run(0), x.run(2)), List.of(2, 4, 4));
        Check.due("12 LINE behind a LABEL", List.of(x.go(0, 20000), x.run(0), x.stack(0, 1)), List.of(1, 5, 3));
        Check.due("12 into the ring", List.of(x.go(0, 5), x.run(0)), List.of(1, 7));
        Check.due("12 into the call", List.of(x.go(0, 5), x.run(0), x.run(4), x.stack(0, 0)), List.of(1, 1, 2, 0));
        Check.due("12 out of the call", List.of(x.go(0, 5), x.run(0), x.run(4), x.stack(0, 1)), List.of(1, 10, 1, 5));
        int lines = 5;
        int told = 1;
        while (told == 1 && lines < 100) {
            told = x.go(0, 100);
            lines += told == 1 ? 1 : 0;
        }
        Check.due("12 over", List.of(told, lines, x.go(0, 1), x.go(2, 5)), List.of(0, 13, 0, 0));
        Check.due("12 the end", List.of(x.run(0), x.run(1), x.run(3), x.run(4), x.run(5), x.printed(0)),
            List.of(-1, 1, 0, 0, 0, 5));
        x.start(0, 9, 0, 0, 0);
        Check.due("12 RETURN as the last of n", List.of(x.go(0, 1), x.go(0, 2), x.run(3)), List.of(1, 0, 81));
        x = Check.keeper("f(){while 1{}}");
        x.start(0, 0, 0, 0, 0);
        Check.due("12 20000", List.of(x.go(2, 20000), x.run(2), x.go(2, 20000), x.run(2)),
            List.of(2, 20000, 2, 40000));
    }

    private static void stepsOver() {
        LineKeeper x = Check.keeper(SQUARES);
        for (int melted = 0; melted < 2; melted++) {
            x.start(1, 2, 0, 0, 0);
            Check.due("12 LINE 2", List.of(x.go(1, 50), x.stack(0, 1)), List.of(1, 2));
            Check.due("12 LINE 3", List.of(x.go(1, 50), x.stack(0, 1)), List.of(1, 3));
            Check.due("12 LINE 4", List.of(x.go(1, 50), x.stack(0, 1)), List.of(1, 4));
            Check.due("12 over the call", List.of(x.go(1, 50), x.stack(0, 1), x.run(4)), List.of(1, 5, 1));
            x.go(1, 50);
            x.go(1, 50);
            x.go(1, 50);
            Check.due("12 LINE 4 again", List.of(x.stack(0, 1), x.go(0, 50), x.run(4)), List.of(4, 1, 2));
            Check.due("12 from within, no deeper", List.of(x.go(1, 50), x.run(4), x.stack(0, 1)), List.of(1, 1, 5));
            x.pass(4, 1);
        }
    }

    private static void stepsOut() {
        LineKeeper x = Check.keeper("h(){out 1;out 2;}g(){x=h();out 3;}f(){x=g();y=h();}");
        for (int melted = 0; melted < 3; melted++) {
            x.start(2, 0, 0, 0, 0);
            x.go(0, 50);
            x.go(0, 50);
            Check.due("12 in h", List.of(x.go(0, 50), x.run(4), x.stack(0, 0), x.stack(0, 1)), List.of(1, 3, 0, 1));
            Check.due("12 out of h", List.of(x.go(2, 50), x.run(4), x.stack(0, 0), x.stack(0, 1), x.run(1)),
                List.of(1, 2, 1, 4, 2));
            Check.due("12 out of g", List.of(x.go(2, 50), x.run(4), x.stack(0, 1), x.run(1)), List.of(1, 1, 6, 3));
            Check.due("12 out of f", List.of(x.go(2, 50), x.run(4)), List.of(0, 0));
            x.pass(4, 1);
            x.pass(4, 2 - melted);
        }
    }

    private static void stacks() {
        LineKeeper x = Check.keeper("g(a,b){return a;}f(k){t=g(k,1);}");
        x.start(1, 3, 0, 0, 0);
        Check.due("13 no LINE yet", List.of(x.stack(0, 0), x.stack(0, 1), x.stack(0, 2), x.run(4)),
            List.of(1, 0, 2, 1));
        x.go(0, 9);
        Check.due("13 stands behind the mark", List.of(x.stack(0, 1), x.run(0)), List.of(2, 1));
        x.go(0, 1);
        Check.due("13 called, no LINE yet", List.of(x.stack(0, 0), x.stack(0, 1), x.stack(0, 2), x.run(0)),
            List.of(0, 0, 2, 0));
        Check.due("13 the one that called", List.of(x.stack(1, 0), x.stack(1, 1), x.stack(1, 2)), List.of(1, 2, 2));
        Check.due("13 none such", List.of(x.stack(2, 0), x.stack(-1, 0), x.stack(Integer.MAX_VALUE, 1)),
            List.of(-1, -1, -1));
        Check.due("13 another what", List.of(x.stack(0, 3), x.stack(0, -1)), List.of(-1, -1));
        x.go(2, 100);
        Check.due("13 over", List.of(x.stack(0, 0), x.stack(0, 1)), List.of(-1, -1));
    }

    private static void names() {
        LineKeeper x = Check.keeper("g(a){b=a+1;return b;}f(k){t=7;t=g(k);u=t;}");
        x.start(1, 3, 0, 0, 0);
        Check.due("14 parameters, others nought", List.of(x.known(0, 0), x.known(0, 1), x.value(0, 0), x.value(0, 1)),
            List.of(1, 1, 3, 0));
        Check.due("14 none such", List.of(x.known(0, 3), x.known(0, -1), x.known(1, 0), x.known(-1, 0)),
            List.of(-1, -1, -1, -1));
        Check.due("15 none such", List.of(x.value(0, 3), x.value(0, -1), x.value(1, 0), x.value(-1, 0)),
            List.of(0, 0, 0, 0));
        x.go(0, 9);
        x.go(0, 1);
        Check.due("14 written, not bound: nought as ever", List.of(x.run(0), x.known(0, 1), x.value(0, 1)),
            List.of(2, 1, 0));
        x.go(0, 1);
        Check.due("14 bound", List.of(x.known(0, 1), x.value(0, 1)), List.of(1, 7));
        x.go(0, 9);
        x.go(0, 9);
        Check.due("14 behind a CALL", List.of(x.run(4), x.known(1, 1), x.value(1, 1), x.value(1, 0), x.value(0, 0)),
            List.of(2, 1, 7, 3, 3));
        x.go(0, 9);
        x.go(0, 9);
        Check.due("14 behind its end", List.of(x.run(4), x.stack(0, 1), x.value(0, 1)), List.of(1, 5, 4));
        x.start(1, 3, 0, 0, 0);
        // LINE, COPY, BIND, LINE, CALL, and in g LINE, PLUS, COPY, BIND, LINE, RETURN: ahead of BIND of t.
        x.go(2, 11);
        Check.due("14 written over, not bound", List.of(x.run(0), x.known(0, 1), x.value(0, 1)), List.of(5, 13, 0));
        x.go(2, 1);
        Check.due("14 bound again", List.of(x.known(0, 1), x.value(0, 1)), List.of(1, 4));
        x.go(2, 99);
        Check.due("14 over", List.of(x.known(0, 0), x.value(0, 0)), List.of(-1, 0));

        x = Check.keeper("f(a){x=a*5;out 1;y=x;if a{z=1;}x=0;out a;}");
        x.pass(1, 0);
        x.start(0, 6, 0, 0, 0);
        x.go(0, 9);
        x.go(0, 9);
        Check.due("15 a SUM", List.of(x.stack(0, 1), x.known(0, 1), x.value(0, 1)), List.of(2, 1, 30));
        x.go(0, 9);
        x.go(0, 9);
        Check.due("14 dropped", List.of(x.stack(0, 1), x.known(0, 2), x.value(0, 2)), List.of(4, 12, 0));
        x.go(0, 9);
        x.go(0, 9);
        Check.due("14 differs by the ways", List.of(x.stack(0, 1), x.known(0, 3), x.value(0, 3)), List.of(6, 14, 0));
        x.go(0, 9);
        Check.due("15 a CONST", List.of(x.stack(0, 1), x.known(0, 1), x.value(0, 1)), List.of(7, 1, 0));
    }

    private static void failures() {
        LineKeeper x = Check.keeper("f(a){out a;a=f(a+1);}");
        x.start(0, 1, 0, 0, 0);
        Check.due("12 FAILED", List.of(x.go(2, 20000), x.go(0, 1), x.go(1, 1)), List.of(3, 3, 3));
        Check.due("16 FAILED", List.of(x.run(0), x.run(1), x.run(3), x.run(4), x.run(5)), List.of(4, 9, 0, 9, 1));
        Check.due("13 the STACK stays", List.of(x.stack(0, 1), x.stack(8, 1), x.stack(9, 1)), List.of(2, 2, -1));
        Check.due("15 values stay", List.of(x.value(0, 0), x.value(8, 0), x.known(3, 0)), List.of(9, 1, 1));
        Check.due("16 the failing CALL is not gone", x.run(2), 8 * 5 + 4);
        Check.due("17 printed", List.of(x.printed(0), x.printed(8), x.printed(9)), List.of(1, 9, 0));
        // Eight in one another are fine.
        x = Check.keeper("f(a){if a{b=f(a-1);}return a;}");
        x.start(0, 8, 0, 0, 0);
        Check.due("12 eight calls", List.of(x.go(2, 20000), x.run(3)), List.of(0, 8));
        x.start(0, 9, 0, 0, 0);
        Check.due("12 nine calls", List.of(x.go(2, 20000), x.run(5), x.run(4)), List.of(3, 1, 9));
        // ENTER counts as a call: f calls itself, and g is melted in.
        x = Check.keeper("g(){out 5;}f(a){x=g();if a{b=f(a-1);}}");
        x.start(1, 8, 0, 0, 0);
        Check.due("12 the ninth is g", List.of(x.go(2, 20000), x.run(1), x.run(4)), List.of(3, 8, 9));
        x.pass(4, 1);
        x.start(1, 8, 0, 0, 0);
        Check.due("12 the ninth is ENTER", List.of(x.go(2, 20000), x.run(1), x.run(4)), List.of(3, 8, 9));
        Check.due("16 ahead of ENTER", x.item(1, x.run(0), 0), 14);
        x.start(1, 7, 0, 0, 0);
        Check.due("12 no ninth", List.of(x.go(2, 20000), x.run(1)), List.of(0, 8));
    }

    private static void prints() {
        LineKeeper x = Check.keeper("f(a){while a{out a*3;a=a-1;}return 77;}");
        x.start(0, 250, 0, 0, 0);
        Check.due("17 none yet", List.of(x.printed(0), x.run(1)), List.of(0, 0));
        Check.due("16 returns", List.of(x.go(2, 20000), x.run(1), x.run(3)), List.of(0, 250, 77));
        Check.due("17 the first", List.of(x.printed(0), x.printed(1)), List.of(750, 747));
        Check.due("17 the last of 200", x.printed(199), 3 * 51);
        Check.due("17 none such", List.of(x.printed(200), x.printed(249), x.printed(-1), x.printed(Integer.MAX_VALUE)),
            List.of(0, 0, 0, 0));
        Check.due("16 another what", List.of(x.run(6), x.run(-1)), List.of(-1, -1));
        x.start(0, 1, 0, 0, 0);
        Check.due("17 a new run", List.of(x.printed(0), x.run(1), x.run(3), x.run(2)), List.of(0, 0, 0, 0));
        x.go(2, 9);
        Check.due("17 its first", List.of(x.printed(0), x.printed(1)), List.of(3, 0));
    }

    private static void stackOfMelted() {
        LineKeeper x = Check.keeper("h(p){q=p+1;return q;}g(a){b=h(a*2);return b;}f(k){t=g(k);out t;}");
        x.pass(4, 1);
        x.pass(4, 2);
        x.start(2, 10, 0, 0, 0);
        for (int i = 0; i < 4; i++) {
            x.go(0, 50);
        }
        // LINE 5 of f, 3 of g, 1 and 2 of h.
        Check.due("13 frames of the text", List.of(x.run(4), x.stack(0, 0), x.stack(1, 0), x.stack(2, 0), x.stack(3, 0)),
            List.of(3, 0, 1, 2, -1));
        Check.due("13 lines", List.of(x.stack(0, 1), x.stack(1, 1), x.stack(2, 1)), List.of(2, 3, 5));
        Check.due("15 names within", List.of(x.value(0, 0), x.value(0, 1), x.value(1, 0), x.value(2, 0)),
            List.of(20, 21, 10, 10));
        Check.due("12 over", List.of(x.go(2, 50), x.stack(0, 1), x.go(2, 50), x.stack(0, 1), x.go(2, 50), x.printed(0)),
            List.of(1, 4, 1, 6, 0, 21));
    }
}
