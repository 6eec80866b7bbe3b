import java.util.List;

/** Promises 18 and 19: the torn code beside the plain run. */
public final class BesideTest {
    public static void main(String[] args) {
        wrongInputs();
        counts();
        endings();
        everyPass();
        Check.finish();
    }

    private static void wrongInputs() {
        LineKeeper x = Check.keeper("f(a){out a;}");
        Check.due("19 ahead of any", List.of(x.compared(0), x.compared(1), x.compared(2)), List.of(-1, -1, -1));
        Check.due("18 no such routine", List.of(x.beside(1, 0, 0, 0, 0, 5), x.beside(-1, 0, 0, 0, 0, 5)),
            List.of(-1, -1));
        Check.due("18 another n", List.of(x.beside(0, 0, 0, 0, 0, 0), x.beside(0, 0, 0, 0, 0, -5),
            x.beside(0, 0, 0, 0, 0, 20001)), List.of(-1, -1, -1));
        Check.due("19 still ahead of any", x.compared(0), -1);
        Check.due("18 done", List.of(x.beside(0, 1, 0, 0, 0, 20000), x.compared(0), x.compared(1), x.compared(2)),
            List.of(1, 1, 0, 1));
        Check.due("19 another what", List.of(x.compared(3), x.compared(-1)), List.of(-1, -1));
        Check.due("18 a refused one changes nothing", List.of(x.beside(0, 0, 0, 0, 0, 0), x.compared(0)),
            List.of(-1, 1));
        x.start(0, 3, 0, 0, 0);
        x.go(0, 1);
        x.beside(0, 9, 0, 0, 0, 50);
        Check.due("18 a run that there is stays", List.of(x.run(0), x.run(2), x.value(0, 0)), List.of(1, 1, 3));
    }

    private static void counts() {
        LineKeeper x = Check.keeper("g(n){return n*n;}f(k){s=0;while k{t=g(k);s=s+t;k=k-1;}out s;}");
        // LINES with k 2: 2 | 3 4 1 5 6 | 3 4 1 5 6 | 3 7: names 3 each, 4 in g.
        Check.due("18 LINES", x.beside(1, 2, 0, 0, 0, 20000), 13);
        // t differs by the ways at LINE 3, 4 and 7, and in g behind that: 3 + 2 + 1 + 2 times.
        Check.due("19 told, GONE, the end", List.of(x.compared(0), x.compared(1), x.compared(2)),
            List.of(13 * 3 + 2 - 8, 8, 1));
        Check.due("18 by fewer ITEMS", List.of(x.beside(1, 2, 0, 0, 0, 1), x.compared(0), x.compared(2)),
            List.of(1, 3, 0));
        Check.due("18 before the second LINE", x.beside(1, 2, 0, 0, 0, 4), 1);
        Check.due("18 at the second LINE", List.of(x.beside(1, 2, 0, 0, 0, 5), x.compared(0), x.compared(1)),
            List.of(2, 5, 1));
        Check.due("18 no LINE", List.of(Check.keeper("f(){}").beside(0, 1, 1, 1, 1, 1)), List.of(0));
        x = Check.keeper("f(a){out a;}");
        Check.due("18 the end not come to", List.of(x.beside(0, 1, 0, 0, 0, 2), x.compared(2)), List.of(1, 0));
        Check.due("18 just the end", List.of(x.beside(0, 1, 0, 0, 0, 3), x.compared(2)), List.of(1, 1));
    }

    private static void endings() {
        LineKeeper x = Check.keeper("f(a){out a;a=f(a+1);}");
        Check.due("19 both FAILED", List.of(x.beside(0, 1, 0, 0, 0, 20000), x.compared(2)), List.of(18, 2));
        x = Check.keeper("f(){while 1{}}");
        Check.due("19 no end", List.of(x.beside(0, 1, 0, 0, 0, 20000), x.compared(2)), List.of(5000, 0));
    }

    private static void everyPass() {
        String text = "g(n,m){k=n*m+1;if k<9{return k;}return 9;}"
            + "f(a,b){i=0;s=0;while i<a{x=b*b;i=i+1;y=b*b;t=g(i,x);s=s+t-y;}out s;u=s*2;return x+y;}";
        LineKeeper x = Check.keeper(text);
        int plain = x.beside(1, 6, 3, 0, 0, 20000);
        Check.due("18 plainly", plain > 40, true);
        for (int round = 0; round < 3; round++) {
            for (int kind = 0; kind < 6; kind++) {
                x.pass((kind + round) % 6, 1);
                Check.due("18 behind pass " + kind, List.of(x.beside(1, 6, 3, 0, 0, 20000), x.compared(2)),
                    List.of(plain, 1));
                Check.due("19 names told and GONE are as many", x.compared(0) > 0 && x.compared(1) > 0, true);
            }
        }
    }
}
