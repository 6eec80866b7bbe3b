/** Promises 1 to 3: a new object, feed, end. */
public final class TapeTest {
    public static void main(String[] args) {
        newObject();
        feeding();
        ending();
        Check.finish();
    }

    private static void newObject() {
        LineKeeper x = new LineKeeper();
        Check.due("1 no tape", x.end(0), 0);
        Check.due("1 no byte", x.end(1), -1);
        Check.due("1 no routine", x.routine(0, 0), -1);
        Check.due("1 no item", x.item(0, 0, 0), -1);
        Check.due("1 no frame", x.frame(0, 0, 0), -1);
        Check.due("1 nothing told", x.told(0, 0, 0, 0, 0), -1);
        Check.due("1 no pass", x.pass(0, 0), -1);
        Check.due("1 no start", x.start(0, 0, 0, 0, 0), false);
        Check.due("1 no go", x.go(0, 1), -1);
        Check.due("1 no stack", x.stack(0, 0), -1);
        Check.due("1 nothing known", x.known(0, 0), -1);
        Check.due("1 no value", x.value(0, 0), 0);
        Check.due("1 no run", x.run(0), -1);
        Check.due("1 none printed", x.printed(0), 0);
        Check.due("1 none beside", x.beside(0, 0, 0, 0, 0, 5), -1);
        Check.due("1 none compared", x.compared(0), -1);
        Check.due("1 an empty text", x.read(), 0);
        Check.due("1 NONE", LineKeeper.NONE, -1);
    }

    private static void feeding() {
        LineKeeper x = new LineKeeper();
        for (int i = 1; i <= 60; i++) {
            Check.due("2 feed " + i, x.feed(0, 0, 0, 0, 0), 20 * i);
        }
        Check.due("2 beyond 1200", x.feed(0, 0, 0, 0, 0), -1);
        Check.due("2 nothing came", x.end(1200), 1200);
        x.end(1181);
        Check.due("2 beyond 1200 by one", x.feed(0, 0, 0, 0, 0), -1);
        x.end(1180);
        Check.due("2 just 1200", x.feed(0, 0, 0, 0, 0), 1200);
        LineKeeper y = new LineKeeper();
        // "f(){" "out " "12;}" and two numbers that are cut off: the highest byte stands first.
        y.feed(0x6628297b, 0x6f757420, 0x31323b7d, -1, -1);
        y.end(12);
        Check.due("2 order of bytes", y.read(), 1);
        y.start(0, 0, 0, 0, 0);
        y.go(2, 100);
        Check.due("2 number in the text", y.printed(0), 12);
    }

    private static void ending() {
        LineKeeper x = new LineKeeper();
        x.feed(0x6628297b, 0x7d202020, -1, -1, -1);
        Check.due("3 below 0", x.end(-1), -1);
        Check.due("3 more than there are", x.end(21), -1);
        Check.due("3 all", x.end(20), 20);
        Check.due("3 some", x.end(8), 8);
        Check.due("3 not back again", x.end(9), -1);
        Check.due("3 greatest", x.end(Integer.MAX_VALUE), -1);
        Check.due("3 the rest is a text", x.read(), 1);
        Check.due("3 the tape was taken", x.end(1), -1);
        Check.due("3 feed anew", x.feed(0, 0, 0, 0, 0), 20);
        Check.due("3 none", x.end(0), 0);
    }
}
