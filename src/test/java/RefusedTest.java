import java.util.ArrayList;
import java.util.List;
import java.util.function.Function;

/**
 * "A refused call changes nothing but the tape, which is empty behind each call that takes it": in each state, behind
 * each call that is refused there, all that can be asked is answered as it was, and what is done then answers as ever.
 */
public final class RefusedTest {
    private static final int MAX = Integer.MAX_VALUE;
    private static final int MIN = Integer.MIN_VALUE;
    private static final String TEXT = "h(s){t=s*2;out t;return t;}g(p){q=h(p+1);r=q;return q;}"
        + "f(a,b){c=1;if a{c=g(a);b=f(a-1,c);}out b;}";
    private static final String ON_TAPE = "k(){out 7;}";
    private static final int GROUPS = 6;

    /** A call that is refused: its name, what it answers, and itself. */
    private record Refused(String name, Object due, Function<LineKeeper, Object> call) {
    }

    private record State(String name, Function<LineKeeper, LineKeeper> make) {
        LineKeeper anew() {
            return make.apply(new LineKeeper());
        }
    }

    public static void main(String[] args) {
        for (State state : states()) {
            List<List<Object>> before = new ArrayList<>();
            for (int group = 0; group < GROUPS; group++) {
                before.add(ask(state.anew(), group, true));
            }
            for (Refused refused : refusals(state.anew())) {
                for (int group = 0; group < GROUPS; group++) {
                    LineKeeper x = state.anew();
                    Check.due(refused.name + " " + state.name, refused.call.apply(x), refused.due);
                    Check.due("behind the refused " + refused.name + " " + state.name + ", group " + group,
                        ask(x, group, true), before.get(group));
                }
            }
            faultyRead(state);
        }
        statesAreSo();
        askingChangesNothing();
        Check.finish();
    }

    /** The states are what their names say: how deep the STACK is (-1: no run), and whether the run FAILED. */
    private static void statesAreSo() {
        List<Integer> depths = new ArrayList<>();
        List<Integer> failed = new ArrayList<>();
        for (State state : states()) {
            LineKeeper x = state.anew();
            depths.add(x.run(4));
            failed.add(x.run(5));
        }
        Check.due("depths of the states", depths, List.of(-1, -1, -1, -1, -1, -1, 1, 2, 4, 0, 9, 2, -1, -1));
        Check.due("the state that FAILED", failed, List.of(-1, -1, -1, -1, -1, -1, 0, 0, 0, 0, 1, 0, -1, -1));
    }

    private static List<State> states() {
        return List.of(
            new State("of a new object", x -> x),
            new State("with a tape", x -> taped(x, ON_TAPE)),
            new State("with a full tape", x -> taped(x, ON_TAPE + " ".repeat(1200 - ON_TAPE.length()))),
            new State("with a tape that has no room for twenty", x -> taped(x, ON_TAPE + " ".repeat(1181 - ON_TAPE.length()))),
            new State("behind a FAULT", x -> read(x, "f(){x=g();}")),
            new State("behind a read", x -> taped(read(x, TEXT), ON_TAPE)),
            new State("at the beginning of a run", x -> taped(started(read(x, TEXT), 3, 0), ON_TAPE)),
            new State("within a run", x -> taped(started(read(x, TEXT), 2, 30), ON_TAPE)),
            new State("within a run of torn code", x -> taped(started(torn(read(x, TEXT)), 2, 60), ON_TAPE)),
            new State("of a run that is over", x -> taped(started(torn(read(x, TEXT)), 1, 9999), ON_TAPE)),
            new State("of a run that FAILED", x -> taped(started(torn(read(x, TEXT)), 50, 9999), ON_TAPE)),
            new State("behind a FAULT, within a run", x -> taped(read(started(read(x, TEXT), 2, 30), "f(a,a){}"), ON_TAPE)),
            new State("behind a pass", x -> taped(torn(started(read(x, TEXT), 2, 25)), ON_TAPE)),
            new State("behind an empty text", x -> read(compared(read(x, TEXT)), "")));
    }

    private static LineKeeper taped(LineKeeper x, String text) {
        Check.tape(x, text);
        return x;
    }

    private static LineKeeper read(LineKeeper x, String text) {
        Check.tape(x, text);
        x.read();
        return x;
    }

    private static LineKeeper torn(LineKeeper x) {
        x.pass(4, 1);
        x.pass(4, 2);
        x.pass(1, 2);
        x.pass(5, 2);
        return compared(x);
    }

    private static LineKeeper compared(LineKeeper x) {
        x.beside(2, 3, 5, 0, 0, 500);
        return x;
    }

    private static LineKeeper started(LineKeeper x, int a, int n) {
        x.start(2, a, 5, 0, 0);
        if (n > 0) {
            x.go(2, n);
        }
        return x;
    }

    private static void add(List<Refused> list, String name, Object due, Function<LineKeeper, Object> call) {
        list.add(new Refused(name, due, call));
    }

    /** What is refused in any state of that kind; the object is only looked at. */
    private static List<Refused> refusals(LineKeeper x) {
        List<Refused> list = new ArrayList<>();
        int routines = 0;
        while (x.routine(routines, 0) >= 0) {
            routines++;
        }
        int taped = taped(x);
        int none = routines;
        for (int n : new int[] {-1, MIN, taped + 1, 1201, MAX}) {
            add(list, "end(" + n + ")", -1, y -> y.end(n));
        }
        if (taped > 1180) {
            add(list, "feed", -1, y -> y.feed(1, 2, 3, 4, 5));
            add(list, "feed of blanks", -1, y -> y.feed(0x20202020, 0x20202020, 0x20202020, 0x20202020, 0x20202020));
        }
        for (int r : new int[] {-1, MIN, none, MAX}) {
            add(list, "pass(0, " + r + ")", -1, y -> y.pass(0, r));
            add(list, "pass(5, " + r + ")", -1, y -> y.pass(5, r));
            add(list, "start(" + r + ")", false, y -> y.start(r, 1, 2, 3, 4));
            add(list, "beside(" + r + ")", -1, y -> y.beside(r, 1, 2, 3, 4, 100));
            add(list, "routine(" + r + ")", -1, y -> y.routine(r, 0));
            add(list, "item(" + r + ")", -1, y -> y.item(r, 0, 0));
            add(list, "frame(" + r + ")", -1, y -> y.frame(r, 0, 0));
            add(list, "told(" + r + ")", -1, y -> y.told(r, 0, 0, 0, 0));
        }
        for (int kind : new int[] {-1, MIN, 6, MAX}) {
            add(list, "pass(" + kind + ", 0)", -1, y -> y.pass(kind, 0));
        }
        for (int n : new int[] {0, -1, MIN, 20001, MAX}) {
            add(list, "go(0, " + n + ")", -1, y -> y.go(0, n));
            add(list, "go(2, " + n + ")", -1, y -> y.go(2, n));
            add(list, "beside(0, .., " + n + ")", -1, y -> y.beside(0, 1, 2, 3, 4, n));
        }
        for (int how : new int[] {-1, MIN, 3, MAX}) {
            add(list, "go(" + how + ", 5)", -1, y -> y.go(how, 5));
        }
        if (x.run(0) < 0 && x.run(5) < 0) {
            add(list, "go(0, 5) without a run", -1, y -> y.go(0, 5));
            add(list, "go(2, 20000) without a run", -1, y -> y.go(2, 20000));
        }
        addQuestions(list);
        return list;
    }

    private static void addQuestions(List<Refused> list) {
        for (int what : new int[] {-1, MIN, 99, MAX}) {
            add(list, "fault(" + what + ")", -1, y -> y.fault(what));
            add(list, "routine(0, " + what + ")", -1, y -> y.routine(0, what));
            add(list, "item(0, 0, " + what + ")", -1, y -> y.item(0, 0, what));
            add(list, "frame(0, 0, " + what + ")", -1, y -> y.frame(0, 0, what));
            add(list, "told(0, 0, 0, 0, " + what + ")", -1, y -> y.told(0, 0, 0, 0, what));
            add(list, "stack(0, " + what + ")", -1, y -> y.stack(0, what));
            add(list, "stack(" + what + ", 0)", -1, y -> y.stack(what, 0));
            add(list, "known(0, " + what + ")", -1, y -> y.known(0, what));
            add(list, "known(" + what + ", 0)", -1, y -> y.known(what, 0));
            add(list, "value(0, " + what + ")", 0, y -> y.value(0, what));
            add(list, "value(" + what + ", 0)", 0, y -> y.value(what, 0));
            add(list, "run(" + what + ")", -1, y -> y.run(what));
            add(list, "printed(" + what + ")", 0, y -> y.printed(what));
            add(list, "compared(" + what + ")", -1, y -> y.compared(what));
        }
    }

    /** Cuts nothing: the greatest n that end() takes is what there is. */
    private static int taped(LineKeeper x) {
        int n = 1200;
        while (n > 0 && x.end(n) < 0) {
            n--;
        }
        return n;
    }

    private static List<Object> ask(LineKeeper x, int group, boolean fault) {
        List<Object> list = new ArrayList<>();
        switch (group) {
            case 0:
                askRoutines(x, list, fault);
                break;
            case 1:
                for (int r = 0; r < 3; r++) {
                    list.addAll(Check.items(x, r));
                }
                break;
            case 2:
                askTold(x, list);
                break;
            case 3:
                askRun(x, list);
                break;
            case 4:
                goOn(x, list);
                break;
            default:
                tapeOn(x, list);
                break;
        }
        return list;
    }

    private static void askRoutines(LineKeeper x, List<Object> list, boolean fault) {
        if (fault) {
            list.add(x.fault(0));
            list.add(x.fault(1));
        }
        for (int r = 0; r < 4; r++) {
            for (int what = 0; what < 12; what++) {
                list.add(x.routine(r, what));
            }
            for (int f = 0; f < 4; f++) {
                list.add(x.frame(r, f, 0));
                list.add(x.frame(r, f, 1));
                list.add(x.frame(r, f, 2));
            }
        }
    }

    private static void askTold(LineKeeper x, List<Object> list) {
        for (int k = 0; k <= x.routine(2, 0); k += 3) {
            for (int name = 0; name < 3; name++) {
                for (int f = 0; f < 3; f++) {
                    list.add(x.told(2, k, f, name, 0));
                    list.add(x.told(2, k, f, name, 3));
                }
            }
        }
    }

    private static void askRun(LineKeeper x, List<Object> list) {
        for (int i = 0; i < 6; i++) {
            list.add(x.run(i));
            list.add(x.printed(i));
            list.add(x.compared(i));
        }
        for (int k = 0; k < 10; k++) {
            for (int i = 0; i < 3; i++) {
                list.add(x.stack(k, i));
                list.add(x.known(k, i));
                list.add(x.value(k, i));
            }
        }
    }

    /** What is done then: the run goes on, to its end; passes and beside tell the same. */
    private static void goOn(LineKeeper x, List<Object> list) {
        for (int how : new int[] {0, 1, 0, 2, 0}) {
            list.add(x.go(how, 7));
            list.add(x.run(0));
            list.add(x.run(2));
            list.add(x.value(0, 0));
        }
        list.add(x.go(2, 20000));
        askRun(x, list);
        list.add(x.beside(2, 4, 1, 0, 0, 777));
        for (int kind = 0; kind < 6; kind++) {
            list.add(x.pass(kind, 2));
        }
        list.add(x.beside(2, 4, 1, 0, 0, 777));
        list.add(x.compared(0));
    }

    /** How many the tape has, and, read with what comes behind it, that it is what it was. */
    private static void tapeOn(LineKeeper x, List<Object> list) {
        list.add(x.feed(0x6d28297b, 0x6f757420, 0x39393939, 0x3b7d2020, 0x20202020));
        list.add(x.read());
        list.add(x.fault(0));
        list.add(x.fault(1));
        list.addAll(Check.items(x, 0));
        list.addAll(Check.items(x, 1));
    }

    /** A FAULT empties the tape and is told; all else is as it was. */
    private static void faultyRead(State state) {
        for (String text : new String[] {"f(", "f(){}f(){}", "f(){x=g();}", "f(a){a=f();}", "f(a,b,c,d,e){}", "!"}) {
            for (int group = 0; group < GROUPS; group++) {
                LineKeeper x = state.anew();
                x.end(0);
                List<Object> before = ask(x, group, false);
                LineKeeper y = state.anew();
                y.end(0);
                Check.tape(y, text);
                Check.due("a FAULT " + state.name, List.of(y.read(), y.fault(0) > 0, taped(y)), List.of(-1, true, 0));
                Check.due("behind the FAULT of " + text + " " + state.name + ", group " + group, ask(y, group, false), before);
            }
        }
    }

    /** Each question is asked twice, and in between all others were. */
    private static void askingChangesNothing() {
        for (State state : states()) {
            LineKeeper x = state.anew();
            List<List<Object>> first = new ArrayList<>();
            for (int group = 0; group < 4; group++) {
                first.add(ask(x, group, true));
            }
            for (int group = 3; group >= 0; group--) {
                Check.due("asked again " + state.name + ", group " + group, ask(x, group, true), first.get(group));
            }
        }
    }
}
