import java.util.ArrayList;
import java.util.Arrays;
import java.util.HashMap;
import java.util.List;
import java.util.Map;
import java.util.Random;

/** A program as a tree: made at random, written as a text, and run plainly, without any code. */
final class Text {
    /** op: '#' a number, 'n' a name, '_' minus of one, else the sign of the act. */
    static final class E {
        char op;
        int number;
        String name;
        E left;
        E right;
    }

    /** kind: '=' , 'c' a call, 'o' out, 'r' return, 'i' if, 'w' while. */
    static final class Statement {
        char kind;
        int line;
        String name;
        int called;
        List<E> es = new ArrayList<>();
        List<Statement> block;
        List<Statement> other;
    }

    static final class Routine {
        String name;
        int params;
        List<String> names = new ArrayList<>();
        List<Statement> block;
    }

    /** What there was at one LINE of a plain run. */
    static final class Event {
        List<Integer> routines = new ArrayList<>();
        List<Integer> lines = new ArrayList<>();
        List<int[]> values = new ArrayList<>();
        int printed;
    }

    private static final class Stop extends RuntimeException {
        private static final long serialVersionUID = 1L;
        final boolean failed;

        Stop(boolean failed) {
            super(null, null, false, false);
            this.failed = failed;
        }
    }

    private static final class Back extends RuntimeException {
        private static final long serialVersionUID = 1L;
        final int number;

        Back(int number) {
            super(null, null, false, false);
            this.number = number;
        }
    }

    private static final class Frame {
        int routine;
        int line;
        Map<String, Integer> values = new HashMap<>();
    }

    final List<Routine> routines = new ArrayList<>();
    final Random random;
    private int statements;
    private int most;
    private int rich;
    private List<String> pool;
    private String text;
    /** Some E come again, so that there is something alike. */
    private final List<E> older = new ArrayList<>();

    Text(Random random) {
        this.random = random;
    }

    // ---- making one at random

    static Text any(Random random) {
        for (;;) {
            Text text = new Text(random);
            text.invent();
            if (text.write().length() <= 1200 && deepest(text.write()) < 8) {
                return text;
            }
        }
    }

    /** A routine that is called in a ring that ends, so that what one turn leaves is there in the next one. */
    static Text turns(Random random) {
        Text text = new Text(random);
        text.inventTurns();
        return text;
    }

    private void inventTurns() {
        pool = Arrays.asList("a", "b", "c", "d").subList(0, 2 + random.nextInt(3));
        layered = true;
        for (int r = 0; r < 2; r++) {
            Routine routine = new Routine();
            routine.name = r == 0 ? "g" : "f";
            routine.params = r == 0 ? random.nextInt(2) : 1;
            routine.names.addAll(List.of(r == 0 ? "a" : "n").subList(0, routine.params));
            routines.add(routine);
        }
        routines.get(0).block = block(random.nextInt(4) == 0 ? 5 : 6, 2 + random.nextInt(6));
        inventing = 1;
        Statement ring = new Statement();
        ring.kind = 'w';
        ring.es.add(nameOf("n"));
        statements++;
        ring.block = block(6, 1 + random.nextInt(3));
        Statement less = new Statement();
        less.kind = '=';
        less.name = "n";
        E one = new E();
        one.op = '#';
        one.number = 1;
        E minus = new E();
        minus.op = '-';
        minus.left = nameOf("n");
        minus.right = one;
        less.es.add(minus);
        ring.block.add(less);
        routines.get(1).block = new ArrayList<>(List.of(ring));
        numberLines();
    }

    private static E nameOf(String name) {
        E e = new E();
        e.op = 'n';
        e.name = name;
        return e;
    }

    /** How many ( stand open at most. */
    private static int deepest(String text) {
        int depth = 0;
        int most = 0;
        for (char c : text.toCharArray()) {
            depth += c == '(' ? 1 : c == ')' ? -1 : 0;
            most = Math.max(most, depth);
        }
        return most;
    }

    private void invent() {
        int n = 1 + random.nextInt(random.nextInt(4) == 0 ? 6 : 3);
        most = 3 + random.nextInt(38);
        rich = random.nextInt(3);
        layered = random.nextBoolean();
        pool = Arrays.asList("a", "b", "c", "k", "ou", "abcdef", "x", "zz", "i", "j").subList(0,
            2 + random.nextInt(9));
        for (int r = 0; r < n; r++) {
            Routine routine = new Routine();
            routine.name = r == 0 && random.nextBoolean() ? "a" : "f" + (char) ('a' + r);
            routine.params = random.nextInt(Math.min(5, pool.size() + 1));
            List<String> mixed = new ArrayList<>(pool);
            java.util.Collections.shuffle(mixed, random);
            routine.names.addAll(mixed.subList(0, routine.params));
            routines.add(routine);
        }
        for (int r = 0; r < n; r++) {
            int left = most - statements - (n - 1 - r);
            int share = r == n - 1 ? left : Math.min(left, random.nextInt(Math.max(1, left)) + 1);
            if (r < n - 1 && random.nextInt(layered ? 2 : 3) > 0) {
                share = Math.min(share, 4);
            }
            inventing = r;
            routines.get(r).block = block(1, Math.max(0, share));
        }
        numberLines();
    }

    private int inventing;
    /** Calls go to routines ahead alone, so that much can be melted. */
    private boolean layered;

    private List<Statement> block(int depth, int n) {
        List<Statement> list = new ArrayList<>();
        int stop = statements + n;
        while (statements < stop) {
            statements++;
            list.add(statement(depth, stop));
        }
        return list;
    }

    private Statement statement(int depth, int stop) {
        Statement s = new Statement();
        int dice = random.nextInt(20);
        int left = stop - statements;
        s.kind = dice < 9 ? '=' : dice < 12 ? 'c' : dice < 14 ? 'o' : dice < 15 ? 'r' : dice < 18 ? 'i' : 'w';
        if (s.kind == 'r' && random.nextInt(3) != 0) {
            s.kind = '=';
        }
        if ((s.kind == 'i' || s.kind == 'w') && depth >= 6) {
            s.kind = 'o';
        }
        if (s.kind == '=' || s.kind == 'c') {
            s.name = pool.get(random.nextInt(pool.size()));
        }
        if (layered && s.kind == '=' && inventing > 0 && random.nextInt(3) == 0) {
            s.kind = 'c';
        }
        if (s.kind == 'c' && layered) {
            if (inventing == 0) {
                s.kind = '=';
            } else {
                s.called = random.nextInt(inventing);
            }
        } else if (s.kind == 'c') {
            s.called = random.nextInt(4) == 0 ? random.nextInt(routines.size())
                : random.nextInt(2) * (routines.size() - 1);
        }
        if (s.kind == 'c') {
            for (int i = 0; i < routines.get(s.called).params; i++) {
                s.es.add(e(random.nextInt(2)));
            }
        } else {
            s.es.add(e(random.nextInt(2 + rich)));
        }
        if (s.kind == 'i' || s.kind == 'w') {
            s.block = block(depth + 1, Math.min(left, random.nextInt(5)));
            left = stop - statements;
            if (s.kind == 'i' && random.nextBoolean()) {
                s.other = block(depth + 1, Math.min(left, random.nextInt(4)));
            }
        }
        return s;
    }

    private E e(int depth) {
        E e = new E();
        int dice = random.nextInt(12);
        if (depth == 0 || dice < 4) {
            e.op = random.nextInt(3) == 0 ? '#' : 'n';
            e.number = random.nextInt(20) == 0 ? random.nextInt(10000000) : random.nextInt(4);
            e.name = pool.get(random.nextInt(pool.size()));
            return e;
        }
        if (!older.isEmpty() && random.nextInt(3) == 0) {
            return older.get(random.nextInt(older.size()));
        }
        e.op = "_++--**=<<+-".charAt(dice);
        e.left = e(depth - 1);
        if (e.op != '_') {
            e.right = e(depth - 1);
        }
        older.add(e);
        return e;
    }

    private void numberLines() {
        int line = 0;
        for (Routine r : routines) {
            line = number(r, r.block, line);
        }
    }

    /** Lines as they stand in the text, and names as they come first. */
    private int number(Routine r, List<Statement> block, int from) {
        int line = from;
        for (Statement s : block) {
            line++;
            s.line = line;
            if (s.name != null) {
                name(r, s.name);
            }
            for (E e : s.es) {
                names(r, e);
            }
            if (s.block != null) {
                line = number(r, s.block, line);
            }
            if (s.other != null) {
                line = number(r, s.other, line);
            }
        }
        return line;
    }

    private void names(Routine r, E e) {
        if (e.op == 'n') {
            name(r, e.name);
        }
        if (e.left != null) {
            names(r, e.left);
        }
        if (e.right != null) {
            names(r, e.right);
        }
    }

    private void name(Routine r, String name) {
        if (!r.names.contains(name)) {
            r.names.add(name);
        }
    }

    // ---- writing it

    String write() {
        if (text == null) {
            StringBuilder b = new StringBuilder();
            for (Routine r : routines) {
                b.append(blank()).append(r.name).append(blank()).append('(');
                for (int i = 0; i < r.params; i++) {
                    b.append(i == 0 ? "" : ",").append(blank()).append(r.names.get(i));
                }
                b.append(')').append(blank());
                write(b, r.block);
            }
            text = b.toString();
        }
        return text;
    }

    private String blank() {
        int dice = random.nextInt(12);
        return dice == 0 ? " " : dice == 1 ? "\n" : "";
    }

    private void write(StringBuilder b, List<Statement> block) {
        b.append('{');
        for (Statement s : block) {
            b.append(blank());
            switch (s.kind) {
                case '=':
                    b.append(s.name).append(blank()).append('=').append(blank());
                    write(b, s.es.get(0), 0);
                    b.append(';');
                    break;
                case 'c':
                    b.append(s.name).append('=').append(blank()).append(routines.get(s.called).name).append(blank())
                        .append('(');
                    for (int i = 0; i < s.es.size(); i++) {
                        b.append(i == 0 ? "" : ",");
                        write(b, s.es.get(i), 0);
                    }
                    b.append(')').append(blank()).append(';');
                    break;
                case 'o':
                case 'r':
                    b.append(s.kind == 'o' ? "out " : "return ");
                    write(b, s.es.get(0), 0);
                    b.append(';');
                    break;
                default:
                    b.append(s.kind == 'i' ? "if " : "while ");
                    write(b, s.es.get(0), 0);
                    b.append(blank());
                    write(b, s.block);
                    if (s.other != null) {
                        b.append(blank()).append("else").append(blank());
                        write(b, s.other);
                    }
            }
        }
        b.append(blank()).append('}');
    }

    private void write(StringBuilder b, E e, int level) {
        int mine = e.op == '=' || e.op == '<' ? 0 : e.op == '+' || e.op == '-' ? 1 : e.op == '*' ? 2
            : e.op == '_' ? 3 : 4;
        if (mine < level || random.nextInt(30) == 0) {
            b.append('(');
            write(b, e, 0);
            b.append(')');
        } else if (e.op == '#') {
            b.append(e.number);
        } else if (e.op == 'n') {
            b.append(e.name);
        } else if (e.op == '_') {
            b.append('-');
            write(b, e.left, 4);
        } else {
            write(b, e.left, mine == 0 ? 1 : mine);
            b.append(blank()).append(e.op).append(blank());
            write(b, e.right, mine + 1);
        }
    }

    // ---- running it plainly

    final List<Event> events = new ArrayList<>();
    final List<Integer> printed = new ArrayList<>();
    private final List<Frame> frames = new ArrayList<>();
    private int eventLimit;
    boolean failed;
    boolean ended;
    int returned;

    void runPlainly(int r, int[] given, int limit) {
        events.clear();
        printed.clear();
        frames.clear();
        eventLimit = limit;
        failed = false;
        ended = false;
        returned = 0;
        try {
            returned = call(r, given);
            ended = true;
        } catch (Stop stop) {
            failed = stop.failed;
        }
    }

    private int call(int r, int[] given) {
        if (frames.size() == 9) {
            throw new Stop(true);
        }
        Frame frame = new Frame();
        frame.routine = r;
        Routine routine = routines.get(r);
        for (int i = 0; i < routine.names.size(); i++) {
            frame.values.put(routine.names.get(i), i < routine.params ? given[i] : 0);
        }
        frames.add(frame);
        int number = 0;
        try {
            doBlock(frame, routine.block);
        } catch (Back back) {
            number = back.number;
        }
        frames.remove(frames.size() - 1);
        return number;
    }

    private void line(Frame frame, int line) {
        frame.line = line;
        if (events.size() >= eventLimit) {
            throw new Stop(false);
        }
        Event event = new Event();
        for (int k = frames.size() - 1; k >= 0; k--) {
            Frame f = frames.get(k);
            event.routines.add(f.routine);
            event.lines.add(f.line);
            List<String> names = routines.get(f.routine).names;
            int[] values = new int[names.size()];
            for (int i = 0; i < values.length; i++) {
                values[i] = f.values.get(names.get(i));
            }
            event.values.add(values);
        }
        event.printed = printed.size();
        events.add(event);
    }

    private void doBlock(Frame frame, List<Statement> block) {
        for (Statement s : block) {
            line(frame, s.line);
            switch (s.kind) {
                case '=':
                    frame.values.put(s.name, value(frame, s.es.get(0)));
                    break;
                case 'c':
                    int[] given = new int[4];
                    for (int i = 0; i < s.es.size(); i++) {
                        given[i] = value(frame, s.es.get(i));
                    }
                    int number = call(s.called, given);
                    frame.values.put(s.name, number);
                    break;
                case 'o':
                    printed.add(value(frame, s.es.get(0)));
                    break;
                case 'r':
                    throw new Back(value(frame, s.es.get(0)));
                case 'i':
                    if (value(frame, s.es.get(0)) != 0) {
                        doBlock(frame, s.block);
                    } else if (s.other != null) {
                        doBlock(frame, s.other);
                    }
                    break;
                default:
                    while (value(frame, s.es.get(0)) != 0) {
                        doBlock(frame, s.block);
                        line(frame, s.line);
                    }
            }
        }
    }

    private int value(Frame frame, E e) {
        switch (e.op) {
            case '#': return e.number;
            case 'n': return frame.values.get(e.name);
            case '_': return -value(frame, e.left);
            case '+': return value(frame, e.left) + value(frame, e.right);
            case '-': return value(frame, e.left) - value(frame, e.right);
            case '*': return value(frame, e.left) * value(frame, e.right);
            case '=': return value(frame, e.left) == value(frame, e.right) ? 1 : 0;
            default: return value(frame, e.left) < value(frame, e.right) ? 1 : 0;
        }
    }
}
