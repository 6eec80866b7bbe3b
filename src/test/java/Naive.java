import java.util.ArrayDeque;
import java.util.ArrayList;
import java.util.Deque;
import java.util.HashMap;
import java.util.HashSet;
import java.util.List;
import java.util.Map;
import java.util.Objects;
import java.util.Set;
import java.util.TreeMap;
import java.util.TreeSet;

/** Code, passes, tellings and runs, done over lists and by searching ways, as slowly and plainly as may be. */
final class Naive {
    static final int COPY = 0;
    static final int LESS = 5;
    static final int OUT = 6;
    static final int RETURN = 7;
    static final int JUMP = 8;
    static final int ZERO = 9;
    static final int CALL = 10;
    static final int LINE = 11;
    static final int BIND = 12;
    static final int LABEL = 13;
    static final int ENTER = 14;
    static final int LEAVE = 15;

    record Op(boolean reg, int n) {
    }

    /** kind as item() tells it at 7. */
    record Where(int kind, int n, Op a, Op b) {
        boolean leansOn(int r) {
            return kind == 2 && n == r || a != null && a.reg && a.n == r || b != null && b.reg && b.n == r;
        }
    }

    static Where gone(int why) {
        return new Where(10 + why, 0, null, null);
    }

    static final class Item {
        int kind;
        int x;
        int y;
        List<Op> ops = new ArrayList<>();
        Where where;

        Item(int kind, int x, int y, Op... ops) {
            this.kind = kind;
            this.x = x;
            this.y = y;
            this.ops.addAll(List.of(ops));
        }

        boolean pure() {
            return kind <= LESS;
        }

        boolean five() {
            return kind >= 1 && kind <= LESS;
        }

        boolean act() {
            return kind <= CALL;
        }

        boolean writes(int r) {
            return (pure() || kind == CALL) && x == r;
        }

        boolean writes() {
            return pure() || kind == CALL;
        }

        boolean reads(int r) {
            return ops.contains(new Op(true, r));
        }
    }

    record Frame(int routine, int parent, int line) {
    }

    static final class Code {
        List<Item> items = new ArrayList<>();
        List<Frame> frames = new ArrayList<>();
        List<List<Integer>> homes = new ArrayList<>();
        int params;

        int names() {
            return homes.get(0).size();
        }

        List<Integer> next(int k) {
            List<Integer> list = new ArrayList<>();
            Item item = items.get(k);
            if (item.kind != JUMP && item.kind != RETURN) {
                list.add(k + 1);
            }
            if (item.kind == JUMP || item.kind == ZERO) {
                for (int i = 0; i < items.size(); i++) {
                    if (items.get(i).kind == LABEL && items.get(i).x == item.x) {
                        list.add(i);
                    }
                }
            }
            return list;
        }

        /** All places reached from one on; the ways end behind what writes the REGISTER. */
        Set<Integer> reach(int from, int register) {
            Set<Integer> seen = new HashSet<>();
            Deque<Integer> todo = new ArrayDeque<>();
            todo.add(from);
            while (!todo.isEmpty()) {
                int k = todo.poll();
                if (!seen.add(k) || k >= items.size() || items.get(k).writes(register)) {
                    continue;
                }
                todo.addAll(next(k));
            }
            return seen;
        }

        boolean lives(int k, int r) {
            for (int i : reach(k, r)) {
                if (i < items.size() && items.get(i).reads(r)) {
                    return true;
                }
            }
            return false;
        }

        int registers() {
            int most = -1;
            for (List<Integer> home : homes) {
                for (int r : home) {
                    most = Math.max(most, r);
                }
            }
            for (Item item : items) {
                if (item.writes()) {
                    most = Math.max(most, item.x);
                }
                for (Op op : item.ops) {
                    most = Math.max(most, op.reg ? op.n : -1);
                }
                for (int r = 0; item.where != null && r < 300; r++) {
                    most = Math.max(most, item.where.leansOn(r) ? r : -1);
                }
            }
            return most + 1;
        }

        int acts() {
            return (int) items.stream().filter(Item::act).count();
        }

        int greatestLabel() {
            int most = -1;
            for (Item item : items) {
                if (item.kind == JUMP || item.kind == ZERO || item.kind == LABEL) {
                    most = Math.max(most, item.x);
                }
            }
            return most;
        }
    }

    // ---- making code of a tree

    private Code making;
    private List<String> names;
    private int news;
    private int labels;

    Code make(Text text, int r) {
        Text.Routine routine = text.routines.get(r);
        making = new Code();
        names = routine.names;
        making.params = routine.params;
        making.frames.add(new Frame(r, -1, 0));
        List<Integer> home = new ArrayList<>();
        for (int i = 0; i < names.size(); i++) {
            home.add(i);
        }
        making.homes.add(home);
        news = names.size();
        labels = 0;
        makeBlock(routine.block);
        add(RETURN, 0, 0, new Op(false, 0));
        return making;
    }

    private Item add(int kind, int x, int y, Op... ops) {
        Item item = new Item(kind, x, y, ops);
        making.items.add(item);
        return item;
    }

    private void makeBlock(List<Text.Statement> block) {
        for (Text.Statement s : block) {
            int first = -1;
            if (s.kind == 'w') {
                first = labels++;
                add(LABEL, first, 0);
            }
            add(LINE, s.line, 0);
            List<Op> ops = new ArrayList<>();
            for (Text.E e : s.es) {
                ops.add(makeE(e));
            }
            if (s.kind == '=' || s.kind == 'c') {
                int r = names.indexOf(s.name);
                add(s.kind == '=' ? COPY : CALL, r, s.kind == '=' ? 0 : s.called, ops.toArray(new Op[0]));
                add(BIND, r, 0).where = new Where(2, r, null, null);
            } else if (s.kind == 'o' || s.kind == 'r') {
                add(s.kind == 'o' ? OUT : RETURN, 0, 0, ops.get(0));
            } else {
                int out = labels++;
                add(ZERO, out, 0, ops.get(0));
                makeBlock(s.block);
                if (s.kind == 'w') {
                    add(JUMP, first, 0);
                    add(LABEL, out, 0);
                } else if (s.other == null) {
                    add(LABEL, out, 0);
                } else {
                    int end = labels++;
                    add(JUMP, end, 0);
                    add(LABEL, out, 0);
                    makeBlock(s.other);
                    add(LABEL, end, 0);
                }
            }
        }
    }

    private Op makeE(Text.E e) {
        if (e.op == '#') {
            return new Op(false, e.number);
        }
        if (e.op == 'n') {
            return new Op(true, names.indexOf(e.name));
        }
        Op left = e.op == '_' ? new Op(false, 0) : makeE(e.left);
        Op right = makeE(e.op == '_' ? e.left : e.right);
        int kind = e.op == '_' ? 2 : 1 + "+-*=<".indexOf(e.op);
        int r = news++;
        add(kind, r, 0, left, right);
        return new Op(true, r);
    }

    static int reckon(int kind, int a, int b) {
        return kind == 0 ? a : kind == 1 ? a + b : kind == 2 ? a - b : kind == 3 ? a * b
            : kind == 4 ? (a == b ? 1 : 0) : (a < b ? 1 : 0);
    }

    // ---- what is told

    /** Of each place (one behind the last, too): FRAME, name -> WHERE; null if it can't be reached. */
    static List<Map<List<Integer>, Where>> tell(Code c) {
        int n = c.items.size();
        List<Map<List<Integer>, Where>> ahead = new ArrayList<>();
        for (int k = 0; k <= n; k++) {
            ahead.add(null);
        }
        Map<List<Integer>, Where> start = new HashMap<>();
        for (int f = 0; f < c.frames.size(); f++) {
            for (int i = 0; i < c.homes.get(f).size(); i++) {
                start.put(List.of(f, i), f > 0 ? gone(1) : i < c.params ? new Where(2, c.homes.get(0).get(i), null, null)
                    : new Where(1, 0, null, null));
            }
        }
        List<List<Integer>> from = new ArrayList<>();
        for (int k = 0; k <= n; k++) {
            from.add(new ArrayList<>());
        }
        for (int k = 0; k < n; k++) {
            for (int to : c.next(k)) {
                from.get(to).add(k);
            }
        }
        for (boolean changed = true; changed;) {
            changed = false;
            for (int k = 0; k <= n; k++) {
                Map<List<Integer>, Where> is = k == 0 ? start : null;
                for (int p : from.get(k)) {
                    is = meet(is, behind(c.items.get(p), ahead.get(p)));
                }
                if (!Objects.equals(is, ahead.get(k))) {
                    ahead.set(k, is);
                    changed = true;
                }
            }
        }
        return ahead;
    }

    private static Map<List<Integer>, Where> behind(Item item, Map<List<Integer>, Where> state) {
        if (state == null) {
            return null;
        }
        Map<List<Integer>, Where> is = new HashMap<>(state);
        if (item.writes()) {
            is.replaceAll((name, where) -> where.leansOn(item.x) ? gone(3) : where);
        }
        if (item.kind == BIND) {
            is.put(List.of(item.y, item.x), item.where);
        }
        if (item.kind == LEAVE) {
            is.replaceAll((name, where) -> name.get(0) == item.x ? gone(1) : where);
        }
        return is;
    }

    private static Map<List<Integer>, Where> meet(Map<List<Integer>, Where> a, Map<List<Integer>, Where> b) {
        if (a == null || b == null) {
            return a == null ? b : a;
        }
        Map<List<Integer>, Where> is = new HashMap<>();
        a.forEach((name, where) -> is.put(name, where.equals(b.get(name)) ? where : gone(4)));
        return is;
    }

    // ---- the passes

    static int pass(int kind, List<Code> codes, int r) {
        Code c = codes.get(r);
        switch (kind) {
            case 0: return fold(c);
            case 1: return drop(c);
            case 2: return move(c);
            case 3: return alike(c);
            case 4: return melt(codes, r);
            default: return share(c);
        }
    }

    private static int fold(Code c) {
        Map<Integer, Op> known = new HashMap<>();
        List<Item> kept = new ArrayList<>();
        int told = 0;
        for (Item item : c.items) {
            if (item.kind == LABEL) {
                known.clear();
            }
            if (item.kind == BIND && item.where.kind == 2) {
                Op op = known.get(item.where.n);
                if (op != null && !op.reg) {
                    item.where = new Where(1, op.n, null, null);
                }
            }
            boolean out = false;
            if (item.act()) {
                List<Op> was = new ArrayList<>(item.ops);
                int kindWas = item.kind;
                item.ops.replaceAll(op -> op.reg && known.containsKey(op.n) ? known.get(op.n) : op);
                boolean consts = !item.ops.isEmpty() && item.ops.stream().noneMatch(Op::reg);
                if (item.five() && consts) {
                    int number = reckon(item.kind, item.ops.get(0).n, item.ops.get(1).n);
                    item.kind = COPY;
                    item.ops = new ArrayList<>(List.of(new Op(false, number)));
                }
                if (item.kind == ZERO && consts) {
                    if (item.ops.get(0).n == 0) {
                        item.kind = JUMP;
                        item.ops.clear();
                    } else {
                        out = true;
                    }
                }
                if (out || kindWas != item.kind || !was.equals(item.ops)) {
                    told++;
                }
            }
            if (item.writes()) {
                int r = item.x;
                known.remove(r);
                known.values().removeIf(op -> op.reg && op.n == r);
                if (item.kind == COPY && !item.ops.get(0).equals(new Op(true, r))) {
                    known.put(r, item.ops.get(0));
                }
            }
            if (!out) {
                kept.add(item);
            }
        }
        c.items = kept;
        return told;
    }

    private static int drop(Code c) {
        Set<Integer> reached = c.reach(0, -1);
        int told = 0;
        List<Item> kept = new ArrayList<>();
        for (int k = 0; k < c.items.size(); k++) {
            if (reached.contains(k)) {
                kept.add(c.items.get(k));
            } else if (c.items.get(k).act()) {
                told++;
            }
        }
        c.items = kept;
        for (;;) {
            int last = c.items.size() - 1;
            while (last >= 0 && !(c.items.get(last).pure() && !c.lives(last + 1, c.items.get(last).x))) {
                last--;
            }
            if (last < 0) {
                return told;
            }
            told++;
            dropOne(c, last);
        }
    }

    private static void dropOne(Code c, int k) {
        Item out = c.items.get(k);
        int r = out.x;
        Set<Item> near = new HashSet<>();
        for (int i = k + 1; i < c.items.size() && (c.items.get(i).kind == LINE || c.items.get(i).kind == BIND); i++) {
            near.add(c.items.get(i));
        }
        for (int i : c.reach(k + 1, r)) {
            Item item = i < c.items.size() ? c.items.get(i) : null;
            if (item == null || item.kind != BIND || !item.where.leansOn(r)) {
                continue;
            }
            if (near.contains(item) && item.where.kind == 2) {
                Op a = out.ops.get(0);
                item.where = out.kind == COPY ? new Where(a.reg ? 2 : 1, a.n, null, null)
                    : new Where(2 + out.kind, 0, a, out.ops.get(1));
            } else {
                item.where = gone(2);
            }
        }
        c.items.remove(k);
    }

    private static int move(Code c) {
        int told = 0;
        List<Item> labels = new ArrayList<>();
        for (Item item : c.items) {
            if (item.kind == LABEL) {
                labels.add(0, item);
            }
        }
        for (Item label : labels) {
            for (;;) {
                int from = c.items.indexOf(label);
                int to = -1;
                for (int k = from; k < c.items.size(); k++) {
                    if (c.items.get(k).kind == JUMP && c.items.get(k).x == label.x) {
                        to = k;
                    }
                }
                int found = -1;
                for (int k = from; k <= to && found < 0; k++) {
                    if (movable(c, k, from, to)) {
                        found = k;
                    }
                }
                if (found < 0) {
                    break;
                }
                c.items.add(from, c.items.remove(found));
                told++;
            }
        }
        return told;
    }

    private static boolean movable(Code c, int k, int from, int to) {
        Item item = c.items.get(k);
        if (!item.pure() || c.homes.stream().anyMatch(home -> home.contains(item.x))) {
            return false;
        }
        if (c.items.stream().filter(i -> i.writes(item.x)).count() != 1) {
            return false;
        }
        for (int i = from; i <= to; i++) {
            Item other = c.items.get(i);
            if (other.writes() && item.reads(other.x)) {
                return false;
            }
        }
        return true;
    }

    private static int alike(Code c) {
        int told = 0;
        /* What each REGISTER is the result of, the latest last; a list forgets what is written. */
        List<Item> ready = new ArrayList<>();
        for (Item item : c.items) {
            if (item.kind == LABEL) {
                ready.clear();
            }
            Item twin = null;
            if (item.five()) {
                for (Item other : ready) {
                    if (other.kind == item.kind && other.ops.equals(item.ops)) {
                        twin = other;
                    }
                }
            }
            if (twin != null) {
                item.kind = COPY;
                item.ops = new ArrayList<>(List.of(new Op(true, twin.x)));
                told++;
            }
            if (item.writes()) {
                ready.removeIf(other -> other.x == item.x || other.reads(item.x));
                if (item.five() && !item.reads(item.x)) {
                    ready.add(item);
                }
            }
        }
        return told;
    }

    private static int melt(List<Code> codes, int r) {
        Code host = codes.get(r);
        int told = 0;
        List<Item> calls = new ArrayList<>();
        for (Item item : host.items) {
            if (item.kind == CALL) {
                calls.add(item);
            }
        }
        for (Item call : calls) {
            Code guest = codes.get(call.y);
            if (call.y == r || guest.acts() > 20 || guest.items.stream().anyMatch(i -> i.kind == CALL)) {
                continue;
            }
            if (meltOne(host, guest, call)) {
                told++;
            }
        }
        return told;
    }

    private static boolean meltOne(Code host, Code guest, Item call) {
        int base = host.registers();
        int labels = host.greatestLabel() + 1;
        int frames = host.frames.size();
        List<Item> in = new ArrayList<>();
        in.add(new Item(ENTER, frames, 0));
        for (int i = 0; i < guest.names(); i++) {
            int home = guest.homes.get(0).get(i) + base;
            if (i < guest.params) {
                in.add(new Item(COPY, home, 0, call.ops.get(i)));
            }
            Item bind = new Item(BIND, i, frames);
            bind.where = i < guest.params ? new Where(2, home, null, null) : new Where(1, 0, null, null);
            in.add(bind);
        }
        for (int q = 0; q < guest.registers(); q++) {
            if (guest.lives(0, q) && !guest.homes.get(0).subList(0, guest.params).contains(q)) {
                in.add(new Item(COPY, q + base, 0, new Op(false, 0)));
            }
        }
        int end = Math.max(host.greatestLabel(), guest.greatestLabel() < 0 ? -1 : guest.greatestLabel() + labels) + 1;
        for (Item item : guest.items) {
            Item copy = new Item(item.kind, item.x, item.y);
            for (Op op : item.ops) {
                copy.ops.add(shift(op, base));
            }
            in.add(copy);
            switch (item.kind) {
                case RETURN:
                    copy.kind = COPY;
                    copy.x = call.x;
                    in.add(new Item(JUMP, end, 0));
                    break;
                case JUMP:
                case ZERO:
                case LABEL:
                    copy.x += labels;
                    break;
                case LINE:
                    copy.y += frames;
                    break;
                case BIND:
                    copy.y += frames;
                    Where w = item.where;
                    copy.where = new Where(w.kind, w.n + (w.kind == 2 ? base : 0), shift(w.a, base), shift(w.b, base));
                    break;
                case ENTER:
                case LEAVE:
                    copy.x += frames;
                    break;
                case OUT:
                    break;
                default:
                    copy.x += base;
            }
        }
        in.add(new Item(LABEL, end, 0));
        in.add(new Item(LEAVE, frames, 0));
        if (host.items.size() - 1 + in.size() > 200 || frames + guest.frames.size() > 12) {
            return false;
        }
        Code then = new Code();
        then.items.addAll(host.items);
        int at = then.items.indexOf(call);
        then.items.remove(at);
        then.items.addAll(at, in);
        then.homes.addAll(host.homes);
        for (List<Integer> home : guest.homes) {
            List<Integer> moved = new ArrayList<>(home);
            moved.replaceAll(q -> q + base);
            then.homes.add(moved);
        }
        if (then.registers() > 100) {
            return false;
        }
        int line = at;
        while (host.items.get(line).kind != LINE) {
            line--;
        }
        for (int f = 0; f < guest.frames.size(); f++) {
            Frame frame = guest.frames.get(f);
            host.frames.add(f == 0 ? new Frame(frame.routine, host.items.get(line).y, host.items.get(line).x)
                : new Frame(frame.routine, frame.parent + frames, frame.line));
        }
        host.items = then.items;
        host.homes = then.homes;
        return true;
    }

    private static Op shift(Op op, int base) {
        return op != null && op.reg ? new Op(true, op.n + base) : op;
    }

    private static int share(Code c) {
        int n = c.registers();
        Set<Integer> first = new TreeSet<>(c.homes.get(0).subList(0, c.params));
        for (int r = 0; r < n; r++) {
            if (c.lives(0, r)) {
                first.add(r);
            }
        }
        boolean[][] odds = new boolean[n][n];
        for (int a : first) {
            for (int b : first) {
                odds[a][b] = true;
            }
        }
        for (int k = 0; k < c.items.size(); k++) {
            for (int q = 0; c.items.get(k).writes() && q < n; q++) {
                if (c.lives(k + 1, q)) {
                    odds[c.items.get(k).x][q] = true;
                    odds[q][c.items.get(k).x] = true;
                }
            }
        }
        int[] number = new int[n];
        for (int r = 0; r < n; r++) {
            Set<Integer> used = new HashSet<>();
            for (int q = 0; q < r; q++) {
                if (odds[r][q]) {
                    used.add(number[q]);
                }
            }
            while (used.contains(number[r])) {
                number[r]++;
            }
        }
        Set<Integer> reached = c.reach(0, -1);
        Map<Item, Boolean> lost = new HashMap<>();
        for (int k = 0; k < c.items.size(); k++) {
            Item item = c.items.get(k);
            for (int r = 0; item.kind == BIND && reached.contains(k) && r < n; r++) {
                if (item.where.leansOn(r) && isLost(c, reached, first, number, k, r)) {
                    lost.put(item, true);
                }
            }
        }
        for (Item item : c.items) {
            if (item.writes()) {
                item.x = number[item.x];
            }
            item.ops.replaceAll(op -> op.reg ? new Op(true, number[op.n]) : op);
            if (item.kind == BIND) {
                Where w = item.where;
                item.where = lost.containsKey(item) ? gone(3)
                    : new Where(w.kind, w.kind == 2 ? number[w.n] : w.n,
                        w.a != null && w.a.reg ? new Op(true, number[w.a.n]) : w.a,
                        w.b != null && w.b.reg ? new Op(true, number[w.b.n]) : w.b);
            }
        }
        for (List<Integer> home : c.homes) {
            home.replaceAll(q -> number[q]);
        }
        return c.registers();
    }

    /** Whether there is a way, sought backwards, on which something else than r came last to its number. */
    private static boolean isLost(Code c, Set<Integer> reached, Set<Integer> first, int[] number, int bind, int r) {
        Set<Integer> seen = new HashSet<>();
        Deque<Integer> todo = new ArrayDeque<>();
        todo.add(bind);
        while (!todo.isEmpty()) {
            int k = todo.poll();
            if (!seen.add(k)) {
                continue;
            }
            if (k == 0 && !first.contains(r)) {
                return true;
            }
            for (int p = 0; p < c.items.size(); p++) {
                if (!reached.contains(p) || !c.next(p).contains(k)) {
                    continue;
                }
                Item item = c.items.get(p);
                if (!item.writes() || number[item.x] != number[r]) {
                    todo.add(p);
                } else if (item.x != r) {
                    return true;
                }
            }
        }
        return false;
    }

    // ---- runs

    static final class Call {
        int routine;
        int k;
        Map<Integer, Integer> registers = new TreeMap<>();
        List<Integer> entered = new ArrayList<>(List.of(0));
        Map<Integer, Integer> lines = new HashMap<>();
    }

    /** A run by the codes as they are. */
    static final class Run {
        final List<Code> codes;
        final List<Call> calls = new ArrayList<>();
        final List<Integer> printed = new ArrayList<>();
        private final Map<Integer, List<Map<List<Integer>, Where>>> tellings;
        boolean over;
        boolean failed;
        int returned;
        int gone;

        Run(List<Code> codes, Map<Integer, List<Map<List<Integer>, Where>>> tellings, int r, int... given) {
            this.codes = codes;
            this.tellings = tellings;
            open(r, given);
        }

        private void open(int r, int[] given) {
            Call call = new Call();
            call.routine = r;
            for (int i = 0; i < codes.get(r).params; i++) {
                call.registers.put(codes.get(r).homes.get(0).get(i), given[i]);
            }
            calls.add(call);
        }

        int depth() {
            int n = 0;
            for (Call call : calls) {
                n += call.entered.size();
            }
            return n;
        }

        private int value(Call call, Op op) {
            return op.reg ? call.registers.getOrDefault(op.n, 0) : op.n;
        }

        /** Whether it was a LINE. */
        boolean step() {
            Call call = calls.get(calls.size() - 1);
            Code c = codes.get(call.routine);
            Item item = c.items.get(call.k);
            if ((item.kind == CALL || item.kind == ENTER) && depth() - 1 == 8) {
                failed = true;
                return false;
            }
            gone++;
            if (item.kind == CALL) {
                int[] given = new int[4];
                for (int i = 0; i < item.ops.size(); i++) {
                    given[i] = value(call, item.ops.get(i));
                }
                open(item.y, given);
                return false;
            }
            if (item.kind == RETURN) {
                int number = value(call, item.ops.get(0));
                calls.remove(calls.size() - 1);
                if (calls.isEmpty()) {
                    over = true;
                    returned = number;
                } else {
                    Call back = calls.get(calls.size() - 1);
                    back.registers.put(codes.get(back.routine).items.get(back.k).x, number);
                    back.k++;
                }
                return false;
            }
            List<Integer> next = c.next(call.k);
            int to = next.get(0);
            switch (item.kind) {
                case OUT:
                    printed.add(value(call, item.ops.get(0)));
                    break;
                case ZERO:
                    to = value(call, item.ops.get(0)) == 0 ? next.get(1) : to;
                    break;
                case LINE:
                    call.lines.put(item.y, item.x);
                    break;
                case ENTER:
                    call.entered.add(item.x);
                    call.lines.put(item.x, 0);
                    break;
                case LEAVE:
                    call.entered.remove(call.entered.size() - 1);
                    break;
                default:
                    if (item.pure()) {
                        call.registers.put(item.x, reckon(item.kind, value(call, item.ops.get(0)),
                            item.kind == COPY ? 0 : value(call, item.ops.get(1))));
                    }
            }
            call.k = to;
            return item.kind == LINE;
        }

        int go(int how, int n) {
            if (over || failed) {
                return over ? 0 : 3;
            }
            int now = depth();
            boolean left = false;
            for (int i = 0; i < n; i++) {
                boolean line = step();
                if (over || failed) {
                    return over ? 0 : 3;
                }
                left |= depth() < now;
                if (line && (how == 0 || how == 1 && depth() <= now || how == 2 && left)) {
                    return 1;
                }
            }
            return 2;
        }

        /** Of frame k of the STACK: the call, and the FRAME in it. */
        private int[] find(int k) {
            int left = k;
            for (int i = calls.size() - 1; i >= 0; i--) {
                int n = calls.get(i).entered.size();
                if (left < n) {
                    return new int[] {i, calls.get(i).entered.get(n - 1 - left)};
                }
                left -= n;
            }
            return null;
        }

        int routineOf(int k) {
            int[] at = find(k);
            return codes.get(calls.get(at[0]).routine).frames.get(at[1]).routine;
        }

        int lineOf(int k) {
            int[] at = find(k);
            return calls.get(at[0]).lines.getOrDefault(at[1], 0);
        }

        int namesOf(int k) {
            int[] at = find(k);
            return codes.get(calls.get(at[0]).routine).homes.get(at[1]).size();
        }

        Where told(int k, int name) {
            int[] at = find(k);
            Call call = calls.get(at[0]);
            List<Map<List<Integer>, Where>> telling = tellings.computeIfAbsent(call.routine,
                r -> tell(codes.get(r)));
            return telling.get(call.k).get(List.of(at[1], name));
        }

        int valueOf(int k, int name) {
            Where where = told(k, name);
            Call call = calls.get(find(k)[0]);
            if (where.kind >= 10) {
                return 0;
            }
            if (where.kind <= 2) {
                return value(call, new Op(where.kind == 2, where.n));
            }
            return reckon(where.kind - 2, value(call, where.a), value(call, where.b));
        }
    }
}
