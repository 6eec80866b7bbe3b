import java.util.ArrayList;
import java.util.HashMap;
import java.util.List;
import java.util.Map;
import java.util.Random;

/** Promises 4 and 6 to 19 on texts made at random, beside the naive code and the plain run over the tree. */
public final class OracleTest {
    private static long torn;
    private static long gones;
    private static final int[] told = new int[6];
    private static final int[] endings = new int[4];

    public static void main(String[] args) {
        int seeds = args.length > 0 ? Integer.parseInt(args[0]) : 1500;
        int from = args.length > 1 ? Integer.parseInt(args[1]) : 0;
        for (int seed = from; seed < from + seeds && Check.wrongs() == 0; seed++) {
            one(new Random(seed * 7919L + 5), "seed " + seed);
        }
        System.out.println("compared " + torn + " names told, " + gones + " gone; passes told " + told[0] + " " + told[1]
            + " " + told[2] + " " + told[3] + " " + told[4] + " " + told[5] + "; runs went on " + endings[0]
            + ", ended " + endings[1] + ", failed " + endings[2] + ", unlike " + endings[3]);
        Check.finish();
    }

    private static void one(Random random, String who) {
        boolean turns = random.nextInt(3) == 0;
        Text text = turns ? Text.turns(random) : Text.any(random);
        List<Naive.Code> codes = new ArrayList<>();
        boolean long120 = false;
        for (int r = 0; r < text.routines.size(); r++) {
            codes.add(new Naive().make(text, r));
            long120 |= codes.get(r).items.size() > 120;
        }
        LineKeeper x = new LineKeeper();
        Check.tape(x, text.write());
        String about = who + "\n" + text.write() + "\n";
        int got = x.read();
        Check.due(about + "read", got, long120 ? -1 : codes.size());
        if (long120 || got < 0) {
            Check.due(about + "fault", x.fault(0), long120 ? 5 : 0);
            return;
        }
        Map<Integer, List<Map<List<Integer>, Naive.Where>>> tellings = new HashMap<>();
        compareAll(about + "made", x, codes, tellings, random);
        // Where a routine is melted in behind DROP, a name may be told by a REGISTER that has its value of the last turn.
        boolean dropsFirst = random.nextInt(turns ? 2 : 4) == 0;
        int passes = random.nextInt(turns ? 5 : 14) + (dropsFirst ? 2 * codes.size() : 0);
        StringBuilder done = new StringBuilder(about).append("passes");
        for (int i = 0; i < passes && Check.wrongs() == 0; i++) {
            boolean first = dropsFirst && i < 2 * codes.size();
            int kind = first ? i < codes.size() ? 1 : 4 : random.nextInt(6);
            int r = first ? i % codes.size() : random.nextInt(codes.size());
            done.append(' ').append(kind).append(',').append(r);
            int want = Naive.pass(kind, codes, r);
            told[kind] += want;
            Check.due(done + " told", x.pass(kind, r), want);
            tellings.clear();
            if (i == passes - 1 || random.nextInt(3) == 0) {
                compareAll(done.toString(), x, codes, tellings, random);
            }
        }
        for (int i = 0; i < 2; i++) {
            runs(done.toString(), x, codes, tellings, random);
            beside(done.toString(), x, text, codes, tellings, random);
        }
    }

    private static void compareAll(String about, LineKeeper x, List<Naive.Code> codes,
        Map<Integer, List<Map<List<Integer>, Naive.Where>>> tellings, Random random) {
        for (int r = 0; r < codes.size(); r++) {
            Naive.Code c = codes.get(r);
            String one = about + "\nroutine " + r + " ";
            Check.due(one + "ITEMS", x.routine(r, 0), c.items.size());
            Check.due(one + "ACTS", x.routine(r, 1), c.acts());
            Check.due(one + "names", x.routine(r, 2), c.names());
            Check.due(one + "params", x.routine(r, 3), c.params);
            Check.due(one + "REGISTERS", x.routine(r, 4), c.registers());
            Check.due(one + "FRAMES", x.routine(r, 5), c.frames.size());
            for (int i = 0; i <= c.names(); i++) {
                Check.due(one + "home of " + i, x.routine(r, 7 + i), i < c.names() ? c.homes.get(0).get(i) : -1);
            }
            for (int f = 0; f < c.frames.size(); f++) {
                Naive.Frame frame = c.frames.get(f);
                Check.due(one + "frame " + f, List.of(x.frame(r, f, 0), x.frame(r, f, 1), x.frame(r, f, 2)),
                    List.of(frame.routine(), frame.parent(), frame.line()));
            }
            for (int k = 0; k < c.items.size(); k++) {
                Check.due(one + "item " + k, itemOf(x, r, k), itemOf(c.items.get(k)));
            }
            List<Map<List<Integer>, Naive.Where>> telling = Naive.tell(c);
            tellings.put(r, telling);
            for (int k = 0; k <= c.items.size(); k++) {
                for (int f = 0; f < c.frames.size(); f++) {
                    for (int i = 0; i < c.homes.get(f).size(); i++) {
                        Map<List<Integer>, Naive.Where> here = telling.get(k);
                        Naive.Where want = here == null ? Naive.gone(1) : here.get(List.of(f, i));
                        List<Integer> got = List.of(x.told(r, k, f, i, 0), x.told(r, k, f, i, 1),
                            x.told(r, k, f, i, 2), x.told(r, k, f, i, 3), x.told(r, k, f, i, 4));
                        Check.due(one + "told at " + k + " of " + f + "." + i, got, whereOf(want));
                    }
                }
            }
        }
    }

    private static int kindOf(Naive.Op op) {
        return op == null ? 0 : op.reg() ? 2 : 1;
    }

    private static int numberOf(Naive.Op op) {
        return op == null ? 0 : op.n();
    }

    private static List<Integer> whereOf(Naive.Where w) {
        return List.of(w.kind(), kindOf(w.a()), kindOf(w.b()), w.kind() <= 2 ? w.n() : numberOf(w.a()),
            numberOf(w.b()));
    }

    private static List<Integer> itemOf(LineKeeper x, int r, int k) {
        List<Integer> list = new ArrayList<>();
        for (int what = 0; what <= 7; what++) {
            list.add(x.item(r, k, what));
        }
        return list;
    }

    private static List<Integer> itemOf(Naive.Item item) {
        List<Integer> list = new ArrayList<>(List.of(item.kind, item.x, item.y));
        if (item.where != null) {
            List<Integer> where = whereOf(item.where);
            list.addAll(where.subList(1, 5));
            list.add(where.get(0));
            return list;
        }
        Naive.Op a = item.ops.size() > 0 ? item.ops.get(0) : null;
        Naive.Op b = item.ops.size() > 1 ? item.ops.get(1) : null;
        list.addAll(List.of(kindOf(a), kindOf(b), numberOf(a), numberOf(b), 0));
        return list;
    }

    private static void runs(String about, LineKeeper x, List<Naive.Code> codes,
        Map<Integer, List<Map<List<Integer>, Naive.Where>>> tellings, Random random) {
        int r = random.nextInt(codes.size());
        int[] given = {random.nextInt(6), random.nextInt(9) - 4, random.nextInt(3), random.nextInt()};
        Naive.Run run = new Naive.Run(codes, tellings, r, given);
        Check.due(about + " start", x.start(r, given[0], given[1], given[2], given[3]), true);
        StringBuilder done = new StringBuilder(about).append("\nrun of ").append(r).append(" with ").append(given[0])
            .append(' ').append(given[1]).append(' ').append(given[2]).append(' ').append(given[3]).append(" go");
        for (int i = 0; i < 25 && Check.wrongs() == 0; i++) {
            compareRun(done.toString(), x, run);
            int how = random.nextInt(3);
            int n = 1 + random.nextInt(random.nextInt(4) == 0 ? 500 : 30);
            done.append(' ').append(how).append(',').append(n);
            Check.due(done + " told", x.go(how, n), run.go(how, n));
        }
        compareRun(done.toString(), x, run);
    }

    private static void compareRun(String about, LineKeeper x, Naive.Run run) {
        Naive.Call top = run.calls.isEmpty() ? null : run.calls.get(run.calls.size() - 1);
        Check.due(about + " run()", List.of(x.run(0), x.run(1), x.run(2), x.run(3), x.run(4), x.run(5)),
            List.of(top == null ? -1 : top.k, run.printed.size(), run.gone, run.returned, run.depth(),
                run.failed ? 1 : 0));
        for (int i = 0; i < Math.min(202, run.printed.size() + 1); i++) {
            Check.due(about + " printed " + i, x.printed(i), i < run.printed.size() && i < 200 ? run.printed.get(i) : 0);
        }
        for (int k = 0; k < run.depth(); k++) {
            Check.due(about + " stack " + k, List.of(x.stack(k, 0), x.stack(k, 1), x.stack(k, 2)),
                List.of(run.routineOf(k), run.lineOf(k), run.namesOf(k)));
            for (int name = 0; name < run.namesOf(k); name++) {
                int kind = run.told(k, name).kind();
                Check.due(about + " known " + k + " " + name, x.known(k, name), kind < 10 ? 1 : kind);
                Check.due(about + " value " + k + " " + name, x.value(k, name), run.valueOf(k, name));
            }
            Check.due(about + " known beyond", x.known(k, run.namesOf(k)), -1);
        }
        Check.due(about + " stack beyond", x.stack(run.depth(), 0), -1);
    }

    private static void beside(String about, LineKeeper x, Text text, List<Naive.Code> codes,
        Map<Integer, List<Map<List<Integer>, Naive.Where>>> tellings, Random random) {
        int r = random.nextInt(codes.size());
        int[] given = {random.nextInt(6), random.nextInt(9) - 4, random.nextInt(3), random.nextInt()};
        int n = 1 + random.nextInt(random.nextInt(3) == 0 ? 40 : 800);
        text.runPlainly(r, given, n + 1);
        Naive.Run run = new Naive.Run(codes, tellings, r, given);
        int alike = 0;
        int known = 0;
        int gone = 0;
        boolean same = true;
        for (int i = 0; i < n && same && !run.over && !run.failed; i++) {
            if (!run.step()) {
                continue;
            }
            same = alike < text.events.size() && run.depth() == text.events.get(alike).lines.size()
                && run.printed.equals(text.printed.subList(0, text.events.get(alike).printed));
            if (!same) {
                break;
            }
            Text.Event event = text.events.get(alike);
            for (int k = 0; k < run.depth(); k++) {
                same &= run.routineOf(k) == event.routines.get(k) && run.lineOf(k) == event.lines.get(k);
                for (int name = 0; name < run.namesOf(k); name++) {
                    boolean isTold = run.told(k, name).kind() < 10;
                    known += isTold ? 1 : 0;
                    gone += isTold ? 0 : 1;
                    same &= !isTold || run.valueOf(k, name) == event.values.get(k)[name];
                }
            }
            alike += same ? 1 : 0;
        }
        int ending = 0;
        if (same && (run.over || run.failed)) {
            same = alike == text.events.size() && run.over == text.ended && run.failed == text.failed
                && run.returned == text.returned && run.printed.equals(text.printed);
            ending = same ? run.over ? 1 : 2 : 0;
        }
        endings[same ? ending : 3]++;
        torn += known;
        gones += gone;
        String one = about + "\nbeside of " + r + " with " + given[0] + " " + given[1] + " " + given[2] + " " + given[3]
            + " by " + n + " ";
        Check.due(one, x.beside(r, given[0], given[1], given[2], given[3], n), same ? alike : -2 - alike);
        Check.due(one + "compared", List.of(x.compared(0), x.compared(1), x.compared(2)), List.of(known, gone, ending));
    }
}
