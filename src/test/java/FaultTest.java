import java.util.ArrayList;
import java.util.HashMap;
import java.util.HashSet;
import java.util.LinkedHashSet;
import java.util.List;
import java.util.Map;
import java.util.Random;
import java.util.Set;

/** Promises 4 and 5: texts, their faults and places; by hand, and beside a set of stacks that follows the grammar. */
public final class FaultTest {
    private static final Set<String> WORDS = Set.of("out", "return", "if", "else", "while");

    /** type: a sign, a word, "NAME", "NUM", "BAD" or "END". */
    private record Token(String type, String bytes, int place) {
    }

    /** A stack of symbols that are still to come. */
    private record Stack(String top, Stack rest) {
    }

    public static void main(String[] args) {
        byHand();
        limits();
        stateBehindFaults();
        int seeds = args.length > 0 ? Integer.parseInt(args[0]) : 12000;
        int[] seen = new int[6];
        for (int seed = 0; seed < seeds && Check.wrongs() == 0; seed++) {
            random(new Random(seed * 31L + 7), seen);
        }
        System.out.println("faults seen, 0 to 5: " + seen[0] + " " + seen[1] + " " + seen[2] + " " + seen[3] + " "
            + seen[4] + " " + seen[5]);
        Check.finish();
    }

    private static void fault(String text, int fault, int place) {
        LineKeeper x = new LineKeeper();
        Check.tape(x, text);
        int got = x.read();
        Check.due("4 read of " + text, got == -1, fault != 0);
        Check.due("5 fault of " + text, List.of(x.fault(0), x.fault(1)), List.of(fault, place));
        Check.due("the scan of " + text, naive(text), List.of(fault, place));
    }

    private static void good(String text) {
        fault(text, 0, -1);
    }

    private static void byHand() {
        good("");
        good(" \n ");
        good("f(){}");
        good("f(){}g(a){x=f();}");
        good("f(out1x){}".replace("1", ""));
        good("f(a){a=a=1;}");
        good("f(f){f=f(f);}");
        good("f(){x=a\n(\n)\n;}a(){}");
        good("f(){x=1 2;}".replace(" 2", ""));
        fault("f(){x=1 2;}", 1, 8);
        fault("f(){x=", 1, 6);
        fault("f(", 1, 2);
        fault("f(){}x", 1, 6);
        fault("1", 1, 0);
        fault("f(){}}", 1, 5);
        fault("f(){x=\t1;}", 1, 6);
        fault("f(){x=1.5;}", 1, 7);
        fault("f(){abcdefg=1;}", 1, 4);
        fault("f(){x=12345678;}", 1, 6);
        good("f(){abcdef=1234567;}");
        fault("if(){}", 1, 0);
        fault("f(out){}", 1, 2);
        fault("f(a,){}", 1, 4);
        fault("f(a b){}", 1, 4);
        fault("f(){out g(1);}", 1, 9);
        fault("f(){x=1+g(1);}g(a){}", 1, 9);
        fault("f(){x=(g(1));}g(a){}", 1, 8);
        fault("f(){x=a=b=c;}", 1, 9);
        fault("f(){x=--a;}", 1, 7);
        good("f(){x=-a--a*-a;}");
        fault("f(){x=g();", 1, 10);
        fault("f(){x=g(,);}", 1, 8);
        fault("f(){x=g(1,);}", 1, 10);
        fault("f(){if 1 x=1;}", 1, 9);
        fault("f(){else{}}", 1, 4);
        fault("f(){while 1{}else{}}", 1, 13);
        fault("f(){;}", 1, 4);
        fault("f(){x=1}", 1, 7);
        fault("f(){x 1;}", 1, 6);
        fault("f(){return;}", 1, 10);
        fault("F(){}", 1, 0);
        fault("f(){}g(){}f(){}", 2, 10);
        fault("f(a,b,a){}", 2, 6);
        fault("f(){x=g();}", 3, 6);
        fault("f(){x=g(1);}g(){}", 4, 6);
        fault("f(){x=g();}g(a){}", 4, 6);
        fault("f(a){x=f(1,2);}", 4, 7);
        fault("f(a,b,c,d,e){}", 5, 10);
        fault("f(a,b,c,d,a){}", 2, 10);
        fault("f(){x=g();}f(){x=h(1);}", 3, 6);
        fault("g(){}g(){x=h();y=g(1);}", 2, 5);
        fault("f(){x=g(1);}g(){}f(){}!", 1, 22);
    }

    private static String repeat(String part, int n) {
        return part.repeat(n);
    }

    private static void limits() {
        good("f(){x=" + repeat("(", 7) + "1" + repeat(")", 7) + ";}");
        fault("f(){x=" + repeat("(", 8) + "1" + repeat(")", 8) + ";}", 1, 14);
        fault("f(){x=" + repeat("(", 8), 1, 14);
        fault("f(){x=" + repeat("(", 9), 1, 14);
        good("f(){x=f();y=1+" + repeat("(", 7) + "1" + repeat(")", 7) + "*(2);}");
        good("f(){" + repeat("if 1{", 5) + repeat("}", 5) + "}");
        fault("f(){" + repeat("if 1{", 6) + repeat("}", 6) + "}", 1, 33);
        fault("f(){" + repeat("if 1{}else{", 5) + "while 2{}" + repeat("}", 5) + "}", 1, 66);
        good("a(){}b(){}c(){}d(){}e(){}g(){}");
        fault("a(){}b(){}c(){}d(){}e(){}g(){}h(){}i(){}", 5, 30);
        fault("a(){}b(){}c(){}d(){}e(){}g(){}a(){}", 2, 30);
        fault("a(){x=h(1);}b(){}c(){}d(){}e(){}g(){}h(){}", 4, 6);
        good("f(a,b,c,d){x=a+b+c+d+e+g+h+i+j+k+l;}");
        fault("f(a,b,c,d){x=a+b+c+d+e+g+h+i+j+k+l+m;}", 5, 35);
        fault("f(a,b,c,d){x=a+b+c+d+e+g+h+i+j+k+l;m=1;n=2;}", 5, 35);
        good("f(a,b,c,d){x=a+b+c+d+e+g+h+i+j+k+l;x=f(a,b,c,d);}");
        good("f(){" + repeat("x=1;", 20) + "}g(){" + repeat("x=1;", 20) + "}");
        fault("f(){" + repeat("x=1;", 20) + "}g(){" + repeat("x=1;", 20) + "if 1{y=1;}}", 5, 169);
        fault("f(){" + repeat("x=1;", 41) + "}", 5, 0);
        // 39 statements of three ITEMS and RETURN 0 are 118; a minus each makes 119 and so on.
        good("f(){" + repeat("x=1;", 39) + "}");
        good("f(){" + repeat("x=1;", 38) + "x=-1+2;}");
        fault(" f(){" + repeat("x=1;", 38) + "x=-1+2+3;}", 5, 1);
        fault("f(){x=g();" + repeat("x=1;", 38) + "x=-1+2+3;}", 5, 0);
        StringBuilder most = new StringBuilder("f(){x=1");
        for (int i = 0; i < 116; i++) {
            most.append("+1");
        }
        good(most + ";}");
        fault(most + "+1;}", 5, 0);
    }

    private static void stateBehindFaults() {
        LineKeeper x = Check.keeper("f(a){out a;}g(){}");
        Check.due("5 without a fault", List.of(x.fault(0), x.fault(1), x.fault(2), x.fault(-1)), List.of(0, -1, -1, -1));
        x.start(0, 7, 0, 0, 0);
        x.go(0, 5);
        Check.tape(x, "f(){");
        Check.due("4 a fault", x.read(), -1);
        Check.due("4 the tape is taken", x.end(1), -1);
        Check.due("5 its fault", List.of(x.fault(0), x.fault(1), x.fault(2)), List.of(1, 4, -1));
        Check.due("4 the old routines stay", x.routine(1, 0), 1);
        Check.due("4 the old run stays", x.run(2), 1);
        Check.due("4 and goes on", x.go(0, 50), 0);
        Check.due("4 as it was", x.printed(0), 7);
        Check.tape(x, "h(){}");
        Check.due("4 read anew", x.read(), 1);
        Check.due("4 one routine alone", x.routine(1, 0), -1);
        Check.due("4 no run then", List.of(x.run(0), x.go(0, 1), x.printed(0), x.stack(0, 0)), List.of(-1, -1, 0, -1));
        Check.due("5 no fault then", List.of(x.fault(0), x.fault(1)), List.of(0, -1));
        LineKeeper y = new LineKeeper();
        Check.due("5 ahead of any read", List.of(y.fault(0), y.fault(1)), List.of(0, -1));
    }

    // ---- at random

    private static void random(Random random, int[] seen) {
        String text = Text.any(random).write();
        if (random.nextInt(4) == 0) {
            text = text.replace("fb", "fa");
        }
        if (random.nextInt(4) == 0) {
            text = text.replaceAll("= *f[ab]", "=q");
        }
        if (random.nextInt(5) == 0) {
            text = text.substring(text.length() / 2) + "k(){}l(a){}m(a,b){}n(){}".substring(0, 24) + text;
        }
        if (random.nextInt(3) == 0) {
            text = text.replaceFirst("zz", "y").replaceFirst("[(]a", "(ab,a").replaceFirst("x", "xx");
        }
        for (int i = random.nextInt(3); i > 0; i--) {
            text = mutate(random, text);
        }
        if (text.length() > 1200) {
            return;
        }
        LineKeeper x = new LineKeeper();
        Check.tape(x, text);
        int got = x.read();
        List<Integer> want = naive(text);
        seen[want.get(0)]++;
        Check.due("4 read of " + text, got == -1, want.get(0) != 0);
        Check.due("5 fault of " + text, List.of(x.fault(0), x.fault(1)), want);
    }

    private static String mutate(Random random, String text) {
        List<Token> tokens = scan(text);
        int i = random.nextInt(tokens.size());
        Token one = tokens.get(i);
        int end = one.place + one.bytes.length();
        Token other = tokens.get(random.nextInt(tokens.size()));
        switch (random.nextInt(5)) {
            case 0: return text.substring(0, one.place) + text.substring(end);
            case 1: return text.substring(0, one.place) + other.bytes + text.substring(end);
            case 2: return text.substring(0, one.place) + " " + other.bytes + " " + text.substring(one.place);
            case 3: return text.substring(0, one.place) + (char) random.nextInt(256) + text.substring(one.place);
            default: return text.substring(0, end) + "x y1=(){};,".charAt(random.nextInt(11)) + text.substring(end);
        }
    }

    private static List<Token> scan(String text) {
        List<Token> tokens = new ArrayList<>();
        int i = 0;
        while (i < text.length()) {
            char c = text.charAt(i);
            int from = i++;
            if (c == ' ' || c == '\n') {
                continue;
            }
            String row = c >= 'a' && c <= 'z' ? "az" : c >= '0' && c <= '9' ? "09" : "";
            while (!row.isEmpty() && i < text.length() && text.charAt(i) >= row.charAt(0)
                && text.charAt(i) <= row.charAt(1)) {
                i++;
            }
            String bytes = text.substring(from, i);
            String type = row.equals("az") ? bytes.length() > 6 ? "BAD" : WORDS.contains(bytes) ? bytes : "NAME"
                : row.equals("09") ? bytes.length() > 7 ? "BAD" : "NUM" : "(){},;=<+-*".contains(bytes) ? bytes : "BAD";
            tokens.add(new Token(type, bytes, from));
        }
        tokens.add(new Token("END", "", text.length()));
        return tokens;
    }

    private static List<Integer> naive(String text) {
        List<Token> tokens = scan(text);
        Set<Stack> stacks = new LinkedHashSet<>(List.of(new Stack("TEXT", null)));
        for (Token token : tokens) {
            Set<Stack> ready = new LinkedHashSet<>();
            for (Stack stack : stacks) {
                expand(stack, ready);
            }
            stacks = new LinkedHashSet<>();
            for (Stack stack : ready) {
                if (stack.top.equals(token.type)) {
                    stacks.add(stack.rest == null ? new Stack("NOTHING", null) : stack.rest);
                }
            }
            if (stacks.isEmpty()) {
                return List.of(1, token.place);
            }
        }
        return others(tokens);
    }

    private static void expand(Stack stack, Set<Stack> ready) {
        String[] parts = stack.top.split(":");
        int d = parts.length > 1 ? Integer.parseInt(parts[1]) : 0;
        String[] ways;
        switch (parts[0]) {
            case "TEXT": ways = new String[] {"ROUTINE TEXT", "END"}; break;
            case "ROUTINE": ways = new String[] {"NAME ( PARS ) BLOCK:1"}; break;
            case "PARS": ways = new String[] {"", "NAME PMORE"}; break;
            case "PMORE": ways = new String[] {"", ", NAME PMORE"}; break;
            case "BLOCK": ways = d > 6 ? new String[0] : new String[] {"{ STMTS:# }"}; break;
            case "STMTS": ways = new String[] {"", "STMT:# STMTS:#"}; break;
            case "STMT": ways = new String[] {"NAME = E:1 ;", "NAME = NAME ( ARGS ) ;", "out E:1 ;", "return E:1 ;",
                "if E:1 BLOCK:+ ELSE:#", "while E:1 BLOCK:+"}; break;
            case "ELSE": ways = new String[] {"", "else BLOCK:+"}; break;
            case "ARGS": ways = new String[] {"", "E:1 AMORE"}; break;
            case "AMORE": ways = new String[] {"", ", E:1 AMORE"}; break;
            case "E": ways = d > 8 ? new String[0] : new String[] {"S:# ETAIL:#"}; break;
            case "ETAIL": ways = new String[] {"", "= S:#", "< S:#"}; break;
            case "S": ways = new String[] {"T:# STAIL:#"}; break;
            case "STAIL": ways = new String[] {"", "+ T:# STAIL:#", "- T:# STAIL:#"}; break;
            case "T": ways = new String[] {"U:# TTAIL:#"}; break;
            case "TTAIL": ways = new String[] {"", "* U:# TTAIL:#"}; break;
            case "U": ways = new String[] {"A:#", "- A:#"}; break;
            case "A": ways = new String[] {"NUM", "NAME", "( E:+ )"}; break;
            default:
                ready.add(stack);
                return;
        }
        for (String way : ways) {
            Stack next = stack.rest;
            String[] symbols = way.isEmpty() ? new String[0] : way.split(" ");
            for (int i = symbols.length - 1; i >= 0; i--) {
                String symbol = symbols[i].replace(":#", ":" + d).replace(":+", ":" + (d + 1));
                next = new Stack(symbol, next);
            }
            if (next != null) {
                expand(next, ready);
            }
        }
    }

    /** The faults 2 to 5 of a text that has no fault 1, from its tokens alone. */
    private static List<Integer> others(List<Token> tokens) {
        List<int[]> faults = new ArrayList<>();
        Map<String, Integer> params = new HashMap<>();
        List<Token> calls = new ArrayList<>();
        List<Integer> given = new ArrayList<>();
        int routines = 0;
        int statements = 0;
        int depth = 0;
        int items = 0;
        Set<String> names = new HashSet<>();
        Token routine = null;
        boolean begins = false;
        for (int i = 0; i < tokens.size(); i++) {
            Token t = tokens.get(i);
            String next = i + 1 < tokens.size() ? tokens.get(i + 1).type : "";
            String before = i > 0 ? tokens.get(i - 1).type : "";
            if (depth == 0 && t.type.equals("NAME")) {
                routine = t;
                routines++;
                items = 1;
                names.clear();
                if (params.containsKey(t.bytes)) {
                    faults.add(new int[] {t.place, 2});
                }
                if (routines > 6) {
                    faults.add(new int[] {t.place, 5});
                }
                int n = 0;
                for (i += 2; !tokens.get(i).type.equals(")"); i++) {
                    Token p = tokens.get(i);
                    if (p.type.equals("NAME")) {
                        n++;
                        if (!names.add(p.bytes)) {
                            faults.add(new int[] {p.place, 2});
                        }
                        if (n > 4) {
                            faults.add(new int[] {p.place, 5});
                        }
                    }
                }
                params.putIfAbsent(t.bytes, n);
                continue;
            }
            if (depth > 0 && begins && !t.type.equals("}") && !t.type.equals("else")) {
                statements++;
                items += t.type.equals("NAME") ? 3 : t.type.equals("if") ? 3 : t.type.equals("while") ? 5 : 2;
                if (statements > 40) {
                    faults.add(new int[] {t.place, 5});
                }
            }
            boolean starts = begins;
            begins = t.type.equals("{") || t.type.equals("}") || t.type.equals(";");
            items += t.type.equals("else") ? 2 : 0;
            items += "+-*<".contains(t.type) ? 1 : 0;
            if (t.type.equals("=") && !(i >= 2 && tokens.get(i - 1).type.equals("NAME")
                && Set.of("{", "}", ";").contains(tokens.get(i - 2).type))) {
                items++;
            }
            if (t.type.equals("NAME") && next.equals("(") && !starts && before.equals("=")) {
                calls.add(t);
                given.add(arguments(tokens, i + 1));
            } else if (t.type.equals("NAME") && names.add(t.bytes) && names.size() > 12) {
                faults.add(new int[] {t.place, 5});
            }
            depth += t.type.equals("{") ? 1 : t.type.equals("}") ? -1 : 0;
            if (depth == 0 && t.type.equals("}") && items > 120) {
                faults.add(new int[] {routine.place, 5});
            }
        }
        for (int i = 0; i < calls.size(); i++) {
            Token t = calls.get(i);
            Integer n = params.get(t.bytes);
            if (n == null || !n.equals(given.get(i))) {
                faults.add(new int[] {t.place, n == null ? 3 : 4});
            }
        }
        int[] least = {Integer.MAX_VALUE, 0};
        for (int[] fault : faults) {
            if (fault[0] < least[0] || fault[0] == least[0] && fault[1] < least[1]) {
                least = fault;
            }
        }
        return least[1] == 0 ? List.of(0, -1) : List.of(least[1], least[0]);
    }

    private static int arguments(List<Token> tokens, int open) {
        if (tokens.get(open + 1).type.equals(")")) {
            return 0;
        }
        int n = 1;
        int depth = 0;
        for (int i = open; ; i++) {
            String type = tokens.get(i).type;
            depth += type.equals("(") ? 1 : type.equals(")") ? -1 : 0;
            if (depth == 0) {
                return n;
            }
            n += depth == 1 && type.equals(",") ? 1 : 0;
        }
    }
}
