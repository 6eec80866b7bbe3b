import java.io.IOException;
import java.util.ArrayList;
import java.util.List;

/** "What it is", the terms 1 to 4 and what stands behind them, sentence by sentence in the document's order. */
public final class SentenceTermsTest {
    public static void main(String[] args) throws IOException {
        whatItIs();
        tokens();
        grammar();
        faults();
        numbersAndNames();
        plainRun();
        items();
        made();
        wheres();
        tellings();
        fold();
        drop();
        move();
        alike();
        melt();
        share();
        labelsAndNames();
        aRun();
        behindTheTerms();
        Doc.finish();
    }

    private static void says(String sentence) {
        Doc.says(sentence);
    }

    private static void due(Object got, Object want) {
        Doc.due(got, want);
    }

    private static void good(String text, int routines) {
        LineKeeper x = new LineKeeper();
        Check.tape(x, text);
        due(List.of(text, x.read(), x.fault(0), x.fault(1)), List.of(text, routines, 0, -1));
    }

    /** The fault's place is where ^ stands, which is not fed. */
    private static void bad(int fault, String marked) {
        LineKeeper x = new LineKeeper();
        Check.tape(x, marked.replace("^", ""));
        due(List.of(marked, x.read(), x.fault(0), x.fault(1)), List.of(marked, -1, fault, marked.indexOf('^')));
    }

    /** All that a run of the last routine prints, and what it returns. */
    private static List<Integer> prints(LineKeeper x, int... given) {
        int r = 0;
        while (x.routine(r + 1, 0) >= 0) {
            r++;
        }
        int[] all = {0, 0, 0, 0};
        System.arraycopy(given, 0, all, 0, given.length);
        x.start(r, all[0], all[1], all[2], all[3]);
        List<Integer> list = new ArrayList<>();
        boolean over = x.go(2, 20000) == 0;
        for (int i = 0; i < x.run(1); i++) {
            list.add(x.printed(i));
        }
        list.add(over ? x.run(3) : null);
        return list;
    }

    /** How often a run begins a LINE, and which. */
    private static List<Integer> lines(LineKeeper x, int a) {
        x.start(0, a, 0, 0, 0);
        List<Integer> list = new ArrayList<>();
        while (list.size() < 100 && x.go(0, 1000) == 1) {
            list.add(x.stack(0, 1));
        }
        return list;
    }

    private static LineKeeper torn(String text, int r, int... passes) {
        LineKeeper x = Check.keeper(text);
        for (int pass : passes) {
            x.pass(pass, r);
        }
        return x;
    }

    // ---- What it is

    private static void whatItIs() {
        Doc.section("What it is");
        says("A keeper of lines: programs of routines are made into code, six passes tear it apart, and still each stop"
            + " tells in the words of the text: on which line one is, in which routines (those that were melted in too),"
            + " and of each name its value, or that it is gone and why; a plain run beside shows that no value is told"
            + " that is not so.");
        LineKeeper x = Check.keeper("g(n){m=n*n;return m;}f(k){s=1;d=s;while k{t=g(k);s=s+t;k=k-1;}out s;}");
        int plain = x.beside(1, 3, 0, 0, 0, 20000);
        for (int kind = 0; kind < 6; kind++) {
            due(x.pass(kind, 1) >= 0, true);
            due(List.of(x.beside(1, 3, 0, 0, 0, 20000), x.compared(2)), List.of(plain, 1));
        }
        x.start(1, 3, 0, 0, 0);
        while (x.go(0, 99) == 1 && x.stack(0, 1) != 2) {
            due(x.run(4) <= 2, true);
        }
        due(List.of(x.run(4), x.stack(0, 0), x.stack(0, 1), x.stack(1, 0), x.stack(1, 1)), List.of(2, 0, 2, 1, 6));
        // n is read no more, so that SHARE has put m where it was; its value is told in the frame of f, as k.
        due(List.of(x.known(0, 0), x.value(0, 0), x.known(0, 1), x.value(0, 1), x.value(1, 0)), List.of(13, 0, 1, 9, 3));
        says("An object is used for at most 512 calls after it has been made; what later calls answer is free.");
        x = new LineKeeper();
        for (int i = 0; i < 511; i++) {
            x.end(-1);
        }
        due(x.feed(0, 0, 0, 0, 0), 20);
    }

    // ---- Term 1

    private static void tokens() {
        Doc.section("Term 1");
        says("TEXT (THE TAPE has at most 1200 bytes).");
        good("f(){}" + " ".repeat(1195), 1);
        LineKeeper x = new LineKeeper();
        Check.tape(x, "f(){}" + " ".repeat(1195));
        due(List.of(x.feed(0, 0, 0, 0, 0), x.end(1201), x.end(1200), x.read()), List.of(-1, -1, 1200, 1));
        says("TOKENS, as long as they go, blanks (10, 32) between: NAMES: 1 to 6 letters a .. z; NUMBERS: 1 to 7 digits;"
            + " signs, one byte each: ( ) { } , ; = < + - * .");
        good("abcdef ( z ,\ny)\n{x =1234567;\n\nz=(x<y)+x-y*x; }\n", 1);
        good("f(){out1;}", 1);
        bad(1, "f(){outx^;}");
        bad(1, "f(){ab ^c=1;}");
        bad(1, "f(){x=1 ^2;}");
        bad(1, "f(){x=1^\t;}");
        bad(1, "f(){x=1^\r;}");
        bad(1, "f(){^X=1;}");
        bad(1, "f(){a^_b=1;}");
        bad(1, "f(){x=1^/2;}");
        bad(1, "f(){x=1^>2;}");
        bad(1, "f(){x=1<^=2;}");
        bad(1, "f(){^abcdefg=1;}");
        bad(1, "f(){x=^12345678;}");
        says("WORDS out return if else while are no NAMES.");
        for (String word : new String[] {"out", "return", "if", "else", "while"}) {
            bad(1, "^" + word + "(){}");
            bad(1, "f(^" + word + "){}");
            bad(1, "f(){x=^" + word + ";}");
        }
        good("outs(fi,ret,iff,whil){els=1;}", 1);
    }

    private static void grammar() {
        says("TEXT: {ROUTINE}.");
        good("", 0);
        good("a(){}b(){}", 2);
        bad(1, "a(){}^;");
        says("ROUTINE: NAME '(' [NAME {',' NAME}] ')' BLOCK.");
        good("f(){}", 1);
        good("f(a){}", 1);
        good("f(a,b,c){}", 1);
        bad(1, "^1(){}");
        bad(1, "f^{}");
        bad(1, "f(a ^b){}");
        bad(1, "f(a,^){}");
        bad(1, "f(^1){}");
        bad(1, "f()^;");
        says("BLOCK: '{' {STATEMENT} '}'.");
        good("f(){x=1;out x;}", 1);
        bad(1, "f()^x=1;");
        bad(1, "f(){x=1;^");
        says("STATEMENT: NAME '=' (E | NAME '(' [E {',' E}] ')') ';' | 'out' E ';' | 'return' E ';' | 'if' E BLOCK"
            + " ['else' BLOCK] | 'while' E BLOCK.");
        good("f(a){x=1;x=f(x);out x;return x;if x{}if x{}else{}while x{}}", 1);
        good("f(a,b){x=f(1+2,(x));}g(){x=g();}", 2);
        bad(1, "f(){x^;}");
        bad(1, "f(){x=1^}");
        bad(1, "f(a){x=f(1^;}");
        bad(1, "f(a){x=f(1)^}");
        bad(1, "f(){out^;}");
        bad(1, "f(){out 1^}");
        bad(1, "f(){return^;}");
        bad(1, "f(){return 1^}");
        bad(1, "f(){if^{}}");
        bad(1, "f(){if 1^;}");
        bad(1, "f(){if 1{}else^;}");
        bad(1, "f(){if 1{}else{}^else{}}");
        bad(1, "f(){while 1{}^else{}}");
        bad(1, "f(){^1=x;}");
        bad(1, "f(){^{}}");
        says("(NAME and ( right behind = is a call.)");
        bad(3, "f(){x=1;y=^x (1);}");
        bad(1, "f(){x=(f^());}");
        bad(1, "f(){x=f()^+1;}");
        says("E: S [('=' | '<') S].");
        due(prints(Check.keeper("f(){out 2=2;out 2=3;out 2<3;out 3<2;out 2<2;}")), List.of(1, 0, 1, 0, 0, 0));
        bad(1, "f(){out 1=1^=1;}");
        bad(1, "f(){out 1<2^<3;}");
        says("S: T {('+' | '-') T}.");
        due(prints(Check.keeper("f(){out 9-4-3;out 9-4+3<2+1;out 1+2=4-1;}")), List.of(2, 0, 1, 0));
        says("T: U {'*' U}.");
        due(prints(Check.keeper("f(){out 2+3*4*5;out 2*3-4*5;}")), List.of(62, -14, 0));
        says("U: ['-'] A.");
        due(prints(Check.keeper("f(){out -2*-3;out -2-3;out 5--1;}")), List.of(6, -5, 6, 0));
        bad(1, "f(){out -^-1;}");
        says("A: NUMBER | NAME | '(' E ')'.");
        due(prints(Check.keeper("f(a){out 7;out a;out (2+3)*4;out -(1<2);}"), 8), List.of(7, 8, 20, -1, 0));
        bad(1, "f(){out (^);}");
        bad(1, "f(){out (1^;}");
        says("At most 8 E and 6 BLOCKS may be open at one place (a further one can't stand there: 1 at its first token).");
        good("f(){out " + "(".repeat(7) + "1" + ")".repeat(7) + ";}", 1);
        bad(1, "f(){out " + "(".repeat(8) + "^1" + ")".repeat(8) + ";}");
        good("f(){" + "if 1{".repeat(5) + "}".repeat(6), 1);
        bad(1, "f(){" + "if 1{".repeat(5) + "while 1^{" + "}".repeat(7));
    }

    private static void faults() {
        says("FAULTS, with their places (a token's first byte): 1 the first byte or token with which no text goes on (the"
            + " end, too; a longer row of letters or digits is no token).");
        bad(1, "f(){ while^{}}");
        bad(1, "f(){out 1 ^out 2;}");
        bad(1, "f(){^!");
        bad(1, "f(){out 1;^");
        bad(1, "f(){out 1; ^");
        bad(1, "f(){out ^123456789;}");
        bad(1, "f(){out 1+^abcdefghij;}");
        says("If there is none: the first of these, by places, at one the least: 2 a routine's NAME that is told already, a"
            + " parameter's in one routine.");
        bad(2, "f(){}^f(){}");
        bad(2, "f(a,b,^a){}");
        good("f(a){}g(a){}", 2);
        bad(1, "f(a,a){}f(){}^?");
        bad(2, "f(a,^a){x=g();}");
        bad(3, "f(){x=^g();}f(){}");
        bad(2, "f(a,b,c,d,^a){}");
        says("3 a call of a NAME that is no routine (of the text, also a later one).");
        bad(3, "f(){x=^g();}");
        bad(3, "f(a){x=^a();}");
        good("f(){x=g();}g(){}", 2);
        says("4 a call with another number of E (at the NAME).");
        bad(4, "f(a){x=^f();}");
        bad(4, "f(){x=^g(1);}g(){}");
        good("f(a,b){x=f(1,2);}", 1);
        says("5 one too many, at its first token: a 7th routine, a 5th parameter, a 13th NAME of a routine, a 41st STATEMENT"
            + " of the text, a routine whose code has more than 120 ITEMS (at its NAME).");
        good("a(){}b(){}c(){}d(){}e(){}f(){}", 6);
        bad(5, "a(){}b(){}c(){}d(){}e(){}f(){}^g(){}h(){}");
        good("f(a,b,c,d){}", 1);
        bad(5, "f(a,b,c,d,^e,g){}");
        good("f(){a=b+c+d+e+f+g+h+i+j+k+l;}", 1);
        bad(5, "f(){a=b+c+d+e+f+g+h+i+j+k+l+^m+n;}");
        good("f(){" + "out 1;".repeat(39) + "}g(){out 1;}", 2);
        bad(5, "f(){" + "out 1;".repeat(39) + "}g(){if 1{^out 1;}}");
        good("f(){out 1" + "+1".repeat(117) + ";}", 1);
        bad(5, "g(){}^f(){out 1" + "+1".repeat(118) + ";}");
    }

    private static void numbersAndNames() {
        says("Numbers have 32 bits and go around; = < give 1 or 0.");
        due(prints(Check.keeper("f(a,b){out a+1;out b-1;out a*a;out a*2;out -b;out b<a;out a<b;out a=a;out a+1=b;}"),
            Integer.MAX_VALUE, Integer.MIN_VALUE),
            List.of(Integer.MIN_VALUE, Integer.MAX_VALUE, 1, -2, Integer.MIN_VALUE, 1, 0, 1, 1, 0));
        says("Names of a routine are all NAMES that stand in it but routines that are called, numbered from 0 on as they come"
            + " first (parameters first); each call has its own, nought but for the parameters.");
        LineKeeper x = Check.keeper("f(b,a){d=c;g=h(a,e);h=f;}h(x,y){}");
        due(List.of(x.routine(0, 2), x.routine(1, 2)), List.of(8, 2));
        due(List.of(Check.item(x, 0, 1), Check.item(x, 0, 4), Check.item(x, 0, 7)),
            List.of("COPY r2 r3", "CALL r4 f1 r1 r5", "COPY r6 r7"));
        due(prints(Check.keeper("f(a){out b;b=5;if a{c=f(a-1);}out b;out c;c=1;}"), 1), List.of(0, 0, 5, 0, 5, 0, 0));
        says("LINES are the STATEMENTS, numbered from 1 on as they stand in the text.");
        x = Check.keeper("f(){out 1;if 1{out 2;}else{out 3;}}g(){}h(){while 1{out 4;}}");
        due(List.of(x.routine(0, 6), x.routine(1, 6), x.routine(2, 6)), List.of(1, 0, 5));
        List<Integer> all = new ArrayList<>();
        for (int r = 0; r < 3; r++) {
            for (int k = 0; k < x.routine(r, 0); k++) {
                if (x.item(r, k, 0) == 11) {
                    all.add(x.item(r, k, 1));
                }
            }
        }
        due(all, List.of(1, 2, 3, 4, 5, 6));
    }

    private static void plainRun() {
        says("THE PLAIN RUN: a STATEMENT begins its LINE, then is done as ever; 'while' begins its LINE each time that its E is"
            + " asked.");
        LineKeeper x = Check.keeper("f(a){while a{a=a-1;}if a{out 1;}else{out 2;}return 3;}");
        due(lines(x, 2), List.of(1, 2, 1, 2, 1, 3, 5, 6));
        due(List.of(x.beside(0, 2, 0, 0, 0, 100), x.compared(2)), List.of(8, 1));
        says("Parts from the left.");
        due(prints(Check.keeper("f(a){out a-1-2;out a-1*2-3;out 2*a*a-a;}"), 10), List.of(7, 5, 190, 0));
        says("return ends the routine with E; behind its last STATEMENT it ends with 0.");
        due(prints(Check.keeper("g(a){if a{return a+1;}}f(){x=g(4);out x;x=g(0);out x;return 9;out 1;}")), List.of(5, 0, 9));
        due(prints(Check.keeper("f(){out 3;}")), List.of(3, 0));
        says("A 9th call in one another FAILS the run (before it is done).");
        x = Check.keeper("f(a){out a;if a{b=f(a-1);}}");
        x.start(0, 8, 0, 0, 0);
        due(List.of(x.go(2, 20000), x.run(1), x.run(5)), List.of(0, 9, 0));
        x.start(0, 9, 0, 0, 0);
        due(List.of(x.go(2, 20000), x.run(1), x.run(5)), List.of(3, 9, 1));
        due(List.of(x.beside(0, 8, 0, 0, 0, 20000), x.compared(2), x.beside(0, 9, 0, 0, 0, 20000), x.compared(2)),
            List.of(26, 1, 27, 2));
    }

    // ---- Term 2

    private static void items() {
        Doc.section("Term 2");
        says("CODE of a routine: ITEMS 0, 1, ..: ACTS COPY r a, PLUS MINUS TIMES EQUAL LESS r a b, OUT a, RETURN a, JUMP l, ZERO"
            + " a l, CALL r routine a.., and MARKS LINE, BIND, LABEL l, ENTER f, LEAVE f.");
        LineKeeper x = Check.keeper("g(){}f(a){x=a+1-2*3<4;y=f(5=6);while x{x=7;}out x;return x;z=g();}");
        x.pass(4, 1);
        Doc.code(x, 1, "LINE 1 in 0", "PLUS r4 r0 1", "TIMES r5 2 3", "MINUS r6 r4 r5", "LESS r7 r6 4", "COPY r1 r7",
            "BIND 0.1 r1", "LINE 2 in 0", "EQUAL r8 5 6", "CALL r2 f1 r8", "BIND 0.2 r2", "LABEL L0", "LINE 3 in 0",
            "ZERO r1 L1", "LINE 4 in 0", "COPY r1 7", "BIND 0.1 r1", "JUMP L0", "LABEL L1", "LINE 5 in 0", "OUT r1",
            "LINE 6 in 0", "RETURN r1", "LINE 7 in 0", "ENTER 1", "COPY r3 0", "JUMP L2", "LABEL L2", "LEAVE 1", "BIND 0.3 r3",
            "RETURN 0");
        due(List.of(x.routine(1, 0), x.routine(1, 1)), List.of(31, 15));
        says("REGISTERS r are numbers; a b are numbers themselves (CONST) or what a REGISTER has (REG).");
        due(List.of(x.item(1, 1, 1), x.item(1, 1, 3), x.item(1, 1, 5), x.item(1, 1, 4), x.item(1, 1, 6)),
            List.of(4, 2, 0, 1, 1));
        due(prints(Check.keeper("f(a){out a+3;out a;out 3;}"), 20), List.of(23, 20, 3, 0));
        says("Names have the REGISTERS 0, 1, .. by their numbers, then new ones come, each used for one result.");
        x = Check.keeper("f(a){c=a*a;b=a*a;}");
        due(List.of(x.routine(0, 7), x.routine(0, 8), x.routine(0, 9), x.routine(0, 4)), List.of(0, 1, 2, 5));
        due(List.of(Check.item(x, 0, 1), Check.item(x, 0, 5)), List.of("TIMES r3 r0 r0", "TIMES r4 r0 r0"));
        says("FRAMES: 0 is the routine itself; others are melted in.");
        x = Check.keeper("g(){}f(){x=g();}");
        due(List.of(x.routine(1, 5), x.frame(1, 0, 0), x.frame(1, 1, 0)), List.of(1, 1, -1));
        x.pass(4, 1);
        due(List.of(x.routine(1, 5), x.frame(1, 0, 0), x.frame(1, 1, 0)), List.of(2, 1, 0));
    }

    private static void made() {
        says("MADE of a text: a STATEMENT: LINE of it (of 'while' behind its LABEL).");
        LineKeeper x = Check.keeper("f(a){out a;while a{out 1;}}");
        due(Check.items(x, 0).subList(0, 4), List.of("LINE 1 in 0", "OUT r0", "LABEL L0", "LINE 2 in 0"));
        says("E of A: a number, a REGISTER; of others: its parts, then the ACT with the next new REGISTER (- A: MINUS of 0 and"
            + " A).");
        Doc.code(Check.keeper("f(a){out 5;out a;out (a);out -a;out a*2<-(3-a);}"), 0, "LINE 1 in 0", "OUT 5", "LINE 2 in 0",
            "OUT r0", "LINE 3 in 0", "OUT r0", "LINE 4 in 0", "MINUS r1 0 r0", "OUT r1", "LINE 5 in 0", "TIMES r2 r0 2",
            "MINUS r3 3 r0", "MINUS r4 0 r3", "LESS r5 r2 r4", "OUT r5", "RETURN 0");
        says("NAME = E: E, then COPY of what E is to the name's REGISTER r, then BIND of that name: REG r.");
        Doc.code(Check.keeper("f(a){b=a+1;b=7;}"), 0, "LINE 1 in 0", "PLUS r2 r0 1", "COPY r1 r2", "BIND 0.1 r1",
            "LINE 2 in 0", "COPY r1 7", "BIND 0.1 r1", "RETURN 0");
        says("A call: all E, then CALL (r the name's REGISTER), then BIND.");
        Doc.code(Check.keeper("f(a,b){c=f(a+1,b*2);}"), 0, "LINE 1 in 0", "PLUS r3 r0 1", "TIMES r4 r1 2", "CALL r2 f0 r3 r4",
            "BIND 0.2 r2", "RETURN 0");
        says("out, return: E, then the ACT.");
        Doc.code(Check.keeper("f(a){out a+1;return a-1;}"), 0, "LINE 1 in 0", "PLUS r1 r0 1", "OUT r1", "LINE 2 in 0",
            "MINUS r2 r0 1", "RETURN r2", "RETURN 0");
        says("if: E, ZERO of it to a new LABEL, the BLOCK; with else: JUMP to another new LABEL, then the first LABEL, the"
            + " BLOCK, the other LABEL; without: the first LABEL.");
        Doc.code(Check.keeper("f(a){if a=1{out 1;}else{out 2;}if a{out 3;}}"), 0, "LINE 1 in 0", "EQUAL r1 r0 1", "ZERO r1 L0",
            "LINE 2 in 0", "OUT 1", "JUMP L1", "LABEL L0", "LINE 3 in 0", "OUT 2", "LABEL L1", "LINE 4 in 0", "ZERO r0 L2",
            "LINE 5 in 0", "OUT 3", "LABEL L2", "RETURN 0");
        says("while: a new LABEL, LINE, E, ZERO to another new LABEL, the BLOCK, JUMP to the first one, the other LABEL.");
        Doc.code(Check.keeper("f(a){while a<3{out 1;}}"), 0, "LABEL L0", "LINE 1 in 0", "LESS r1 r0 3", "ZERO r1 L1",
            "LINE 2 in 0", "OUT 1", "JUMP L0", "LABEL L1", "RETURN 0");
        says("(LABELS are numbered from 0 on as they are first needed in this order; ZERO jumps if it is 0.)");
        Doc.code(Check.keeper("f(a){if a{while a{}}else{if a{}}}"), 0, "LINE 1 in 0", "ZERO r0 L0", "LABEL L1", "LINE 2 in 0",
            "ZERO r0 L2", "JUMP L1", "LABEL L2", "JUMP L3", "LABEL L0", "LINE 3 in 0", "ZERO r0 L4", "LABEL L4", "LABEL L3",
            "RETURN 0");
        x = Check.keeper("f(a){if a{out 1;}else{out 2;}}");
        due(List.of(prints(x, 0), prints(x, 1), prints(x, -1)), List.of(List.of(2, 0), List.of(1, 0), List.of(1, 0)));
        says("At the end RETURN 0.");
        Doc.code(Check.keeper("f(){}"), 0, "RETURN 0");
        Doc.code(Check.keeper("f(){return 4;}"), 0, "LINE 1 in 0", "RETURN 4", "RETURN 0");
        says("REGISTERS are 0 where nothing was written.");
        due(prints(Check.keeper("f(a){out b;if a{b=4;}out b;}"), 0), List.of(0, 0, 0));
    }

    private static void wheres() {
        says("A WHERE: REG r; CONST n; SUM: one of the five acts of a and b; GONE with why: 1 not there (a FRAME that is not"
            + " entered, or left), 2 dropped, 3 written over, 4 it differs by the ways.");
        String[] acts = {"PLUS", "MINUS", "TIMES", "EQUAL", "LESS"};
        for (int i = 0; i < 5; i++) {
            LineKeeper x = torn("f(a){x=a" + "+-*=<".charAt(i) + "9;y=3;out y;}", 0, 1, 0);
            due(List.of(Check.item(x, 0, 1), Check.item(x, 0, 4), x.item(0, 1, 7)),
                List.of("BIND 0.1 " + acts[i] + " r0 9", "BIND 0.2 3", 3 + i));
        }
        LineKeeper x = Check.keeper("g(p){}f(a){x=a*2;out 1;y=x;if a{z=1;}a=g(4);out a;}");
        x.pass(1, 1);
        x.pass(4, 1);
        int enter = 0;
        while (x.item(1, enter, 0) != 14) {
            enter++;
        }
        // y leaned on x, which was dropped; z is told by one way alone; p is not there outside of its FRAME.
        due(List.of(Check.told(x, 1, enter, 0, 2), Check.told(x, 1, enter, 0, 3), Check.told(x, 1, enter, 1, 0),
            Check.told(x, 1, enter + 3, 1, 0)), List.of("GONE2", "GONE4", "GONE1", "r" + x.item(1, enter + 1, 1)));
        int leave = enter;
        while (x.item(1, leave, 0) != 15) {
            leave++;
        }
        due(List.of(Check.told(x, 1, leave, 1, 0).charAt(0), Check.told(x, 1, leave + 1, 1, 0),
            Check.told(x, 1, leave + 1, 0, 0), Check.told(x, 1, leave + 2, 0, 0)), List.of('r', "GONE1", "GONE3", "r0"));
        says("BIND has a FRAME, a name of it, a WHERE.");
        x = Check.keeper("g(p,q){q=p;}f(a){x=g(a,1);}");
        x.pass(4, 1);
        // LINE, ENTER, COPY, BIND p, COPY, BIND q, LINE, COPY, BIND q, COPY, JUMP, LABEL, LEAVE, BIND x, RETURN.
        due(List.of(x.item(1, 5, 2), x.item(1, 5, 1), x.item(1, 5, 7), x.item(1, 5, 5)), List.of(1, 1, 2, 3));
        due(List.of(x.item(1, 13, 2), x.item(1, 13, 1), x.item(1, 13, 7), x.item(1, 13, 5)), List.of(0, 1, 2, 1));
        says("It LEANS ON the REGISTERS that stand in it.");
        x = torn("f(a,b,c){x=a-b;out 1;c=2;out c;b=3;out b;}", 0, 1);
        Doc.told(x, 0, 0, 3, "0", "0", "MINUS r0 r1", "MINUS r0 r1", "MINUS r0 r1", "MINUS r0 r1", "MINUS r0 r1",
            "MINUS r0 r1", "MINUS r0 r1", "MINUS r0 r1", "MINUS r0 r1", "GONE3", "GONE3", "GONE3", "GONE3", "GONE1");
    }

    private static void tellings() {
        says("TOLD of a name at an ITEM (ahead of it): by all ways of the code from its beginning to there: at the beginning REG"
            + " of parameters, CONST 0 of the other names of FRAME 0, GONE 1 of all others; BIND tells its WHERE; an ACT that"
            + " writes r makes what LEANS ON r GONE 3; LEAVE f makes names of f GONE 1.");
        LineKeeper x = Check.keeper("g(p){}f(a){x=a;x=g(1);}");
        x.pass(4, 1);
        Doc.code(x, 1, "LINE 1 in 0", "COPY r1 r0", "BIND 0.1 r1", "LINE 2 in 0", "ENTER 1", "COPY r2 1", "BIND 1.0 r2",
            "COPY r1 0", "JUMP L0", "LABEL L0", "LEAVE 1", "BIND 0.1 r1", "RETURN 0");
        Doc.told(x, 1, 0, 0, "r0", "r0", "r0", "r0", "r0", "r0", "r0", "r0", "r0", "r0", "r0", "r0", "r0", "GONE1");
        Doc.told(x, 1, 0, 1, "0", "0", "0", "r1", "r1", "r1", "r1", "r1", "GONE3", "GONE3", "GONE3", "GONE3", "r1", "GONE1");
        Doc.told(x, 1, 1, 0, "GONE1", "GONE1", "GONE1", "GONE1", "GONE1", "GONE1", "GONE1", "r2", "r2", "r2", "r2", "GONE1",
            "GONE1", "GONE1");
        says("Where ways come together (at a LABEL): what is the same by all of them that can be gone; else GONE 4.");
        x = Check.keeper("f(a){if a{x=1;y=1;}else{x=2;}out x;}");
        // LINE, ZERO, LINE, COPY, BIND x, LINE, COPY, BIND y, JUMP, LABEL, LINE, COPY, BIND x, LABEL, LINE, OUT, RETURN.
        due(List.of(Check.told(x, 0, 13, 0, 1), Check.told(x, 0, 14, 0, 1), Check.told(x, 0, 14, 0, 2),
            Check.told(x, 0, 9, 0, 2)), List.of("r1", "r1", "GONE4", "0"));
        x = Check.keeper("f(a){if a{x=1;return 2;}out x;}");
        // The way by return does not come to the LABEL.
        due(List.of(x.item(0, 7, 0), Check.told(x, 0, 8, 0, 1)), List.of(13, "0"));
        says("(So the most that is so, as ways in a ring are gone again and again; what can't be reached is GONE 1.)");
        x = Check.keeper("f(a){x=1;while a{a=a-1;y=x;}return 0;out 5;}");
        // LINE, COPY, BIND x, LABEL, LINE, ZERO, ..
        due(List.of(Check.told(x, 0, 4, 0, 0), Check.told(x, 0, 4, 0, 1), Check.told(x, 0, 4, 0, 2)),
            List.of("r0", "r1", "GONE4"));
        int n = x.routine(0, 0);
        due(List.of(x.item(0, n - 2, 0), Check.told(x, 0, n - 2, 0, 0), Check.told(x, 0, n - 1, 0, 1),
            Check.told(x, 0, n, 0, 0)), List.of(6, "GONE1", "GONE1", "GONE1"));
    }

    // ---- Term 3

    private static void fold() {
        Doc.section("Term 3");
        says("PASSES, of a routine's code, each told by ITEMS as they are then.");
        LineKeeper x = Check.keeper("f(a){x=2;out x+1;}g(a){x=2;out x+1;}");
        List<String> other = Check.items(x, 1);
        due(List.of(x.pass(0, 0), x.pass(0, 0), x.pass(1, 0), x.pass(1, 0)), List.of(2, 0, 2, 0));
        due(Check.items(x, 1), other);
        says("0 FOLD: ITEM by ITEM; of each REGISTER what it is known to be: nothing, CONST or REG; nothing of all at the"
            + " beginning and at each LABEL.");
        x = Check.keeper("f(a){out x;x=1;if a{out x;}out x;}");
        due(x.pass(0, 0), 1);
        due(List.of(Check.item(x, 0, 1), Check.item(x, 0, 8), Check.item(x, 0, 11)), List.of("OUT r1", "OUT 1", "OUT r1"));
        says("An ACT: its REG a that are known become that; then: one of the five of two CONSTS becomes COPY of what it gives;"
            + " ZERO of CONST 0 becomes JUMP, of another CONST goes out.");
        x = Check.keeper("g(a,b,c,d){}f(a){b=a;c=4;out b-c;d=c*2;if d=8{e=g(a,b,c,d);}if 0{}}");
        // MINUS, TIMES and the COPY of it, EQUAL, its ZERO, CALL, the other ZERO.
        due(x.pass(0, 1), 7);
        Doc.code(x, 1, "LINE 1 in 0", "COPY r1 r0", "BIND 0.1 r1", "LINE 2 in 0", "COPY r2 4", "BIND 0.2 4", "LINE 3 in 0",
            "MINUS r5 r0 4", "OUT r5", "LINE 4 in 0", "COPY r6 8", "COPY r3 8", "BIND 0.3 8", "LINE 5 in 0", "COPY r7 1",
            "LINE 6 in 0", "CALL r4 f0 r0 r0", "BIND 0.4 r4", "LABEL L0", "LINE 7 in 0", "JUMP L1", "LABEL L1", "RETURN 0");
        says("What writes r: r is known no more, nor what is known as REG r; then behind COPY r a, a not REG r: r is known as a.");
        x = Check.keeper("f(a){b=a;c=9;a=f(c);out b;out a;c=f(1);out c;a=a;d=a;}");
        // CALL of c as 9; a and b are known no more behind it, c not behind the next; COPY a a tells nothing.
        due(x.pass(0, 0), 1);
        due(List.of(Check.item(x, 0, 10), Check.item(x, 0, 12), Check.item(x, 0, 17), Check.item(x, 0, 22)),
            List.of("OUT r1", "OUT r0", "OUT r2", "COPY r3 r0"));
        says("BIND of REG r that is known as CONST becomes that CONST.");
        x = torn("f(a){x=6;y=a;}", 0, 0);
        due(List.of(Check.item(x, 0, 2), Check.item(x, 0, 5)), List.of("BIND 0.1 6", "BIND 0.2 r2"));
        says("(Others stay.)");
        x = torn("f(){x=6;y=x+1;out x;}", 0, 1, 0);
        due(List.of(Check.item(x, 0, 2), Check.item(x, 0, 4)), List.of("BIND 0.0 6", "BIND 0.1 PLUS r0 1"));
        says("Told: how many ACTS were changed or went out.");
        due(Check.keeper("f(){x=1;y=x;z=x+y;if z{out z;}}").pass(0, 0), 5);
        due(Check.keeper("f(a){out a;out 1;if a{}}").pass(0, 0), 0);
    }

    private static void drop() {
        says("1 DROP: first what can't be reached goes out, MARKS too (from the first ITEM on: behind JUMP and RETURN one does"
            + " not go on; a LABEL is reached by its jumps, and from ahead).");
        LineKeeper x = Check.keeper("f(a){if a{return 1;}else{return 2;}while a{out 3;}}");
        due(x.pass(1, 0), 5);
        Doc.code(x, 0, "LINE 1 in 0", "ZERO r0 L0", "LINE 2 in 0", "RETURN 1", "LABEL L0", "LINE 3 in 0", "RETURN 2");
        x = torn("f(a){if 0{out 1;}out 2;if 1{out 3;}}", 0, 0);
        due(x.pass(1, 0), 1);
        Doc.code(x, 0, "LINE 1 in 0", "JUMP L0", "LABEL L0", "LINE 3 in 0", "OUT 2", "LINE 4 in 0", "LINE 5 in 0", "OUT 3",
            "LABEL L1", "RETURN 0");
        says("Then, as long as there is one: the last COPY or one of the five whose REGISTER is read on no way behind it (ahead"
            + " of its being written; BIND reads nothing) goes out.");
        x = Check.keeper("f(a){x=a+1;y=x;if a{out y;}y=2;z=f(a);}");
        due(x.pass(1, 0), 1);
        due(List.of(Check.item(x, 0, 2), Check.item(x, 0, 5), Check.item(x, 0, 13), Check.item(x, 0, 15)),
            List.of("COPY r1 r4", "COPY r2 r1", "BIND 0.2 2", "CALL r3 f0 r0"));
        says("When it does: each BIND that LEANS ON its r, and is reached from there on some way on which r is not written,"
            + " becomes GONE 2; but one of REG r that stands behind it with MARKS LINE, BIND alone between becomes: behind"
            + " COPY of a: CONST or REG, as a is; behind one of the five: SUM of it.");
        x = torn("f(a){x=5;y=a;z=a*a;out 1;w=z;}", 0, 1);
        Doc.code(x, 0, "LINE 1 in 0", "BIND 0.1 5", "LINE 2 in 0", "BIND 0.2 r0", "LINE 3 in 0", "BIND 0.3 TIMES r0 r0",
            "LINE 4 in 0", "OUT 1", "LINE 5 in 0", "BIND 0.4 GONE2", "RETURN 0");
        x = torn("f(a){x=a*a;y=x;out y;x=3;out x;}", 0, 1);
        due(List.of(Check.item(x, 0, 1), Check.item(x, 0, 2), Check.item(x, 0, 3)),
            List.of("TIMES r3 r0 r0", "COPY r1 r3", "BIND 0.1 r1"));
        // y, of REG x, stands behind x = 7 by LINE and BIND; z, of REG x behind OUT, is GONE; w behind what writes x again.
        x = torn("f(a){x=7;y=x;out a;z=x;x=a;w=x;out x;}", 0, 1);
        Doc.code(x, 0, "LINE 1 in 0", "BIND 0.1 7", "LINE 2 in 0", "BIND 0.2 7", "LINE 3 in 0", "OUT r0", "LINE 4 in 0",
            "BIND 0.3 GONE2", "LINE 5 in 0", "COPY r1 r0", "BIND 0.1 r1", "LINE 6 in 0", "BIND 0.4 r1", "LINE 7 in 0", "OUT r1",
            "RETURN 0");
        says("Told: how many ACTS went out, JUMP and others too.");
        due(Check.keeper("f(a){return 1;while a{out a;x=f(a);}}").pass(1, 0), 5);
        due(Check.keeper("f(a){x=1+2;}").pass(1, 0), 2);
    }

    private static void move() {
        says("2 MOVE: LOOPS: a LABEL with a JUMP to it that stands behind; from the LABEL up to the last such JUMP.");
        due(Check.keeper("f(a){if a{out 1+2;}else{out 3+4;}}").pass(2, 0), 0);
        due(Check.keeper("f(a){out 5-6;while a{out 1+2;}out 3*4;}").pass(2, 0), 1);
        says("From the last LABEL to the first: again and again the first COPY or one of the five within that writes a REGISTER"
            + " that is no name's and that no other ITEM writes, and whose REG are written nowhere within: it goes right ahead"
            + " of the LABEL.");
        LineKeeper x = Check.keeper("f(a,b){while a{while b{b=b-1;out a*2+b;}c=4;out (b+1)*3;out 7-8;a=a-1;}}");
        due(x.pass(2, 0), 2);
        Doc.code(x, 0, "MINUS r8 7 8", "LABEL L0", "LINE 1 in 0", "ZERO r0 L1", "TIMES r4 r0 2", "LABEL L2", "LINE 2 in 0",
            "ZERO r1 L3", "LINE 3 in 0", "MINUS r3 r1 1", "COPY r1 r3", "BIND 0.1 r1", "LINE 4 in 0", "PLUS r5 r4 r1", "OUT r5",
            "JUMP L2", "LABEL L3", "LINE 5 in 0", "COPY r2 4", "BIND 0.2 r2", "LINE 6 in 0", "PLUS r6 r1 1", "TIMES r7 r6 3",
            "OUT r7", "LINE 7 in 0", "OUT r8", "LINE 8 in 0", "MINUS r9 r0 1", "COPY r0 r9", "BIND 0.0 r0", "JUMP L0",
            "LABEL L1", "RETURN 0");
        // FOLD makes COPIES of two results, which go; SHARE gives them one number, so that another ITEM writes it.
        due(torn("f(a){while a{out 1+2;out 3+4;out a;a=a-1;}}", 0, 0).pass(2, 0), 2);
        due(torn("f(a){while a{out 1+2;out 3+4;out a;a=a-1;}}", 0, 5).pass(2, 0), 0);
        says("Told: how many went.");
        due(Check.keeper("f(a,b){while a{out b*b+b;}}").pass(2, 0), 2);
    }

    private static void alike() {
        says("3 ALIKE: ITEM by ITEM: one of the five that is as one that stood ahead, with no LABEL between, and neither that"
            + " one's r nor what it reads was written since (by itself neither): becomes COPY of REG of that r (of several the"
            + " latest).");
        LineKeeper x = Check.keeper("f(a,b){out a*b;out b*a;out a-b;out a*b;a=1;out a*b;out a*b;if a{}out a*b;}");
        due(x.pass(3, 0), 2);
        due(List.of(Check.item(x, 0, 1), Check.item(x, 0, 4), Check.item(x, 0, 7), Check.item(x, 0, 10), Check.item(x, 0, 16),
            Check.item(x, 0, 19), Check.item(x, 0, 25)), List.of("TIMES r2 r0 r1", "TIMES r3 r1 r0", "MINUS r4 r0 r1",
            "COPY r5 r2", "TIMES r6 r0 r1", "COPY r7 r6", "TIMES r8 r0 r1"));
        // Behind SHARE a + 1 is written to a itself: by itself, what it reads was written since.
        due(torn("f(a){a=a+1;a=a+1;out a;}", 0, 5).pass(3, 0), 0);
        // Here that one's r, c, was written since.
        due(torn("f(a,b){c=a+b;out c;c=a-b;out c;c=a+b;out c;}", 0, 5).pass(3, 0), 0);
        says("Told: how many.");
        due(Check.keeper("f(a){out a+1;out a+1;out a+1;}").pass(3, 0), 2);
    }

    private static void melt() {
        says("4 MELT: CALLS, from the first on: of another routine whose code has no CALL and at most 20 ACTS; there would be no"
            + " more than 200 ITEMS, 100 REGISTERS, 12 FRAMES then.");
        due(Check.keeper("f(){x=f();}").pass(4, 0), 0);
        due(Check.keeper("f(){x=g();}g(){x=h();}h(){}").pass(4, 0), 0);
        due(Check.keeper("f(){x=g();}g(){" + "out 1;".repeat(19) + "}").pass(4, 0), 1);
        due(Check.keeper("f(){x=g();}g(){" + "out 1;".repeat(20) + "}").pass(4, 0), 0);
        LineKeeper x = Check.keeper("f(){" + "x=g();".repeat(12) + "}g(){}");
        due(List.of(x.pass(4, 0), x.routine(0, 5)), List.of(11, 12));
        // g of 37 ITEMS: 41 in place of a CALL. Four of them and 36 ITEMS are 200, the 37th is one too many.
        String g = "g(){" + "out 1;".repeat(18) + "}";
        x = Check.keeper("f(){" + "x=g();".repeat(4) + "out 1" + "+1".repeat(25) + ";}" + g);
        due(List.of(x.routine(0, 0), x.pass(4, 0), x.routine(0, 0)), List.of(40, 4, 200));
        x = Check.keeper("f(){" + "x=g();".repeat(4) + "out 1" + "+1".repeat(26) + ";}" + g);
        due(List.of(x.routine(0, 0), x.pass(4, 0), x.routine(0, 0)), List.of(41, 3, 161));
        x = Check.keeper("f(){x=g();out 1" + "+1".repeat(98) + ";}g(){a=1;}");
        due(List.of(x.pass(4, 0), x.routine(0, 4)), List.of(1, 100));
        due(Check.keeper("f(){x=g();out 1" + "+1".repeat(99) + ";}g(){a=1;}").pass(4, 0), 0);
        says("In its place: ENTER f (the next FRAME: of that routine, called at the LINE, and in the FRAME, of the LINE mark next"
            + " ahead); of each parameter of it: COPY of the E to its REGISTER, BIND: REG; of each other name: BIND: CONST 0; of"
            + " each REGISTER that LIVES (as in 5) at the beginning of its code and is no parameter's, by number: COPY of 0 to"
            + " it; then all ITEMS of its code, RETURN a as COPY of a to the CALL's r and JUMP to a new LABEL; that LABEL; LEAVE"
            + " f.");
        x = Check.keeper("g(p,q){s=1;if p{return r+t;}out s;}f(a){x=g(a,3);}");
        x.pass(4, 1);
        Doc.code(x, 1, "LINE 5 in 0", "ENTER 1", "COPY r2 r0", "BIND 1.0 r2", "COPY r3 3", "BIND 1.1 r3", "BIND 1.2 0",
            "BIND 1.3 0", "BIND 1.4 0", "COPY r5 0", "COPY r6 0", "LINE 1 in 1", "COPY r4 1", "BIND 1.2 r4", "LINE 2 in 1",
            "ZERO r2 L0", "LINE 3 in 1", "PLUS r7 r5 r6", "COPY r1 r7", "JUMP L1", "LABEL L0", "LINE 4 in 1", "OUT r4",
            "COPY r1 0", "JUMP L1", "LABEL L1", "LEAVE 1", "BIND 0.1 r1", "RETURN 0");
        due(List.of(x.frame(1, 1, 0), x.frame(1, 1, 1), x.frame(1, 1, 2)), List.of(0, 0, 5));
        says("(REGISTERS, LABELS, FRAMES of the routine that is melted in are numbered on: behind all REGISTERS, as routine()"
            + " tells how many, behind the greatest LABEL that stands in an ITEM, behind all FRAMES; the new LABEL is 1 more than"
            + " the greatest one then.)");
        x = Check.keeper("h(s){if s{}}g(){y=h(1);}f(a){if a{x=h(a);}x=g();out a+a;}");
        x.pass(4, 1);
        x.pass(4, 2);
        Doc.code(x, 2, "LINE 3 in 0", "ZERO r0 L0", "LINE 4 in 0", "ENTER 1", "COPY r3 r0", "BIND 1.0 r3", "LINE 1 in 1",
            "ZERO r3 L1", "LABEL L1", "COPY r1 0", "JUMP L2", "LABEL L2", "LEAVE 1", "BIND 0.1 r1", "LABEL L0", "LINE 5 in 0",
            "ENTER 2", "BIND 2.0 0", "LINE 2 in 2", "ENTER 3", "COPY r5 1", "BIND 3.0 r5", "LINE 1 in 3", "ZERO r5 L3",
            "LABEL L3", "COPY r4 0", "JUMP L4", "LABEL L4", "LEAVE 3", "BIND 2.0 r4", "COPY r1 0", "JUMP L5", "LABEL L5",
            "LEAVE 2", "BIND 0.1 r1", "LINE 6 in 0", "PLUS r2 r0 r0", "OUT r2", "RETURN 0");
        due(List.of(x.frame(2, 3, 0), x.frame(2, 3, 1), x.frame(2, 3, 2)), List.of(0, 2, 2));
        says("Told: how many.");
        due(Check.keeper("g(){}f(){x=g();x=f();x=g();}").pass(4, 1), 2);
    }

    private static void share() {
        says("5 SHARE: REGISTERS are numbered anew: r LIVES at an ITEM if it is read on some way from there on ahead of its being"
            + " written (BIND reads nothing).");
        // b lives nowhere, as BIND reads nothing; c lives at the beginning by one way.
        due(torn("f(a){b=a;}", 0).pass(5, 0), 1);
        due(torn("f(a){if a{out c;}c=1;}", 0).pass(5, 0), 2);
        says("Two are at odds if one is written by an ACT behind which the other one lives, or both are parameters or live at the"
            + " beginning (or one is a parameter and the other one lives there).");
        due(List.of(Check.keeper("f(a){b=1;out a;}").pass(5, 0), Check.keeper("f(a){out a;b=1;out b;}").pass(5, 0),
            Check.keeper("f(a,b,c){}").pass(5, 0), Check.keeper("f(){out a;out b;}").pass(5, 0),
            Check.keeper("f(a){out b;}").pass(5, 0), Check.keeper("f(a){a=f(b);out a;}").pass(5, 0)),
            List.of(2, 1, 3, 2, 2, 2));
        says("From 0 on each REGISTER gets the least number that none of those ahead of it that it is at odds with has.");
        LineKeeper x = Check.keeper("f(a,b){c=a;d=b;out c;out d;e=5;out e;}");
        due(x.pass(5, 0), 2);
        Doc.code(x, 0, "LINE 1 in 0", "COPY r0 r0", "BIND 0.2 r0", "LINE 2 in 0", "COPY r1 r1", "BIND 0.3 r1", "LINE 3 in 0",
            "OUT r0", "LINE 4 in 0", "OUT r1", "LINE 5 in 0", "COPY r0 5", "BIND 0.4 r0", "LINE 6 in 0", "OUT r0", "RETURN 0");
        says("Then each BIND that LEANS ON r becomes GONE 3 if not on every way to it, by the new numbers, what was written last to"
            + " that of r was r (at the beginning: parameters, and what lives there).");
        due(Check.item(torn("f(a){b=2;out b;c=a;out 1;}", 0, 1, 5), 0, 6), "BIND 0.2 GONE3");
        due(Check.item(torn("f(a){c=a;b=2;out b;}", 0, 1, 5), 0, 1), "BIND 0.1 r0");
        due(Check.item(torn("f(a,d){if d{b=2;out b;}c=a;out 1;}", 0, 1, 5), 0, 9), "BIND 0.3 GONE3");
        due(Check.item(torn("f(a){c=e;out a;e=1;out e;}", 0, 1, 5), 0, 1), "BIND 0.1 GONE3");
        due(Check.item(torn("f(a){c=e;out a;out e;}", 0, 1, 5), 0, 1), "BIND 0.1 r1");
        says("Names' REGISTERS, parameters' places go along.");
        x = Check.keeper("f(a,b){c=b;out c;d=a-b;out d;}");
        x.pass(5, 0);
        due(List.of(x.routine(0, 7), x.routine(0, 8), x.routine(0, 9), x.routine(0, 10)), List.of(0, 1, 2, 0));
        due(prints(x, 9, 4), List.of(4, 5, 0));
        due(List.of(Check.told(x, 0, 0, 0, 0), Check.told(x, 0, 0, 0, 1)), List.of("r0", "r1"));
        says("Told: how many REGISTERS there are then.");
        due(List.of(Check.keeper("f(){}").pass(5, 0), x.pass(5, 0), x.routine(0, 4)), List.of(0, 3, 3));
    }

    private static void labelsAndNames() {
        says("(A LABEL to which no JUMP or ZERO goes stays.");
        LineKeeper x = torn("f(a){if 1{out a;}}", 0, 0);
        for (int kind = 0; kind < 6; kind++) {
            x.pass(kind, 0);
            Doc.code(x, 0, "LINE 1 in 0", "LINE 2 in 0", "OUT r0", "LABEL L0", "RETURN 0");
        }
        says("A name's REGISTER in 2 is one of FRAME 0 or of any FRAME.)");
        x = Check.keeper("g(p){q=7;return q+1;}f(a){while a{x=g(5);out x;}}");
        x.pass(4, 1);
        // p and q are names of FRAME 1, x and a of FRAME 0; q + 1 reads q, which is written within.
        due(x.pass(2, 1), 0);
        due(Check.keeper("f(a){while a{x=5;out x;}}").pass(2, 0), 0);
        due(Check.keeper("f(a){while a{out 5*1;}}").pass(2, 0), 1);
    }

    // ---- Term 4

    private static void aRun() {
        Doc.section("Term 4");
        says("A RUN goes by the code: each routine that is called by CALL has REGISTERS of its own.");
        LineKeeper x = Check.keeper("f(a){b=a*10;if a{c=f(a-1);}out b;out d;d=b;}");
        due(prints(x, 2), List.of(0, 0, 10, 0, 20, 0, 0));
        says("It stops ahead of an ITEM: at first ahead of item 0 of its routine.");
        x.start(0, 2, 0, 0, 0);
        due(List.of(x.run(0), x.run(2), x.go(2, 1), x.run(0), x.run(2)), List.of(0, 0, 2, 1, 1));
        says("THE STACK: the frames as the text has them: of each call the FRAME that is entered last, those that it stands in, up"
            + " to FRAME 0; then that of the CALL, likewise.");
        x = Check.keeper("h(){out 1;}g(){x=h();}f(){x=g();}e(){x=f();}");
        x.pass(4, 1);
        x.pass(4, 2);
        x.start(3, 0, 0, 0, 0);
        while (x.run(1) == 0 && x.run(2) < 99) {
            x.go(2, 1);
        }
        due(List.of(x.run(4), x.stack(0, 0), x.stack(1, 0), x.stack(2, 0), x.stack(3, 0), x.stack(4, 0)),
            List.of(4, 0, 1, 2, 3, -1));
        says("Its LINE is the LINE begun last in a frame (0: none yet).");
        due(List.of(x.stack(0, 1), x.stack(1, 1), x.stack(2, 1), x.stack(3, 1)), List.of(1, 2, 3, 4));
        x.start(3, 0, 0, 0, 0);
        due(x.stack(0, 1), 0);
        x.go(2, 2);
        due(List.of(x.stack(0, 1), x.stack(1, 1)), List.of(0, 4));
        says("At most 8 calls by CALL and ENTER stand in one another; a further one FAILS the run ahead of it.");
        for (int melted = 0; melted < 2; melted++) {
            x = Check.keeper("g(){out 1;}f(a){if a{b=f(a-1);}else{b=g();}}");
            if (melted == 1) {
                x.pass(4, 1);
            }
            x.start(1, 7, 0, 0, 0);
            due(List.of(x.go(2, 9999), x.run(1), x.run(5)), List.of(0, 1, 0));
            x.start(1, 8, 0, 0, 0);
            due(List.of(x.go(2, 9999), x.run(1), x.run(5), x.run(4), x.item(1, x.run(0), 0)),
                List.of(3, 0, 1, 9, melted == 1 ? 14 : 10));
        }
    }

    private static void behindTheTerms() {
        Doc.section(Doc.BEHIND_THE_TERMS);
        says("A refused call changes nothing but the tape, which is empty behind each call that takes it.");
        LineKeeper x = Check.keeper("f(a){x=1;out a;}");
        x.start(0, 4, 0, 0, 0);
        x.go(0, 9);
        List<Object> before = seen(x);
        Check.tape(x, "f(){}f(){}");
        due(List.of(x.read(), x.end(1), x.fault(0), seen(x)), List.of(-1, -1, 2, before));
        due(List.of(x.pass(6, 0), x.pass(0, 1), x.start(1, 0, 0, 0, 0), x.go(3, 1), x.go(0, 0), x.beside(0, 0, 0, 0, 0, 0),
            x.end(-1), seen(x)), List.of(-1, -1, false, -1, -1, -1, -1, before));
        Check.tape(x, "f(){out 8;}");
        due(List.of(x.end(12), x.read(), x.end(1), x.end(0)), List.of(-1, 1, -1, 0));
        says("The constants: `NONE = -1`: There is none.");
        due(LineKeeper.NONE, -1);
        due(new LineKeeper().routine(0, 0), LineKeeper.NONE);
        says("Ahead of the calls `start`, `go`, `stack`, `known`, `value`, `run`, `printed`, `beside`, `compared` the interface"
            + " says: ---- a run.");
        // The nine calls of a run are there, in this order.
        x = Check.keeper("f(a){out a;}");
        due(List.of(x.start(0, 3, 0, 0, 0), x.go(0, 9), x.stack(0, 1), x.known(0, 0), x.value(0, 0), x.run(2), x.printed(0),
            x.beside(0, 3, 0, 0, 0, 9), x.compared(2)), List.of(true, 1, 1, 1, 3, 1, 0, 1, 1));
    }

    private static List<Object> seen(LineKeeper x) {
        List<Object> list = new ArrayList<>(Check.items(x, 0));
        for (int what = 0; what < 6; what++) {
            list.add(x.run(what));
            list.add(x.routine(0, what));
        }
        list.addAll(List.of(x.stack(0, 1), x.known(0, 0), x.value(0, 0), x.known(0, 1), x.compared(0), x.routine(1, 0)));
        return list;
    }
}
