import java.util.ArrayList;
import java.util.List;

/** Term 1, edge by edge: the tape, TOKENS, what may be open, each FAULT and its place, numbers, the plain run. */
public final class EdgeTextTest {
    private static final String[] WORDS = {"out", "return", "if", "else", "while"};
    private static final int MAX = Integer.MAX_VALUE;
    private static final int MIN = Integer.MIN_VALUE;

    public static void main(String[] args) {
        fullTape();
        everyByte();
        longNames();
        longNumbers();
        rowsSideBySide();
        words();
        callsAreNoParts();
        openParts();
        openBlocks();
        ends();
        faultOneComesFirst();
        toldAlready();
        noRoutine();
        anotherNumberOfParts();
        routinesAndParameters();
        names();
        statements();
        items();
        severalFaults();
        numbersGoAround();
        foldedNumbersGoAround();
        namesAreNought();
        linesOfRings();
        returns();
        ninthCall();
        Check.finish();
    }

    /** The fault's place is where ^ stands, which is not fed. */
    private static void bad(String sentence, int fault, String marked) {
        int place = marked.indexOf('^');
        String text = marked.replace("^", "");
        LineKeeper x = new LineKeeper();
        Check.tape(x, text);
        Check.due("Term 1: " + sentence + ": read of " + marked, x.read(), -1);
        Check.due("Term 1: " + sentence + ": " + marked, List.of(x.fault(0), x.fault(1)), List.of(fault, place));
        Check.due("Term 1: " + sentence + ": no routine of " + marked, x.routine(0, 0), -1);
    }

    private static void good(String sentence, String text, int routines) {
        LineKeeper x = new LineKeeper();
        Check.tape(x, text);
        Check.due("Term 1: " + sentence + ": read of " + text, x.read(), routines);
        Check.due("Term 1: " + sentence + ": " + text, List.of(x.fault(0), x.fault(1)), List.of(0, -1));
    }

    private static void good(String sentence, String text) {
        good(sentence, text, 1);
    }

    private static String blanks(int n) {
        return " ".repeat(n);
    }

    private static void fullTape() {
        String sentence = "THE TAPE has at most 1200 bytes";
        good(sentence, blanks(1200), 0);
        good(sentence, blanks(1195) + "f(){}");
        good(sentence, "f(){" + "\n".repeat(1195) + "}");
        bad(sentence, 1, blanks(1199) + "^!");
        bad(sentence, 1, blanks(1199) + "f^");
        bad(sentence, 1, blanks(1194) + "f(){}f^");
        bad(sentence, 1, "^" + "a".repeat(1200));
        bad(sentence, 1, "^" + "7".repeat(1200));
        bad(sentence, 1, "^" + "(".repeat(1200));
        bad(sentence, 1, "f(){^{" + "{".repeat(1195));
        bad(sentence, 2, "a(){}^" + "a(){}".repeat(239));
        bad(sentence, 2, "f(a,^a" + ",a".repeat(596) + "){}");
        bad(sentence, 5, "^f(){" + "x=f();".repeat(199) + "}");
        bad(sentence, 5, "^f(){x=1" + "+1".repeat(595) + ";}");
        bad(sentence, 4, "f(){x=^f(1" + ",1".repeat(593) + ");}");
        bad(sentence, 3, "f(){x=^g(1" + ",1".repeat(593) + ");}");
        LineKeeper x = new LineKeeper();
        Check.tape(x, blanks(1195) + "f(){}");
        Check.due("Term 1: 1200 bytes are there", x.end(1200), 1200);
        Check.due("Term 1: no 1201st", List.of(x.end(1201), x.feed(0, 0, 0, 0, 0)), List.of(-1, -1));
        Check.due("Term 1: the 1200 are read", x.read(), 1);
    }

    private static void everyByte() {
        for (int one = 0; one < 256; one++) {
            char c = (char) one;
            String sentence = "the byte " + one;
            String text = "f(){x=1" + c + "2;}";
            if ("+-*=<".indexOf(c) >= 0 || c >= '0' && c <= '9') {
                good(sentence, text);
            } else if (c == ' ' || c == '\n' || c == ';') {
                bad(sentence, 1, "f(){x=1" + c + "^2;}");
            } else if (c != '^') {
                bad(sentence, 1, "f(){x=1^" + c + "2;}");
            }
            String between = "f()" + c + "{}";
            if (c == ' ' || c == '\n') {
                good(sentence, between);
            } else if (c == '{') {
                bad(sentence, 1, "f(){^{}");
            } else if (c != '^') {
                bad(sentence, 1, "f()^" + c + "{}");
            }
            boolean letter = c >= 'a' && c <= 'z';
            if (letter) {
                good(sentence, c + "(){}");
            }
        }
        LineKeeper x = new LineKeeper();
        Check.tape(x, "f()^{}");
        Check.due("Term 1: the byte 94", List.of(x.read(), x.fault(0), x.fault(1)), List.of(-1, 1, 3));
    }

    private static void longNames() {
        String sentence = "NAMES: 1 to 6 letters";
        good(sentence, "abcdef(){}");
        bad(sentence, 1, "^abcdefg(){}");
        good(sentence, "f(uvwxyz){}");
        bad(sentence, 1, "f(^tuvwxyz){}");
        good(sentence, "f(a,uvwxyz){}");
        bad(sentence, 1, "f(a,^tuvwxyz){}");
        good(sentence, "f(){zzzzzz=1;}");
        bad(sentence, 1, "f(){^zzzzzzz=1;}");
        good(sentence, "f(){x=zzzzzz;}");
        bad(sentence, 1, "f(){x=^zzzzzzz;}");
        good(sentence, "f(){x=1*zzzzzz;}");
        bad(sentence, 1, "f(){x=1*^zzzzzzz;}");
        good(sentence, "f(){x=abcdef();}abcdef(){}", 2);
        bad(sentence, 1, "f(){x=^abcdefg();}abcdefg(){}");
        bad(sentence, 1, "f(){}^abcdefghijklm(){}");
        LineKeeper x = Check.keeper("f(aaaaaa,aaaaab,b,ba){out aaaaaa;out aaaaab;out b;out ba;}");
        x.start(0, 1, 2, 3, 4);
        x.go(2, 50);
        Check.due("Term 1: all letters of a NAME count", List.of(x.printed(0), x.printed(1), x.printed(2), x.printed(3)),
            List.of(1, 2, 3, 4));
    }

    private static void longNumbers() {
        String sentence = "NUMBERS: 1 to 7 digits";
        good(sentence, "f(){x=1234567;}");
        bad(sentence, 1, "f(){x=^12345678;}");
        good(sentence, "f(){x=0000000;}");
        bad(sentence, 1, "f(){x=^00000000;}");
        good(sentence, "f(){x=-9999999;}");
        bad(sentence, 1, "f(){x=-^10000000;}");
        bad(sentence, 1, "f(){out 1;out ^12345678901234567890;}");
        LineKeeper x = Check.keeper("f(){out 9999999;out 0000000;out 0000012;out 0;out 1000000;}");
        x.start(0, 0, 0, 0, 0);
        x.go(2, 50);
        Check.due("Term 1: the numbers", List.of(x.printed(0), x.printed(1), x.printed(2), x.printed(3), x.printed(4)),
            List.of(9999999, 0, 12, 0, 1000000));
    }

    private static void rowsSideBySide() {
        String sentence = "TOKENS, as long as they go";
        good(sentence, "f(){out1;}");
        good(sentence, "f(){return1;}");
        good(sentence, "f(){if1{}else{}while0{}}");
        bad(sentence, 1, "f(){outx^;}");
        bad(sentence, 1, "f(){elsex^{}}");
        bad(sentence, 1, "f(){x=1^a;}");
        bad(sentence, 1, "f(){x=a^1;}");
        bad(sentence, 1, "f(){x=1^abcdefg;}");
        bad(sentence, 1, "f(){out1^out;}");
        bad(sentence, 1, "f(){x=1 ^1;}");
        bad(sentence, 1, "f(){x=a ^a;}");
        bad(sentence, 1, "f(){re ^turn 1;}");
        bad(sentence, 1, "f(){x=1=^=1;}");
        good(sentence, " f\n( a , b )\n{ x = a < b ; }\n");
        good(sentence, "f(a,b){x=a<b;}");
    }

    private static void words() {
        String sentence = "WORDS are no NAMES";
        for (String word : WORDS) {
            bad(sentence, 1, "^" + word + "(){}");
            bad(sentence, 1, "f(^" + word + "){}");
            bad(sentence, 1, "f(a,^" + word + "){}");
            bad(sentence, 1, "f(){x=^" + word + ";}");
            bad(sentence, 1, "f(){x=1+^" + word + ";}");
            bad(sentence, 1, "f(){x=(^" + word + ");}");
            bad(sentence, 1, "f(){x=^" + word + "();}");
            bad(sentence, 1, word.equals("else") ? "f(){^else=1;}" : "f(){" + word + "^=1;}");
            String less = word.substring(0, word.length() - 1);
            good(sentence, "f(" + less + "){" + less + "=1;}");
        }
        good(sentence, "outs(ifs,elses,whiles,outx){ifs=elses;}");
        bad(sentence, 1, "f(){^returns=1;}");
    }

    private static void callsAreNoParts() {
        String sentence = "NAME and ( right behind = is a call";
        good(sentence, "f(){x=f();}");
        good(sentence, "f(){x=f\n (\n );}");
        good(sentence, "f(a){x=f(1);x=(f);x=-f;}");
        bad(sentence, 1, "f(){x=f ^);}");
        bad(sentence, 1, "f(){x=(f^());}");
        bad(sentence, 1, "f(){x=-f^();}");
        bad(sentence, 1, "f(){x=1+f^();}");
        bad(sentence, 1, "f(){x=f()^+1;}");
        bad(sentence, 1, "f(a){x=f(f^(1));}");
        bad(sentence, 1, "f(){out f^();}");
        bad(sentence, 1, "f(){return f^();}");
        bad(sentence, 1, "f(){if f^(){}}");
        bad(sentence, 1, "f(){while f^(){}}");
        bad(sentence, 1, "f(){f^();}");
        bad(sentence, 1, "f(){x=y=f^();}");
    }

    private static void openParts() {
        String sentence = "at most 8 E may be open at one place";
        String[] heads = {"x=", "out ", "return ", "x=1+", "x=1=", "x=-", "x=f(", "x=f(1,", "x=(1)+(2)*"};
        String[] tails = {";", ";", ";", ";", ";", ";", ",2);", ");", ";"};
        for (int i = 0; i < heads.length; i++) {
            good(sentence, "f(a,b){" + heads[i] + "(".repeat(7) + "a" + ")".repeat(7) + tails[i] + "}");
            bad(sentence, 1, "f(a,b){" + heads[i] + "(".repeat(8) + "^a" + ")".repeat(8) + tails[i] + "}");
            bad(sentence, 1, "f(a,b){" + heads[i] + "(".repeat(8) + "^(a" + ")".repeat(9) + tails[i] + "}");
            bad(sentence, 1, "f(a,b){" + heads[i] + "(".repeat(8) + " ^-a" + ")".repeat(8) + tails[i] + "}");
        }
        for (String head : new String[] {"if ", "while "}) {
            good(sentence, "f(){" + head + "(".repeat(7) + "1" + ")".repeat(7) + "{}}");
            bad(sentence, 1, "f(){" + head + "(".repeat(8) + "^1" + ")".repeat(8) + "{}}");
        }
        bad(sentence, 1, "f(){x=" + "(".repeat(8) + "^");
        bad(sentence, 1, "f(){x=" + "(".repeat(7) + "^");
        bad(sentence, 1, "f(){x=" + "(".repeat(7) + "^)");
        good(sentence, "f(){x=" + "(1)+".repeat(20) + "(1);}");
        good(sentence, "f(){x=" + "(1+".repeat(7) + "1" + ")*(2)".repeat(6) + ");}");
        good(sentence, "f(){x=" + "(1<".repeat(7) + "1" + ")".repeat(7) + ";}");
        good(sentence, "f(a){x=f(" + "(".repeat(7) + "1" + ")".repeat(7) + ");}");
    }

    private static void openBlocks() {
        String sentence = "at most 6 BLOCKS may be open at one place";
        for (String head : new String[] {"if 1{", "while 1{", "if 1{}else{"}) {
            good(sentence, "f(){" + head.repeat(5) + "x=1;" + "}".repeat(6));
            bad(sentence, 1, "f(){" + head.repeat(5) + "if 1^{" + "}".repeat(7));
            bad(sentence, 1, "f(){" + head.repeat(5) + "while 1^{" + "}".repeat(7));
            bad(sentence, 1, "f(){" + head.repeat(5) + "while 1 ^;" + "}".repeat(6));
        }
        good(sentence, "f(){" + "if 1{}".repeat(20) + "}");
        good(sentence, "f(){" + "if 1{".repeat(5) + "}".repeat(5) + "while 0{" + "if 1{".repeat(4) + "}".repeat(6));
        good(sentence, "f(){" + "if 1{".repeat(5) + "x=" + "(".repeat(7) + "1" + ")".repeat(7) + ";" + "}".repeat(6));
    }

    private static void ends() {
        String sentence = "FAULT 1, the end, too";
        for (String text : new String[] {"f(a){x=1;}", "f(){out 12;}", "f(a,b){if a{x=f(1,a);}else{while b{}}}",
            "f(){return (1+2)*-3<4;}"}) {
            for (int n = 1; n < text.length(); n++) {
                String part = text.substring(0, n);
                bad(sentence, 1, part + "^");
            }
            good(sentence, text);
        }
        good("an empty text", "", 0);
        good("blanks alone", " \n", 0);
        bad(sentence, 1, "f( \n ^");
        bad(sentence, 1, "f(){} f ^");
    }

    private static void faultOneComesFirst() {
        String sentence = "2 to 5 if there is no 1";
        bad(sentence, 1, "f(){}f(){}^!");
        bad(sentence, 1, "f(a,a){x=^;}");
        bad(sentence, 1, "f(){x=g();}^1");
        bad(sentence, 1, "f(a){x=f();^");
        bad(sentence, 1, "f(a,b,c,d,e){}g^");
        bad(sentence, 1, "f(){" + "x=1;".repeat(41) + "^");
        bad(sentence, 1, "a(){}b(){}c(){}d(){}e(){}f(){}g(){}h^");
    }

    private static void toldAlready() {
        good("2 names of two routines", "f(){}g(){}", 2);
        bad("2 a routine's NAME that is told already", 2, "f(){}^f(){}");
        bad("2 a routine's NAME that is told already", 2, "f(){}g(){}^f(){}g(){}");
        bad("2 with other parameters", 2, "f(a){}^f(a,b){}");
        good("2 a parameter's in one routine", "f(a,b,c,d){}");
        bad("2 a parameter's in one routine", 2, "f(a,^a){}");
        bad("2 a parameter's in one routine", 2, "f(a,b,c,^a){}");
        bad("2 a parameter's in one routine", 2, "f(a,b,^b,a){}");
        good("2 in two routines", "f(a,b){}g(a,b){}", 2);
        good("2 a parameter as a routine", "f(f,g){f=f(g,f);}g(g){g=f(g,g);}", 2);
        good("2 a name that is assigned again", "f(a){a=1;a=2;b=a;b=b;}");
    }

    private static void noRoutine() {
        good("3 a later routine", "f(){x=g();}g(){}", 2);
        good("3 itself", "f(){x=f();}");
        bad("3 a call of a NAME that is no routine", 3, "f(){x=^g();}");
        bad("3 a parameter is none", 3, "f(a){x=^a();}");
        bad("3 a name is none", 3, "f(){x=1;x=^x(1);}");
        bad("3 the first", 3, "f(){x=f();y=^g();z=h();}");
        bad("3 in a BLOCK", 3, "f(a){if a{while a{y=^g(a);}}}");
        bad("3 the NAME is another one", 3, "fa(){x=^f();}");
    }

    private static void anotherNumberOfParts() {
        good("4 none", "f(){x=f();}");
        bad("4 one more than none", 4, "f(){x=^f(1);}");
        good("4 four", "f(a,b,c,d){x=f(1,2,3,4);}");
        bad("4 three of four", 4, "f(a,b,c,d){x=^f(1,2,3);}");
        bad("4 five of four", 4, "f(a,b,c,d){x=^f(1,2,3,4,5);}");
        bad("4 none of one", 4, "f(a){x=^f();}");
        good("4 one of one", "f(a){x=f(1);}");
        bad("4 two of one", 4, "f(a){x=^f(1,2);}");
        bad("a row of E ends with an E", 1, "f(a){x=f(1,^);}");
        bad("a row of E begins with an E", 1, "f(a){x=f(^,1);}");
        bad("a row of E has an E between", 1, "f(a,b){x=f(1,^,1);}");
        bad("a row of NAMES ends with a NAME", 1, "f(a,^){}");
        bad("a row of NAMES begins with a NAME", 1, "f(^,a){}");
        bad("a row of NAMES has a NAME between", 1, "f(a,^,b){}");
        bad("4 of a later routine", 4, "f(a){x=^g(1);}g(){}");
        bad("4 the first", 4, "f(a){x=f(1);x= ^f(1,1);x=f();}");
    }

    private static void routinesAndParameters() {
        good("5 six routines", "a(){}b(){}c(){}d(){}e(){}f(){}", 6);
        bad("5 a 7th routine", 5, "a(){}b(){}c(){}d(){}e(){}f(){}^g(){}");
        bad("5 a 7th routine, not an 8th", 5, "a(){}b(){}c(){}d(){}e(){}f(){} ^g(){}h(){}");
        good("5 four parameters", "f(a,b,c,d){}");
        bad("5 a 5th parameter", 5, "f(a,b,c,d,^e){}");
        bad("5 a 5th parameter, not a 6th", 5, "f(a,b,c,d,^e,g){}");
        bad("5 of the second routine", 5, "f(a,b,c,d){}g(a,b,c,d, ^e){}");
    }

    private static void names() {
        String twelve = "f(a,b,c,d){e=1;g=1;h=1;i=1;j=1;k=1;l=1;m=1;";
        good("5 twelve NAMES", twelve + "}");
        bad("5 a 13th NAME assigned", 5, twelve + "^n=1;}");
        bad("5 a 13th NAME in E", 5, twelve + "a=1+^n;}");
        bad("5 a 13th NAME in out", 5, twelve + "out ^n;}");
        bad("5 a 13th NAME in return", 5, twelve + "return (^n);}");
        bad("5 a 13th NAME in if", 5, twelve + "if ^n{}}");
        bad("5 a 13th NAME in while", 5, twelve + "while ^n{}}");
        bad("5 a 13th NAME in a call", 5, twelve + "a=f(1,2,3,^n);}");
        bad("5 a 13th NAME, not a 14th", 5, twelve + "^n=o;}");
        good("5 a NAME that is called is none of them", twelve + "a=n();b=o();c=f(1,1,1,1);}n(){}o(){}", 3);
        bad("5 a NAME that is called and stands elsewhere", 5, twelve + "a=n();a=^n;}n(){}");
        good("5 twelve of each routine", twelve + "}g(n,o,p,q){a=b+c+d+e+f+g+h;}", 2);
        bad("5 a 13th of the second", 5, twelve + "}g(n,o,p,q){a=b+c+d+e+f+g+h+^i;}");
    }

    private static void statements() {
        String forty = "f(){" + "x=1;".repeat(20) + "}g(){" + "out 1;".repeat(20);
        good("5 forty STATEMENTS", forty + "}", 2);
        bad("5 a 41st STATEMENT", 5, forty + "^x=1;}");
        bad("5 a 41st STATEMENT", 5, forty + "^out 1;}");
        bad("5 a 41st STATEMENT", 5, forty + "^return 1;}");
        bad("5 a 41st STATEMENT", 5, forty + "^if 1{x=1;}}");
        bad("5 a 41st STATEMENT", 5, forty + "^while 1{x=1;}}");
        bad("5 a 41st STATEMENT of the text", 5, forty + "}h(){}i(){^x=1;}");
        bad("5 a 41st STATEMENT, not a 42nd", 5, forty + "^x=1;x=1;}");
        String one = "if 1{while 1{out 1;}}";
        String inner = "f(){" + one.repeat(6) + "}g(){" + one.repeat(7);
        good("5 those within others count", inner + "out 1;}", 2);
        bad("5 those within others count", 5, inner + "out 1;^out 1;}");
        bad("5 those within others count", 5, inner + "if 1{^out 1;}}");
    }

    /** A routine of this many ITEMS: LINE, one more for each sum, OUT, and RETURN 0. */
    private static String sized(String name, int items) {
        return name + "(){out 1" + "+1".repeat(items - 3) + ";}";
    }

    private static void items() {
        good("5 a code of 120 ITEMS", sized("f", 120));
        bad("5 a code of more than 120 ITEMS", 5, "^" + sized("f", 121));
        good("5 each of 120", sized("f", 120) + sized("g", 120) + sized("h", 120), 3);
        bad("5 the second of 121", 5, sized("f", 120) + " ^" + sized("g", 121));
        // 38 assignments of LINE, COPY, BIND, and RETURN 0 make 115.
        String many = "f(a){" + "a=1;".repeat(38);
        good("5 an if of 3, a return of 2", many + "if a{return 1;}}");
        bad("5 an if of 3, a call of 3", 5, "^" + many + "if a{a=f(a);}}");
        good("5 an if and else of 5", many + "if a{}else{}}");
        good("5 a while of 5", many + "while a{}}");
        bad("5 an if and else of 5, 1 more", 5, "^" + many + "if -a{}else{}}");
        bad("5 a while of 5, 1 more", 5, "^" + many + "while -a{}}");
        Check.due("Term 1: 120 ITEMS are made", Check.keeper(many + "while a{}}").routine(0, 0), 120);
    }

    private static void severalFaults() {
        String sentence = "the first by places, at one the least";
        bad(sentence, 2, "a(){}b(){}c(){}d(){}e(){}f(){}^a(){}");
        bad(sentence, 5, "a(){}b(){}c(){}d(){}e(){}f(){}^g(){}a(){}");
        bad(sentence, 2, "f(){}^" + sized("f", 121));
        bad(sentence, 5, "^" + sized("f", 121) + "f(){}");
        bad(sentence, 2, "f(a,b,c,d,^a){}");
        bad(sentence, 5, "f(a,b,c,d,^e,a){}");
        bad(sentence, 2, "f(a,^a,b,c,d,e){}");
        bad(sentence, 3, "f(){x=^g();x=f(1);}");
        bad(sentence, 4, "f(){x=^f(1);x=g();}");
        bad(sentence, 3, "f(){x=^g();}f(){}");
        bad(sentence, 2, "f(){}^f(){x=g();}");
        bad(sentence, 2, "f(a,^a){x=g();}");
        bad(sentence, 4, "f(a){x=^f();}g(a,a){}");
        bad(sentence, 5, "^f(a,a){" + "a=1;".repeat(39) + "a=g();}");
        bad(sentence, 3, "f(){x=^g();}" + sized("h", 121));
        bad(sentence, 5, "f(a,b,c,d){e=g+h+i+j+k+l+m+^n;x=y();}");
        bad(sentence, 3, "f(a,b,c,d){e=^y(g,h,i,j,k,l,m,n);}");
        bad(sentence, 5, "f(){" + "x=1;".repeat(20) + "}g(){" + "x=1;".repeat(20) + "^x=h();}");
    }

    private static void numbersGoAround() {
        String text = "f(a,b){out a+b;out a-b;out a*b;out a=b;out a<b;out -a;out a*b*b-a;}";
        int[] edges = {MAX, MIN, MIN + 1, MAX - 1, -1, 0, 1, 46340, 46341, -46341, 65536};
        for (int a : edges) {
            for (int b : edges) {
                LineKeeper x = Check.keeper(text);
                x.start(0, a, b, 0, 0);
                Check.due("Term 1: the run of numbers ends", x.go(2, 200), 0);
                List<Integer> got = new ArrayList<>();
                for (int i = 0; i < 7; i++) {
                    got.add(x.printed(i));
                }
                Check.due("Term 1: 32 bits that go around, " + a + " and " + b, got, List.of((int) ((long) a + b),
                    (int) ((long) a - b), (int) ((long) a * b), a == b ? 1 : 0, (long) a < (long) b ? 1 : 0,
                    (int) -(long) a, (int) ((int) ((long) a * b) * (long) b - a)));
                Check.due("Term 1: and beside", x.beside(0, a, b, 0, 0, 200), 7);
            }
        }
    }

    private static void foldedNumbersGoAround() {
        LineKeeper x = Check.keeper("f(){x=9999999*9999999;y=x*x;z=-2147483*1000-648;z=z-1;w=z<-z;out w;out x;}");
        x.pass(0, 0);
        x.start(0, 0, 0, 0, 0);
        x.go(0, 9);
        int lines = 1;
        while (lines < 7 && x.go(0, 99) == 1) {
            lines++;
        }
        int product = (int) (9999999L * 9999999L);
        Check.due("Term 1: FOLD goes around", List.of(lines, x.value(0, 0), x.value(0, 1), x.value(0, 2), x.value(0, 3)),
            List.of(7, product, product * product, MAX, 0));
        x = Check.keeper("f(a){x=a*a;y=a+a;out 1;out 2;}");
        x.pass(1, 0);
        x.start(0, MAX, 0, 0, 0);
        for (int i = 0; i < 3; i++) {
            x.go(0, 9);
        }
        Check.due("Term 1: a SUM goes around", List.of(x.value(0, 1), x.value(0, 2)), List.of(1, -2));
    }

    private static void namesAreNought() {
        LineKeeper x = Check.keeper("f(a,b){if a{c=f(a-1,0);out c;}out b;b=7;out d;d=9;return d;}");
        x.start(0, 1, 5, 8, 8);
        x.go(2, 500);
        List<Integer> got = new ArrayList<>();
        for (int i = 0; i < x.run(1); i++) {
            got.add(x.printed(i));
        }
        Check.due("Term 1: each call has its own names, nought but for the parameters", got, List.of(0, 0, 9, 5, 0));
    }

    private static void linesOfRings() {
        for (int times = 0; times < 4; times++) {
            LineKeeper x = Check.keeper("f(a){while a{a=a-1;}}");
            x.start(0, times, 0, 0, 0);
            int lines = 0;
            while (lines < 50 && x.go(0, 100) == 1) {
                lines++;
            }
            Check.due("Term 1: while begins its LINE each time that its E is asked", lines, 2 * times + 1);
            Check.due("Term 1: in the plain run, too", x.beside(0, times, 0, 0, 0, 500), 2 * times + 1);
        }
    }

    private static void returns() {
        LineKeeper x = Check.keeper("f(a){if a{return a;}out 5;}");
        x.start(0, 3, 0, 0, 0);
        Check.due("Term 1: return ends with E", List.of(x.go(2, 50), x.run(3), x.run(1)), List.of(0, 3, 0));
        x.start(0, 0, 0, 0, 0);
        Check.due("Term 1: behind the last STATEMENT 0", List.of(x.go(2, 50), x.run(3), x.run(1)), List.of(0, 0, 1));
        x = Check.keeper("f(){}");
        x.start(0, 3, 0, 0, 0);
        Check.due("Term 1: no STATEMENT", List.of(x.go(0, 1), x.run(3)), List.of(0, 0));
    }

    private static void ninthCall() {
        LineKeeper x = Check.keeper("f(a){out a;if a{b=f(a-1);}return a;}");
        Check.due("Term 1: eight calls in one another", List.of(x.beside(0, 8, 0, 0, 0, 20000), x.compared(2)),
            List.of(3 * 8 + 1 + 9 + 1, 1));
        Check.due("Term 1: a 9th FAILS the run", List.of(x.beside(0, 9, 0, 0, 0, 20000), x.compared(2)),
            List.of(3 * 9, 2));
        x = Check.keeper("f(a){a=f(a);}");
        x.start(0, 4, 0, 0, 0);
        Check.due("Term 1: before it is done", List.of(x.go(2, 20000), x.run(4), x.stack(0, 1), x.value(8, 0)),
            List.of(3, 9, 1, 4));
        x = Check.keeper("g(){return 1;}f(a){while a{b=g();a=a-1;}}");
        Check.due("Term 1: calls behind one another are not in one another",
            List.of(x.beside(1, 20, 0, 0, 0, 20000), x.compared(2)), List.of(81, 1));
    }
}
