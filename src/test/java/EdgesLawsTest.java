import java.util.ArrayList;
import java.util.List;

/** Boundary cases of the LAWS of section 3 and of promise 14, sentence by sentence. */
public final class EdgesLawsTest {
    private static final Edges EDGES = new Edges("EdgesLawsTest");
    private static final String LEAST = "(-2*1000*1000*1000-147*1000*1000-483*1000-648)";

    public static void main(String[] args) {
        law();
        withoutOne();
        lines();
        levels();
        operands();
        openAtOnce();
        namesOfJudgments();
        namesOfCloses();
        namesOfOthers();
        numbers();
        truths();
        whichLineCounts();
        firstBytes();
        EDGES.end();
    }

    /** Texts and their FAULTS ("text fault"; without a number there is none). */
    private static void faults(String sentence, String... texts) {
        List<String> told = new ArrayList<>();
        for (String text : texts) {
            int mark = text.lastIndexOf(' ');
            told.add("law 0 " + (mark < 0 ? text + " = 1" : text.substring(0, mark) + " = " + (-100 - Integer.parseInt(text.substring(mark + 1)))));
            told.add("count 3 = 0");
        }
        EDGES.edge(sentence, told.toArray(new String[0]));
    }

    /** Texts that give not 0 (behind "0:" those that give 0), by HEEDS of LAND 1 for a judgment of LAND 0 by default, won, 40 DAYS old. */
    private static void values(String sentence, String... texts) {
        List<String> told = new ArrayList<>();
        told.add("claim 1 0 0");
        told.add("suit 0>1:0=dw@60/0");
        for (String text : texts) {
            boolean zero = text.startsWith("0:");
            told.add("law 31 " + (zero ? text.substring(2) : text) + " = 1");
            told.add("counts 0 100 1 = " + (zero ? 0 : 1));
        }
        EDGES.edge(sentence, told.toArray(new String[0]));
    }

    private static void law() {
        EDGES.edge("Promise 14: THE TAPE becomes the LAW: 1; THE TAPE is empty then",
            "tape 0", "law 20 = 1", "count 3 = 0", "shoe 0 1 1 0", "bound 1 0 0 0 = NOT", "law 20 = -100", "bound 1 0 0 0 = NOT");
        EDGES.edge("Promise 14: -100 less its FAULT; THE TAPE is empty then",
            "law 20 1+ = -102", "count 3 = 0", "law 20 = -100", "law 20 x = -100", "count 3 = 0");
        EDGES.edge("Promise 14: by a FAULT no LAW changes",
            "shoe 0 1 1 0", "law 20 0;x = -102", "bound 1 0 0 0 = 1", "law 20 0 = 1", "law 20 1;x = -102", "bound 1 0 0 0 = NOT");
        EDGES.edge("Promise 14: of a USE (0 .. 3) and LAND",
            "law 0 1 = 1", "law 7 1 = 1", "law 10 1 = 1", "law 17 1 = 1", "law 20 1 = 1", "law 27 1 = 1", "law 30 1 = 1", "law 37 1 = 1");
        EDGES.edge("Promise 14: BAD (it stays)",
            "tape 1", "law 8 = BAD", "law 9 = BAD", "law 18 = BAD", "law 29 = BAD", "law 38 = BAD", "law 39 = BAD", "law 40 = BAD",
            "law 47 = BAD", "law -1 = BAD", "law -10 = BAD", "law MIN = BAD", "law MAX = BAD", "count 3 = 1", "law 37 = 1", "count 3 = 0");
        EDGES.edge("Promise 14: BAD (it stays), ahead of a FAULT", "tape x", "law 8 = BAD", "law 40 = BAD", "count 3 = 1", "law 7 = -100");
        EDGES.edge("3. LAWS for LANDS: of a LAND (0 .. 7)",
            "shoe 0 1 1 0", "law 27 0", "law 20 0", "bound 1 0 0 0 = NOT", "bound 1 0 7 0 = NOT", "bound 1 0 1 0 = 1", "bound 1 0 6 0 = 1");
        EDGES.edge("3. the one told last of a USE and LAND counts",
            "shoe 0 1 1 0", "law 20 0", "bound 1 0 0 0 = NOT", "law 20 1", "bound 1 0 0 0 = 1", "law 21 0", "law 30 0", "law 0 0",
            "law 10 0", "bound 1 0 0 0 = 1", "law 20 0", "bound 1 0 0 0 = NOT");
    }

    private static void withoutOne() {
        EDGES.edge("3. Without one: CLOSES a&k=1|a&k=6|a&k=3: by KINDS",
            "claim 1 3 0", "suit 0>1:0=mw@10/0", "suit 0>1:0=fw@20/0", "suit 0>1:0=aw@30/0", "suit 0>1:0=dw@40/0", "suit 0>1:0=p1w@50/0",
            "suit 0>1:0=mw@60/0", "opens 0 100 = 1", "undone 0 20", "undone 5 60", "met 0 -1 100 = 0", "met 0 -1 200 = NOT",
            "met 0 -1 290 = NOT", "met 0 -1 300 = 2", "undone 2 40", "met 0 -1 400 = NOT", "met 0 -1 490 = NOT", "met 0 -1 500 = 4",
            "undone 4 60", "met 0 -1 600 = NOT");
        EDGES.edge("3. Without one: CLOSES a&k=1|a&k=6|a&k=3: by FACTS alone",
            "claim 1 3 0", "claim 1 3 1", "claim 1 4 0", "claim 100 3 2", "suit 0>1:0=ml@10/0", "met 0 -1 100 = 0", "met 1 -1 100 = 0",
            "met 2 -1 100 = NOT", "met 3 -1 100 = 0");
        EDGES.edge("3. Without one: SETTLES f&n",
            "claim 1 0 0", "suit 0>1:0;0+fn;1+f;2+n;3+=fl@10/0", "point 0 1 100 0 = 1", "point 1 1 100 0 = 0", "point 2 1 100 0 = 0",
            "point 3 1 100 0 = 0");
        EDGES.edge("3. Without one: BINDS n<3",
            "shoe 0 1 5 0", "shoe 1 2 4 0", "shoe 2 3 3 0", "bound 1 0 7 0 = 1", "bound 2 0 7 0 = 2", "bound 3 0 7 0 = NOT");
        EDGES.edge("3. Without one: HEEDS 1",
            "claim 1 0 0", "suit 0>1:0=fl@10/3", "counts 0 10 0 = 1", "counts 0 9999 7 = 1", "ring 1 = 12");
    }

    private static void lines() {
        StringBuilder sixty = new StringBuilder("1");
        for (int i = 0; i < 59; i++) {
            sixty.append(";1");
        }
        faults("3. LINES, one or more", "1", "1;2", "1;2;3", sixty.toString());
        EDGES.edge("3. LINES, one or more: none", "law 0 = -100");
        EDGES.edge("3. LINES, one or more: as many as THE TAPE takes, and one byte more",
            "tape " + sixty, "count 3 = 119", "feed 1 59 = 120", "law 0 = -220", "tape " + sixty, "feed 2 0x313b = FULL", "feed 1 49 = 120",
            "law 0 = 1");
        faults("3. parted by ;", ";1 0", "1; 2", "1;;1 2", "; 0", "1,2 1", "(1;2) 2");
        faults("3. LINE: E, or E ? E", "1?2", "1?2;3?4", "?1 0", "1? 2", "1?2?3 3", "1?;2 2", "(1?2) 2", "1?2;?3 4");
    }

    private static void levels() {
        faults("3. E = A { | A }", "1|2", "1|2|3", "|1 0", "1| 2", "1||2 2");
        faults("3. A = B { & B }", "1&2", "1&2&3", "&1 0", "1& 2", "1&&2 2", "1|&2 2");
        faults("3. B = S, or S < S, S = S, S > S: once", "1<2", "1=2", "1>2", "1<2<3 3", "1<2=3 3", "1=2=3 3", "1>2>3 3", "1=2>3 3",
            "<1 0", "1< 2", "1<=2 2", "1==2 2", "1<2&3<4|5>6", "(1<2)<(2<3)", "1<(2<3<4) 6", "1<2+3<4 5");
        faults("3. S = P { + P, - P }", "1+2", "1-2", "1+2-3+4", "+1 0", "1+ 2", "1++2 2", "1- 2", "1--2", "1-+2 2");
        faults("3. P = O { * O, / O, % O }", "1*2", "1/2", "1%2", "1*2/3%4", "*1 0", "/1 0", "%1 0", "1* 2", "1/ 2", "1% 2", "1**2 2",
            "1+*2 2", "1*-2", "1/!2");
        values("3. E, A, B, S, P: what is tighter comes first",
            "1|0&0", "0:(1|0)&0", "0=1&0|1", "0:1&2=2&0", "1+1=2", "0:1+(1=2)-1", "2+3*4=14", "(2+3)*4=20", "7-2*3=1", "1<2+3", "!0+1=2",
            "-1+3=2", "-2*3=-6");
        values("3. S, P: from the left on", "9-4-3=2", "16/4/2=2", "7*3%4=1", "7%4*3=9", "10-3+2=9", "100/7*7=98");
    }

    private static void operands() {
        faults("3. O = a number (1 to 4 digits)", "0", "12", "123", "1234", "0000", "0001", "12345 4", "00000 4", "1+99999 6",
            "9999+9999");
        values("3. O = a number (1 to 4 digits): its value", "9999=9998+1", "0:0000", "0012=12", "9=10-1");
        faults("3. O = ! O, - O, ( E )", "!1", "-1", "(1)", "! 1", "- 1", "( 1", "() 1", "(1 2", "1) 1", "(1)) 3", "(1|2 4", "((1) 4",
            "!)1 1", "1!2 1", "1(2) 1", "(1)2 3", "(1)(2) 3", "k(1) 1", "!k", "-k", "(k)");
        EDGES.edge("3. No blanks",
            "law 0   = -100", "law 0  1 = -100", "law 0 1  = -101", "law 0 1 +1 = -101", "law 0 1+ 1 = -102", "law 0 1 2 = -101",
            "law 0 ( 1) = -101", "law 0 1; 2 = -102");
        faults("3. NAMES", "k", "w", "d", "l", "h", "a", "s", "c", "r", "f", "n", "K 0", "x 0", "b 0", "kw 1", "k1 1", "1k 1", "k;w;d");
        faults("3. FAULT as in the TEXTS of SUITS: the first byte with which no text goes on", "x+y 0", "1+x+y 2", "1<2<x 3", "(1+2x 4",
            "1;2;x 4", "\u00ff 0", "1\u00ff 1", "\0 0");
        faults("3. FAULT as in the TEXTS of SUITS: the length, if it ends too early", "1+ 2", "(1+2 4", "1;2; 4", "1?2;3? 6", "!!! 3",
            "((( 3", "1<2&3= 6");
    }

    private static void openAtOnce() {
        faults("3. At most 6 of ( ! - ahead of an O are open at once: (", "((((((1))))))", "(((((((1))))))) 6", "((((((1)))))+1)");
        faults("3. At most 6 of ( ! - ahead of an O are open at once: !", "!!!!!!1", "!!!!!!!1 6", "!!!!!!! 6");
        faults("3. At most 6 of ( ! - ahead of an O are open at once: -", "------1", "-------1 6", "1-------1", "1--------1 8", "1-------1+1",
            "1--------1+1 8");
        faults("3. At most 6 of ( ! - ahead of an O are open at once: of all sorts", "(-!(-!1))", "(-!(-!(1))) 6", "-!(-!((1))) 6",
            "((((((!1)))))) 6", "((((((-1)))))) 6", "!!!!!!(1) 6", "------(1) 6", "(((((!-1))))) 6", "!!!!!(1)");
        faults("3. .. are open at once: what has ended is open no more", "!!!!!!1+!!!!!!1", "((((((1))))))*((((((1))))))",
            "((((((1)+(2))))))", "(!!!!!1&!!!!!1)", "(!!!!!1&!!!!!!1) 13", "!(!(!1)+!!!!1)", "!!!!!!1?!!!!!!1;!!!!!!1", "1?!!!!!!!1 8", "1;!!!!!!!1 8", "(((((1)))))+(((((((1 18");
        values("3. At most 6 of ( ! - are open at once, each behind all that may wait for it",
            "0|1&0<1+1*(0|1&0<1+1*(0|1&0<1+1*(0|1&0<1+1*(0|1&0<1+1*(0|1&0<1+1*(0|1&0<1+1*1))))))",
            "0:1&5=1+1*(0|1&0<1+1*(0|1&0<1+1*(0|1&0<1+1*(0|1&0<1+1*(0|1&0<1+1*(0|1&0<1+1*1))))))");
        faults("3. ( ! - ahead of an O: a - between is none of them", "((((((1-1))))))", "((((((1-1-1))))))", "((((((1--1)))))) 8");
    }

    private static void namesOfJudgments() {
        EDGES.edge("3. NAMES: k KIND on that DAY",
            "claim 1 0 0", "suit 0>1:0=mw@1/0", "suit 0>1:0=fw@1/0", "suit 0>1:0=aw@1/0", "suit 0>1:0=dw@1/0", "suit 0>1:0=p1w@1/0",
            "suit 0>1:0=mw@1/0", "undone 5 9", "law 31 k=1", "counts 0 9 1 = 1", "counts 5 8 1 = 1", "counts 5 9 1 = 0", "law 31 k=2",
            "counts 1 9 1 = 1", "law 31 k=3", "counts 2 9 1 = 1", "law 31 k=4", "counts 3 9 1 = 1", "law 31 k=6", "counts 4 9 1 = 1",
            "law 31 k=5", "counts 5 9 1 = 1", "counts 5 8 1 = 0", "counts 0 9 1 = 0");
        EDGES.edge("3. NAMES: w won (1, 0)",
            "claim 1 0 0", "suit 0>1:0=mw@1/0", "suit 0>1:0=ml@1/0", "law 31 w=1", "counts 0 9 1 = 1", "counts 1 9 1 = 0", "law 31 w=0",
            "counts 0 9 1 = 0", "counts 1 9 1 = 1", "won 1 1", "counts 1 9 1 = 0");
        EDGES.edge("3. NAMES: d DAYS since the judgment",
            "claim 1 0 0", "suit 0>1:0=mw@0/0", "law 31 d=0", "counts 0 0 1 = 1", "counts 0 1 1 = 0", "law 31 d=9999", "counts 0 9999 1 = 1",
            "counts 0 9998 1 = 0", "suit 0>1:0=mw@9998/0", "law 31 d=1", "counts 1 9999 1 = 1", "counts 1 9998 1 = 0");
        EDGES.edge("3. NAMES: l the LAND of the judgment, h the LAND where it is asked",
            "claim 1 0 0", "suit 0>1:0=mw@1/7", "law 30 l=7&h=0", "counts 0 1 0 = 1", "law 36 l=6|h=7", "counts 0 1 6 = 0", "law 36 l=7&h=6",
            "counts 0 1 6 = 1");
    }

    private static void namesOfCloses() {
        EDGES.edge("3. of CLOSES: a whether FACTS are alike, s whether PLEAS are",
            "claim 1 3 1", "claim 1 3 2", "claim 1 4 1", "claim 1 4 2", "suit 0>1:0=mw@1/0", "law 0 a=1&s=1", "left 10 -1 = 3", "met 0 -1 10 = 0",
            "law 0 a=1&s=0", "left 10 -1 = 3", "met 1 -1 10 = 0", "law 0 a=0&s=1", "left 10 -1 = 3", "met 2 -1 10 = 0", "law 0 a=0&s=0",
            "left 10 -1 = 3", "met 3 -1 10 = 0");
        EDGES.edge("3. of CLOSES: c whether it is the very CLAIM",
            "2* claim 1 3 1", "suit 0>1:1=mw@1/0", "law 0 c=1", "met 1 -1 10 = 0", "met 0 -1 10 = NOT", "law 0 c=0", "met 1 -1 10 = NOT",
            "met 0 -1 10 = 0");
        EDGES.edge("3. of CLOSES: c (and of a PART among the first ones)",
            "4* claim 1 3 1", "suit 0>1:3,0,1=p2w@1/0", "law 0 c", "met 3 -1 10 = 0", "met 0 -1 10 = 0", "met 1 -1 10 = NOT",
            "met 2 -1 10 = NOT", "suit 0>1:3,0,1=mw@1/0", "met 1 -1 10 = 1", "met 2 -1 10 = NOT");
        EDGES.edge("3. of CLOSES: c of a PART of all its CLAIMS",
            "2* claim 1 3 1", "suit 0>1:1,0=p2w@1/0", "law 0 c", "met 0 -1 10 = 0", "met 1 -1 10 = 0");
        EDGES.edge("3. of CLOSES: r whether sides are the other way round",
            "claim 1 0 0", "claim 100 0 0", "suit 0>1:0=mw@1/0", "law 0 r=0", "met 0 -1 10 = 0", "met 1 -1 10 = NOT", "law 0 r=1",
            "met 0 -1 10 = NOT", "met 1 -1 10 = 0");
        EDGES.edge("3. A NAME that is not of the USE is 0: of CLOSES",
            "claim 1 0 0", "suit 0>1:0;1+fn=mw@1/1", "law 0 f|n", "met 0 -1 10 = NOT", "law 0 f=0&n=0&k=1&w=1&d=8&l=1&h=0&a=1&s=1&c=1&r=0",
            "met 0 -1 90 = 0");
    }

    private static void namesOfOthers() {
        EDGES.edge("3. of SETTLES: f fought, n needed",
            "claim 1 0 0", "suit 0>1:0;0+fn;1+f;2+n;3+=mw@1/0", "law 10 f=1&n=1", "point 0 1 10 0 = 1", "point 1 1 10 0 = 0",
            "law 10 f=1&n=0", "point 1 1 10 0 = 1", "point 0 1 10 0 = 0", "law 10 f=0&n=1", "point 2 1 10 0 = 1", "point 3 1 10 0 = 0",
            "law 10 f=0&n=0", "point 3 1 10 0 = 1", "point 2 1 10 0 = 0");
        EDGES.edge("3. of SETTLES: k, w, d, l, h of a judgment of the LAND where it is asked, too",
            "claim 1 0 0", "suit 0>1:0;0+fn=aw@1/7", "law 17 k=3&w=1&d=8&l=7&h=7&f=1&n=1", "point 0 1 97 0 = 1", "point 0 1 87 0 = 0",
            "won 0 0", "point 0 1 97 0 = 0", "undo", "point 0 1 97 0 = 1", "undone 0 9", "point 0 1 97 0 = 0");
        EDGES.edge("3. A NAME that is not of the USE is 0: of SETTLES",
            "claim 1 0 0", "suit 0>1:0;0+fn=mw@1/1", "law 10 a|s|c|r", "point 0 1 90 0 = 0", "point 0 100 90 0 = 0",
            "law 10 a+s+c+r=0&k=1&w=1&d=8&l=1&h=0&f=1&n=1", "point 0 1 90 0 = 1");
        EDGES.edge("3. of BINDS s the SORT, n steps, d DAYS since that SHOE began, and h alone",
            "shoe 0 1 4 10", "shoe 1 2 5 20", "law 26 s=4&n=1&d=15&h=6|s=5&n=2&d=5&h=6", "bound 1 25 6 0 = 1", "bound 2 25 6 0 = 2",
            "bound 1 24 6 0 = NOT", "bound 2 24 6 0 = NOT", "law 26 d=0", "bound 1 10 6 0 = 1", "bound 1 11 6 0 = NOT");
        EDGES.edge("3. A NAME that is not of the USE is 0: of BINDS",
            "shoe 0 1 4 10", "claim 1 0 0", "suit 0>1:0;0+fn=mw@1/1", "counts 0 9 0 = 1", "law 20 k|w|l|a|c|r|f", "bound 1 99 0 0 = NOT",
            "law 20 k+w+l+a+c+r+f=0", "bound 1 99 0 0 = 1");
        EDGES.edge("3. A NAME that is not of the USE is 0: of BINDS, ahead of a judgment of it",
            "shoe 2 0 4 10", "shoe 3 1 4 10", "claim 1 0 0", "suit 0>1:0;0+fn=mw@1/1", "law 20 !(k|w|l|a|c|r|f)", "met 0 203 990 = 0",
            "point 0 203 990 0 = 1", "law 20 k|w|l|a|c|r|f", "met 0 203 990 = NOT", "point 0 203 990 0 = 0");
        EDGES.edge("3. A NAME that is not of the USE is 0: of HEEDS",
            "claim 1 0 0", "suit 0>1:0;0+fn=mw@1/1", "law 30 a|s|c|r|f|n", "counts 0 9 0 = 0", "met 0 -1 90 = NOT", "point 0 1 90 0 = 0",
            "law 30 a+s+c+r+f+n=0&k=1&w=1&d=8&l=1&h=0", "counts 0 9 0 = 1", "met 0 -1 90 = 0", "point 0 1 90 0 = 1");
    }

    private static void numbers() {
        values("3. Ints that wrap: *", "9999*9999*9999<0-1000", "0:256*256*256*256", "256*256*256*128<0", "256*256*256*128=" + LEAST);
        values("3. Ints that wrap: +, -", "256*256*256*127+256*256*256<0", LEAST + "<0", LEAST + "-1>0", LEAST + "-1-" + LEAST + "=0-1");
        values("3. Ints that wrap: - ahead of an O", "-" + LEAST + "=" + LEAST, "-(" + LEAST + "+1)>0");
        values("3. Ints that wrap: /, % of the least", LEAST + "/-1=" + LEAST, LEAST + "%-1=0");
        values("3. / and % toward 0", "7/2=3", "-7/2=-3", "7/-2=-3", "-7/-2=3", "7%2=1", "-7%2=-1", "7%-2=1", "-7%-2=-1", "0:1/2", "0:-1/2");
        values("3. by 0 they give 0", "0:5/0", "0:5%0", "0:0/0", "0:0%0", "5/0=0", "5%(1-1)=0", "0:-5/0", "1+5/0=1", "1+5%0=1");
        values("3. all is worked out", "1|5/0", "1|5%0", "0:0&5/0", "0?5/0;1");
        values("3. what is not 0, below it, too", "-1", "0-1", "!!-1", "0-1?1", "-1|0", "-1&1");
    }

    private static void truths() {
        values("3. | gives 1, 0", "(5|0)=1", "(0|5)=1", "(5|7)=1", "(0|0)=0", "(4|3)=1", "(0|0|2)=1", "0:0|0");
        values("3. & gives 1, 0", "(5&7)=1", "(5&0)=0", "(0&5)=0", "(0&0)=0", "(2&1)=1", "(4&3&2)=1", "0:4&3&0");
        values("3. < gives 1, 0", "(1<2)=1", "(2<2)=0", "(3<2)=0", "(-1<0)=1", "(0<-1)=0");
        values("3. = gives 1, 0", "(2=2)=1", "(2=3)=0", "(3=2)=0", "(0=0)=1", "(0-1=-1)=1");
        values("3. > gives 1, 0", "(3>2)=1", "(2>2)=0", "(1>2)=0", "(0>-1)=1", "(-1>0)=0");
        values("3. ! gives 1, 0", "!0=1", "!1=0", "!5=0", "!-1=0", "!!5=1", "!!0=0");
    }

    private static void whichLineCounts() {
        values("3. The first LINE without a first E counts", "1;0", "0:0;1", "0:0?1;0;1", "0?0;1;0", "5");
        values("3. The first LINE whose first E is not 0 counts", "1?1;0", "0:1?0;1", "0?0;1?1;0", "0:0?1;1?0;1", "0:2?0;1", "0-1?1;0",
            "0:0-1?0;1", "0?1;0?1;1?1");
        values("3. none: 0", "0:0?1", "0:0?1;0?1", "0:0?1;0?1;0?1", "0:k=9?1;w=9?1");
        StringBuilder thirty = new StringBuilder("!0+1");
        for (int i = 0; i < 29; i++) {
            thirty.insert(0, "0?1;");
        }
        values("3. The first LINE .. counts: the last one of 120 bytes", thirty.toString());
        values("3. LINE E ? E: each is a whole E", "0|1?2", "0:1&0?2", "1?0|2", "1?0=0|0", "0:1?0|0", "0:1?1&0|0");
        values("3. LINE E ? E: what counts is the second", "2?3=3", "0:2?0", "1?w+d-40", "0:1?w+d-41", "d?k=4", "0:l?1");
    }

    /** Every byte that a LAW can't begin with is a FAULT at place 0. */
    private static void firstBytes() {
        for (int one = 0; one < 256; one++) {
            int fault = "0123456789kwdlhascrfn".indexOf(one) >= 0 ? 1 : "!-(".indexOf(one) >= 0 ? -101 : -100;
            EDGES.edge("3. O = a number, a NAME, ! O, - O, ( E ): byte " + one, "feed 1 " + one + " = 1", "law 0 = " + fault, "count 3 = 0");
        }
    }
}
