/** Promises 4 (load) and 5 (wrong). */
public final class LoadTest {
    private static final Check check = new Check();

    public static void main(String[] args) {
        rightLines();
        wrongLines();
        linesAreCounted();
        howManyRules();
        howManyNonterminals();
        loops();
        doesNotLoop();
        takesThePlaceOfTheOneBefore();
        wrongIsTheLatest();
        wrongGoesAheadOfLoops();
        nothingIsLeftOfTheOneThatLooped();
        leavesAnEmptyDraft();
        check.end();
    }

    private static void rightLines() {
        String[] lines = {
            "S= 1 1", "A=a 1 1", "Z=z 1 1", "S=abcz 1 1", "S=ABCD 1 1", "S=aBcD 1 1", "S=AZaz 1 1",
            "S=a 0 0", "S=a 000 000", "S=a 999 99", "S=a 999 099", "S=a 007 9", "S=a 1 09",
            "S=a 1/1 1", "S=a 0/1 1", "S=a 1/001 1", "S=a 999/999 1", "S=a 8/3 1", "S=a 8/15 1",
            "S=a 8/107 1", "S=a 8/9 1",
        };
        for (String line : lines) {
            check.loads(line, 1);
        }
    }

    private static void wrongLines() {
        String[] lines = {
            " ", "  ", " #", " S=a 1 1", "S", "=", "S=", "S=a", "S=a ", "S=a 1", "S=a 1 ", "S=a 1 1 ", "S=a 1 1 1",
            "S=a 1 1#", "S=a 1 1a", "s=a 1 1", "1=a 1 1", "@=a 1 1", "[=a 1 1", "=a 1 1", "SS=a 1 1", "S a 1 1",
            "S:a 1 1", "S==a 1 1", "S=a=b 1 1", "S =a 1 1", "S= a 1 1", "S=  1 1", "S=a  1 1", "S=a 1  1", "S=1 1",
            "S=abcde 1 1", "S=ABCDE 1 1", "S=aaaaA 1 1", "S=a1 1 1", "S=a# 1 1", "S=@ 1 1", "S=[ 1 1", "S=` 1 1",
            "S={ 1 1", "S=a. 1 1", "S=a 1000 1", "S=a 0001 1", "S=a x 1", "S=a -1 1", "S=a +1 1", "S=a 1. 1",
            "S=a : 1", "S=a 1: 1", "S=a / 1", "S=a /3 1", "S=a 1/ 1", "S=a 1/0 1", "S=a 1/2 1", "S=a 1/12 1",
            "S=a 1/998 1", "S=a 1/0003 1", "S=a 1/1001 1", "S=a 1//3 1", "S=a 1/3/3 1", "S=a 1 /3 1", "S=a 1/ 3 1",
            "S=a 1/-3 1", "S=a 1/a 1", "S=a 1/3", "S=a 1/3 ", "S=a 1 100", "S=a 1 199", "S=a 1 999", "S=a 1 0099",
            "S=a 1 0000", "S=a 1 -1", "S=a 1 x", "S=a 1 1/3", "S=a 1 /", "S=a 1 :", "S=a 1,1", "S=a,1 1", "S=a1 1",
        };
        for (String line : lines) {
            check.isWrong(line, 1);
            check.isWrong("S=a 1 1\n#\n\n" + line + "\nS=b 1 1", 4);
            check.isWrong("S=a 1 1\n" + line, 2);
        }
    }

    private static void linesAreCounted() {
        check.isWrong("", 2);
        check.isWrong("#", 2);
        check.isWrong("\n", 3);
        check.isWrong("#\n", 3);
        check.isWrong("\n#a", 3);
        check.isWrong("\n\n\n", 5);
        check.isWrong("# S=a 1 1\n#S=a 1 1\n##", 4);
        check.isWrong("x\ny", 1);
        check.isWrong("\n\n\nx\n\ny", 4);
        check.isWrong("S=a 1 1\n\nx", 3);
        check.isWrong("S=a 1 1\nx\n", 2);
        check.loads("\n\n#\nS=a 1 1\n\n", 1);
        check.loads("S=a 1 1\nS=b 1 1\n", 2);
        check.loads("#\nS=a 1 1\n#~ !\nS=b 1 1", 2);
        check.loads("S=a 1 1\nS=a 1 1", 2);
    }

    private static void howManyRules() {
        for (int rules = 1; rules <= 12; rules++) {
            check.loads("S=a 1 1\n".repeat(rules), rules);
        }
        check.isWrong("S=a 1 1\n".repeat(13), 13);
        check.isWrong("S=a 1 1\n".repeat(12) + "\n#\nS=a 1 1\n", 15);
        check.isWrong("S=a 1 1\n".repeat(12) + "x", 13);
        check.loads("S=a 1 1\n".repeat(12) + "\n#\n\n", 12);
    }

    private static void howManyNonterminals() {
        check.loads("A=BCDE 1 1\nF=aa 1 1", 2);
        check.loads("A=BCDE 1 1\nB=Fa 1 1\nF=ABaF 1 1", 3);
        check.isWrong("A=BCDE 1 1\nF=aa 1 1\nG=a 1 1", 3);
        check.isWrong("A=BCDE 1 1\nF=aa 1 1\nA=aG 1 1", 3);
        check.isWrong("A=BCDE 1 1\n\nF=aaaG 1 1\nA=a 1 1", 3);
        check.isWrong("A=BCDE 1 1\nF=GHaa 1 1\nA=a 1 1", 2);
        check.isWrong("A=a 1 1\nB=a 1 1\nC=a 1 1\nD=a 1 1\nE=a 1 1\nF=a 1 1\nG=a 1 1", 7);
        check.loads("A=a 1 1\nB=a 1 1\nC=a 1 1\nD=a 1 1\nE=a 1 1\nF=a 1 1\nA=FEDC 1 1", 7);
    }

    private static void loops() {
        check.loops("S=S 1 1");
        check.loops("S=S 0 1\nS=a 1 1");
        check.loops("S=a 1 1\nA=A 1 1");
        check.loops("S=SS 1 1\nS= 1 1");
        check.loops("S=SSSS 1 1\nS= 1 1");
        check.loops("S=SA 1 1\nA= 1 1");
        check.loops("S=AS 1 1\nA= 0 1");
        check.loops("A= 1 1\nS=AS 1 1");
        check.loops("A=S 1 1\nB=A 1 1\nS=B 1 1");
        check.loops("S=AASA 1 1\nA=BB 1 1\nB= 1 1");
        check.loops("S=A 1 1\nA=B 1 1\nB=S 1 1");
        check.loops("S=a 1 1\nB=C 1 1\nC=BD 1 1\nD= 1 1");
        check.loops("A=B 1 1\nB=C 1 1\nC=D 1 1\nD=E 1 1\nE=F 1 1\nF=A 1 1");
        check.loops("F=E 1 1\nE=D 1 1\nD=C 1 1\nC=B 1 1\nB=A 1 1\nA=F 1 1");
        check.loops("F=A 1 1\nA=C 1 1\nC=B 1 1\nB=E 1 1\nE=D 1 1\nD=A 1 1");
        check.loops("S=AS 1 1\nA=BBBB 1 1\nB=CC 1 1\nC=DD 1 1\nD=EE 1 1\nE= 1 1");
        check.loops("S=SE 1 1\nE=DD 1 1\nD=CC 1 1\nC=BB 1 1\nB=A 1 1\nA= 1 1");
    }

    private static void doesNotLoop() {
        check.loads("S=SS 1 1\nS=a 1 1", 2);
        check.loads("S=SA 1 1\nA=a 1 1", 2);
        check.loads("S=Sa 1 1\nS= 1 1", 2);
        check.loads("S=aS 1 1\nS= 1 1", 2);
        check.loads("S=aSA 1 1\nA= 1 1\nS= 1 1", 3);
        check.loads("S=AA 1 1\nA=S 1 1", 2);
        check.loads("S=SAB 1 1\nA= 1 1\nB=b 1 1", 3);
        check.loads("S=AB 1 1\nA=aB 1 1\nB=A 1 1", 3);
        check.loads("A=B 1 1\nB=C 1 1\nC=D 1 1\nD=E 1 1\nE=F 1 1\nF=aA 1 1", 6);
        check.loads("S=AAAA 1 1\nA=BBBB 1 1\nB= 1 1\nS=A 1 1\nS=B 1 1", 5);
    }

    private static void takesThePlaceOfTheOneBefore() {
        WeightedTrees x = Check.parsed("S=ABC 1 1\nT=E 2 2\nA=a 3 3\nB= 1 1\nC= 5 1", "a");
        x.build(0, 0, 1);
        check.due("load of a smaller one", 2, () -> Check.load(x, "X=b 9 1\nX= 4 1"));
        check.due("count(0)", 2, () -> x.count(0));
        check.due("count(1)", 1, () -> x.count(1));
        check.due("count(2)", -1, () -> x.count(2));
        check.due("name(0)", (int) 'X', () -> x.name(0));
        check.due("name(1)", Check.INDEX, () -> x.name(1));
        check.due("weight(0)", 9, () -> x.weight(0));
        check.due("weight(2)", Check.INDEX, () -> x.weight(2));
        check.due("empty(0)", 4, () -> x.empty(0));
        check.due("unit(0, 0)", 1, () -> x.unit(0, 0));
        check.due("inside(0, 0, 0)", Check.ARGUMENT, () -> x.inside(0, 0, 0));
        check.due("cheapest(0, 0, 0)", Check.ARGUMENT, () -> x.cheapest(0, 0, 0));
        check.due("build(0, 0, 0)", Check.ARGUMENT, () -> x.build(0, 0, 0));
        check.due("node(0, 0)", Check.INDEX, () -> x.node(0, 0));
        check.due("load of a third one", 1, () -> Check.load(x, "Y=Z 1 1"));
        check.due("empty(0) of the third", 0, () -> x.empty(0));
        check.due("unit(0, 1) of the third", 1, () -> x.unit(0, 1));
        check.due("parse by the third", false, () -> Check.parse(x, "b"));
    }

    private static void wrongIsTheLatest() {
        WeightedTrees x = new WeightedTrees();
        check.due("line 3", Check.ARGUMENT, () -> Check.load(x, "\n\nx"));
        check.due("wrong()", 3, x::wrong);
        check.due("wrong() again", 3, x::wrong);
        check.due("a right one", 1, () -> Check.load(x, "S=a 1 1"));
        check.due("wrong() behind it", 3, x::wrong);
        check.due("one that loops", Check.STATE, () -> Check.load(x, "S=S 1 1"));
        check.due("wrong() behind it", 3, x::wrong);
        check.due("a wrong text", Check.ARGUMENT, () -> Check.parse(x, "A"));
        check.due("wrong() behind it", 3, x::wrong);
        check.due("line 1", Check.ARGUMENT, () -> Check.load(x, "x"));
        check.due("wrong()", 1, x::wrong);
    }

    private static void wrongGoesAheadOfLoops() {
        check.isWrong("S=S 1 1\nx", 2);
    }

    private static void nothingIsLeftOfTheOneThatLooped() {
        WeightedTrees x = new WeightedTrees();
        check.due("one that loops", Check.STATE, () -> Check.load(x, "S=A 1 1\nA=B 1 1\nB=S 1 1"));
        check.due("one that does not", 3, () -> Check.load(x, "S=A 1 1\nA=B 1 1\nB=a 1 1"));
        check.due("the other way round", 3, () -> Check.load(x, "B=A 1 1\nA=S 1 1\nS=a 1 1"));
        check.due("with other bodies", 3, () -> Check.load(x, "S=a 1 1\nA=S 1 1\nB=A 1 1"));
        check.due("one that loops again", Check.STATE, () -> Check.load(x, "S=S 1 1\nA=S 1 1"));
        check.due("none that does", 1, () -> Check.load(x, "S=a 1 1"));
        check.due("none that does either", 1, () -> Check.load(x, "S=aS 1 1"));
    }

    private static void leavesAnEmptyDraft() {
        WeightedTrees x = new WeightedTrees();
        for (String grammar : new String[] {"S=a 1 1", "S=S 1 1", "S=a"}) {
            check.due("load of " + grammar, grammar.equals("S=a 1 1") ? 1
                    : grammar.equals("S=a") ? Check.ARGUMENT : Check.STATE, () -> Check.load(x, grammar));
            check.due("load behind " + grammar, Check.ARGUMENT, x::load);
            check.due("the draft was empty", 2, x::wrong);
        }
    }
}
