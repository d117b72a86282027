/** Promise 1: no grammar, no text, an empty draft. */
public final class NewObjectTest {
    public static void main(String[] args) {
        Check check = new Check();
        noGrammarAndNoText(check);
        anEmptyDraft(check);
        objectsAreApart(check);
        check.end();
    }

    private static void noGrammarAndNoText(Check check) {
        WeightedTrees x = new WeightedTrees();
        for (int which = 0; which <= 2; which++) {
            int w = which;
            check.due("count(" + w + ")", -1, () -> x.count(w));
        }
        check.due("wrong()", 0, x::wrong);
        for (int s = -1; s <= 1; s++) {
            int n = s;
            check.due("name(" + n + ")", Check.INDEX, () -> x.name(n));
            check.due("weight(" + n + ")", Check.INDEX, () -> x.weight(n));
            check.due("empty(" + n + ")", Check.INDEX, () -> x.empty(n));
            check.due("unit(" + n + ", 0)", Check.INDEX, () -> x.unit(n, 0));
            check.due("inside(" + n + ", 0, 0)", Check.INDEX, () -> x.inside(n, 0, 0));
            check.due("cheapest(" + n + ", 0, 0)", Check.INDEX, () -> x.cheapest(n, 0, 0));
            check.due("build(" + n + ", 0, 0)", Check.INDEX, () -> x.build(n, 0, 0));
            check.due("node(" + n + ", 0)", Check.INDEX, () -> x.node(n, 0));
        }
        check.due("node(0, 3)", Check.INDEX, () -> x.node(0, 3));
    }

    private static void anEmptyDraft(Check check) {
        WeightedTrees x = new WeightedTrees();
        check.due("parse() without a grammar", Check.STATE, x::parse);
        check.due("load() of nothing", Check.ARGUMENT, x::load);
        check.due("the line behind the one empty line", 2, x::wrong);
        WeightedTrees y = new WeightedTrees();
        check.due("a rule is all that the draft has", 1, () -> Check.load(y, "S=a 1 1"));
    }

    private static void objectsAreApart(Check check) {
        WeightedTrees x = Check.parsed("S=a 1 1", "a");
        x.build(0, 0, 1);
        Check.write(x, "S=b 2 2");
        WeightedTrees y = new WeightedTrees();
        check.due("another object's count(0)", -1, () -> y.count(0));
        check.due("another object's count(2)", -1, () -> y.count(2));
        check.due("another object's node(0, 0)", Check.INDEX, () -> y.node(0, 0));
        check.due("another object's draft", Check.ARGUMENT, y::load);
        check.due("the first object's wrong()", 0, x::wrong);
        check.due("the first object's draft", 1, x::load);
        check.due("the first object's weight(0)", 2, () -> x.weight(0));
    }
}
