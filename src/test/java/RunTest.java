/** Promises 19 to 24: what runs, what it tells, what is kept of the latest run that ran. */
public final class RunTest {
    private static final Due DUE = new Due("RunTest");
    private static final int INT = 0;
    private static final int PAIR = 7;
    private static final int LAZY = 1;
    private static final int EFFECT = 2;
    private static final int GHOST = 4;

    private final MixinUnits x = new MixinUnits();

    private RunTest() {
        x.type(0, 0, 0);
        for (int name = 0; name < 6; name++) {
            x.type(2, name, 0);
        }
        x.type(1, INT, INT);
    }

    private static int named(int name) {
        return 1 + name;
    }

    private int number(int n) {
        return x.leaf(false, n);
    }

    private int ref(int name) {
        return x.leaf(true, name);
    }

    private int add(int a, int b) {
        return x.expression(0, a, b, 0);
    }

    private int pair(int a, int b) {
        return x.expression(1, a, b, 0);
    }

    private int when(int a, int b, int c) {
        return x.expression(4, a, b, c);
    }

    private int unit() {
        int u = x.unit();
        DUE.is("unit and node", x.unitNode(u, -1), u);
        return u;
    }

    private void hole(int u, int name, int type) {
        x.setValue(u, name, type, -1, 0);
    }

    private void value(int u, int name, int expression) {
        x.setValue(u, name, INT, expression, 0);
    }

    private void value(int u, int name, int expression, int flags) {
        x.setValue(u, name, INT, expression, flags);
    }

    private void runs(String what, int node, int due) {
        DUE.is(what, x.run(node), due);
    }

    private void results(String what, int name, int... due) {
        for (int i = 0; i < due.length; i++) {
            DUE.is(what + " at " + i, x.result(name, i), due[i]);
        }
        DUE.index(what + " behind the last one", () -> x.result(name, due.length));
        DUE.index(what + " at -1", () -> x.result(name, -1));
    }

    private void without(String what, int name) {
        DUE.state(what, () -> x.result(name, 0));
    }

    private void logs(String what, int... due) {
        DUE.is(what + ", entries", x.logged(), due.length);
        for (int i = 0; i < due.length; i++) {
            DUE.is(what + ", entry " + i, x.log(i), due[i]);
        }
        DUE.index(what + ", behind the last one", () -> x.log(due.length));
        DUE.index(what + ", at -1", () -> x.log(-1));
    }

    private void cells(String what, int total, int dropped) {
        DUE.is(what + ", total", x.total(), total);
        DUE.is(what + ", dropped", x.dropped(), dropped);
    }

    public static void main(String[] args) {
        new RunTest().wrongCalls();
        new RunTest().numbers();
        new RunTest().halves();
        new RunTest().order();
        new RunTest().lazyOnes();
        new RunTest().rings();
        new RunTest().dynamicRings();
        new RunTest().holes();
        new RunTest().twoHoles();
        new RunTest().hiddenHoles();
        new RunTest().applied();
        new RunTest().reached();
        new RunTest().ghosts();
        new RunTest().ghostsOfSeals();
        new RunTest().ghostsOfChoices();
        new RunTest().choices();
        new RunTest().choicesThatFail();
        new RunTest().instances();
        new RunTest().unlikeTypes();
        new RunTest().unlikeHalves();
        new RunTest().unlikeChoice();
        new RunTest().manyNumbers();
        new RunTest().moreNumbersThanALong();
        new RunTest().manyValues();
        new RunTest().longChain();
        DUE.end();
    }

    private void wrongCalls() {
        int u = unit();
        DUE.index("run", () -> x.run(1));
        DUE.index("run of -1", () -> x.run(-1));
        DUE.argument("result 10 comes ahead of nothing ran", () -> x.result(10, 0));
        DUE.argument("result -1", () -> x.result(-1, 0));
        without("nothing ran", 0);
        DUE.state("nothing ran comes ahead of no place", () -> x.result(0, -1));
        logs("nothing ran");
        cells("nothing ran", 0, 0);
        value(u, 0, number(5), EFFECT);
        hole(u, 1, INT);
        value(u, 2, number(6), GHOST);
        value(u, 3, number(7), LAZY);
        runs("all", u, 0);
        results("a number", 0, 5);
        results("a lazy one", 3, 7);
        without("a hole", 1);
        without("a ghost", 2);
        without("no component", 4);
        logs("all", 5);
        cells("all", 2, 0);
        value(u, 4, ref(9));
        runs("an error", u, 10);
        results("the latest run that ran", 0, 5);
        value(u, 4, ref(1));
        value(u, 0, number(8));
        runs("an open REF", u, 8);
        value(u, 4, ref(4));
        runs("a ring", u, 9);
        results("the latest run that ran", 0, 5);
        logs("the latest run that ran", 5);
        cells("the latest run that ran", 2, 0);
        x.remove(u, 4);
        runs("all again", u, 0);
        results("anew", 0, 8);
        logs("anew");
        x.remove(u, 0);
        results("as the face showed it then", 0, 8);
    }

    private void numbers() {
        int u = unit();
        int most = number(Integer.MAX_VALUE);
        value(u, 0, add(most, number(1)));
        value(u, 1, add(ref(0), ref(0)));
        value(u, 2, when(ref(0), number(3), number(4)));
        value(u, 3, when(ref(1), number(3), number(4)));
        x.setValue(u, 4, PAIR, pair(ref(2), ref(3)), EFFECT);
        int pairs = x.type(1, PAIR, INT);
        x.setValue(u, 5, pairs, pair(ref(4), number(9)), EFFECT);
        value(u, 6, number(-7), EFFECT);
        runs("numbers", u, 0);
        results("it goes round", 0, Integer.MIN_VALUE);
        results("it goes round to 0", 1, 0);
        results("not 0", 2, 3);
        results("0", 3, 4);
        results("a pair", 4, 3, 4);
        results("a pair of a pair", 5, 3, 4, 9);
        logs("how many numbers", 2, 3, -7);
    }

    private void halves() {
        int u = unit();
        int pairs = x.type(1, PAIR, INT);
        x.setValue(u, 0, pairs, pair(pair(number(1), number(2)), number(3)), 0);
        x.setValue(u, 1, PAIR, x.expression(2, ref(0), 0, 0), 0);
        value(u, 2, x.expression(3, ref(0), 0, 0));
        value(u, 3, x.expression(3, ref(1), 0, 0));
        value(u, 4, number(8), LAZY + EFFECT);
        value(u, 5, x.expression(2, pair(number(6), ref(4)), 0, 0));
        runs("halves", x.rename(u, 4, -1), 0);
        results("FIRST", 1, 1, 2);
        results("SECOND", 2, 3);
        results("SECOND of FIRST", 3, 2);
        results("FIRST of a pair", 5, 6);
        logs("it asks for all of the pair", 8);
    }

    private void order() {
        int a = unit();
        int b = unit();
        value(a, 0, add(ref(9), number(1)), EFFECT);
        value(a, 1, number(2), EFFECT);
        hole(a, 9, INT);
        value(b, 9, add(ref(8), number(10)), EFFECT);
        value(b, 8, number(4), EFFECT);
        value(b, 7, number(5), EFFECT);
        int n = x.node(0, a, b, false);
        runs("first part first", n, 0);
        logs("asked for, first", 4, 14, 15, 2, 5);
        int m = x.node(0, b, a, false);
        runs("the other part first", m, 0);
        logs("rising names, but asked for", 5, 4, 14, 15, 2);
        runs("by renamed names", x.rename(n, 0, 3), 0);
        logs("the order is of the names in the UNIT", 4, 14, 15, 2, 5);
        results("renamed", 3, 15);
        without("renamed", 0);
    }

    private void lazyOnes() {
        int u = unit();
        value(u, 0, number(1), LAZY + EFFECT);
        value(u, 1, number(2), EFFECT);
        value(u, 2, add(ref(3), number(1)), LAZY + EFFECT);
        value(u, 3, number(4), LAZY + EFFECT);
        runs("lazy ones", u, 0);
        logs("at the end, by rising names", 2, 1, 4, 5);
        int n = x.rename(x.rename(u, 0, 9), 2, -1);
        runs("renamed, hidden", n, 0);
        logs("rising names of the face; 2 is not asked for", 2, 4, 1);
        cells("but it is an effect", 4, 0);
        value(u, 2, add(ref(3), number(1)), LAZY);
        runs("renamed, hidden", n, 0);
        cells("it is none", 4, 1);
        value(u, 4, when(number(0), ref(2), ref(0)));
        runs("renamed, hidden", n, 0);
        logs("WHEN asks for one alone", 2, 1, 4);
        cells("but has REFs to both", 5, 0);
        results("WHEN", 4, 1);
    }

    private void rings() {
        int a = unit();
        int b = unit();
        value(a, 0, ref(0));
        runs("a ring of one", a, 9);
        value(a, 0, ref(0), LAZY);
        runs("a lazy one", a, 0);
        without("it needs itself", 0);
        value(a, 0, when(number(1), number(1), ref(1)));
        value(a, 1, ref(0));
        runs("by a REF that is not asked for", a, 9);
        value(a, 1, ref(2));
        hole(a, 2, INT);
        value(b, 2, ref(0));
        hole(b, 0, INT);
        runs("a part is open", b, 8);
        int n = x.node(0, a, b, false);
        runs("through two units", n, 9);
        value(b, 2, ref(0), LAZY);
        runs("one is lazy", n, 0);
        results("as it is not asked for", 0, 1);
        value(a, 5, ref(5));
        runs("another ring", n, 9);
        runs("even if it is hidden", x.rename(n, 5, -1), 9);
        value(a, 5, ref(4));
        runs("8 comes ahead: no, 1 is an error", n, 10);
        hole(a, 4, INT);
        value(a, 0, ref(0));
        runs("8 comes ahead of 9", n, 8);
    }

    private void dynamicRings() {
        int u = unit();
        value(u, 0, add(ref(1), number(1)), EFFECT);
        value(u, 1, ref(2), LAZY);
        value(u, 2, ref(0));
        value(u, 3, add(number(1), ref(2)), EFFECT);
        value(u, 4, when(number(0), ref(0), number(5)), EFFECT);
        runs("by way of a lazy one", u, 0);
        for (int name = 0; name < 4; name++) {
            without("it needs what has none", name);
        }
        results("it does not need it", 4, 5);
        logs("what has no value is not noted", 5);
        cells("all are reached", 5, 0);
        value(u, 5, when(ref(0), number(1), number(2)));
        value(u, 6, x.expression(2, pair(number(1), ref(2)), 0, 0));
        runs("needed otherwise", u, 0);
        without("WHEN, first", 5);
        without("FIRST of a pair with none", 6);
        value(u, 7, number(7), LAZY + EFFECT);
        value(u, 8, add(ref(0), ref(7)));
        runs("left to right", x.rename(u, 7, -1), 0);
        logs("behind what has none nothing is asked for", 5);
        value(u, 8, add(ref(7), ref(0)));
        runs("left to right", x.rename(u, 7, -1), 0);
        logs("ahead of it", 5, 7);
    }

    private void holes() {
        int a = unit();
        int b = unit();
        hole(a, 0, INT);
        runs("a hole alone", a, 0);
        cells("no cell", 0, 0);
        value(a, 1, ref(0));
        runs("a REF to it", a, 8);
        value(b, 0, number(4));
        int n = x.node(0, a, b, false);
        runs("filled", n, 0);
        results("filled", 1, 4);
        results("the definition", 0, 4);
        runs("the other way round", x.node(0, b, a, false), 0);
        results("filled", 1, 4);
        runs("an unused hole is no cell", b, 0);
        value(a, 1, ref(0), LAZY);
        runs("a lazy one, too", a, 8);
        x.setValue(a, 1, INT, ref(0), GHOST);
        runs("a ghost is no cell", a, 0);
        value(b, 5, number(3));
        value(a, 1, ref(0));
        int renamed = x.rename(b, 5, 3);
        runs("a definition renamed", x.node(0, a, renamed, false), 0);
        results("3 is 5 in its unit", 3, 3);
        runs("a hole renamed", x.node(0, x.rename(a, 0, 5), x.rename(b, 0, -1), false), 0);
        results("filled by 5", 1, 3);
        results("5", 5, 3);
    }

    private void twoHoles() {
        int a = unit();
        int b = unit();
        int c = unit();
        hole(a, 0, INT);
        value(a, 1, ref(0));
        hole(b, 0, INT);
        value(b, 2, ref(0));
        value(c, 7, number(6));
        int both = x.node(0, a, b, false);
        runs("two holes", both, 8);
        runs("filled by the same one", x.node(0, x.rename(both, 0, 7), c, false), 0);
        results("of the first one", 1, 6);
        results("of the second one", 2, 6);
        results("it", 7, 6);
        without("0 has another name", 0);
        cells("three", 3, 0);
        int d = unit2(0, 9);
        runs("a hole and a definition, and a third part's hole", x.node(0, x.node(0, a, d, false), b, false), 0);
        results("of the first one", 1, 9);
        results("of the third one", 2, 9);
        runs("the other way round", x.node(0, b, x.node(0, d, a, false), false), 0);
        results("of the first one", 1, 9);
        results("of the third one", 2, 9);
    }

    /** A unit with a number; its node. */
    private int unit2(int name, int number) {
        int u = x.unit();
        value(u, name, number(number));
        return x.unitNode(u, -1);
    }

    private void hiddenHoles() {
        int a = unit();
        int s = unit();
        hole(a, 0, INT);
        value(a, 1, ref(0), LAZY);
        hole(s, 1, INT);
        int sealed = x.node(1, a, s, false);
        int number = unit2(0, 3);
        runs("a SEAL hides the hole", x.node(0, sealed, number, false), 8);
        hole(s, 0, INT);
        int n = x.node(0, sealed, number, false);
        runs("or shows it", n, 0);
        results("filled", 1, 3);
        value(s, 2, number(1), EFFECT);
        value(a, 2, number(2));
        runs("nothing of a signature is run", n, 0);
        logs("nothing of a signature is run");
        cells("nor has it cells", 3, 0);
        results("the first part's", 2, 2);
        int hidden = x.rename(a, 2, -1);
        value(a, 3, ref(2));
        runs("what is hidden is there", x.node(0, hidden, unit2(2, 8), false), 8);
        runs("what is hidden is there", x.node(0, x.node(0, hidden, unit2(2, 8), false), number, false), 0);
        results("the one outside", 2, 8);
        results("the one inside", 3, 2);
    }

    private void applied() {
        int f = unit();
        int a = unit();
        hole(f, 0, INT);
        value(f, 1, add(ref(0), number(1)));
        value(f, 2, number(20));
        value(a, 0, add(ref(3), number(10)));
        value(a, 3, number(100));
        hole(a, 2, INT);
        value(a, 4, ref(2), EFFECT);
        int n = x.node(2, f, a, false);
        runs("applied", n, 0);
        results("filled by the argument", 1, 111);
        results("shown", 0, 110);
        without("not shown", 3);
        without("not shown", 4);
        logs("the argument's hole is filled by the functor", 20);
        cells("all are reached", 5, 0);
        value(a, 5, number(1));
        runs("applied", n, 0);
        cells("one is not", 6, 1);
        hole(a, 6, INT);
        value(a, 7, ref(6), LAZY);
        runs("a hole of the argument that is not shown", n, 8);
        runs("is not filled any more", x.node(0, n, unit2(6, 1), false), 8);
        value(a, 3, number(5), EFFECT);
        x.remove(a, 7);
        runs("the functor first", n, 0);
        logs("asked for by the functor", 5, 20);
    }

    private void reached() {
        int u = unit();
        value(u, 0, when(number(1), ref(1), ref(2)));
        value(u, 1, number(1), LAZY);
        value(u, 2, ref(3), LAZY);
        value(u, 3, number(3));
        value(u, 4, ref(5));
        value(u, 5, number(4));
        int n = u;
        for (int name = 1; name < 6; name++) {
            n = x.rename(n, name, -1);
        }
        runs("hidden", n, 0);
        cells("4 and 5 are not reached", 6, 2);
        value(u, 4, ref(5), EFFECT);
        runs("hidden", n, 0);
        cells("an effect is", 6, 0);
        logs("the effect", 4);
        value(u, 4, ref(5), EFFECT + LAZY);
        runs("hidden", n, 0);
        cells("a lazy one, too", 6, 0);
        logs("but it is not asked for");
        value(u, 4, ref(4), LAZY);
        runs("hidden", n, 0);
        cells("a ring alone", 6, 2);
        x.remove(u, 4);
        value(u, 5, number(4), LAZY);
        runs("hidden", n, 10);
    }

    private void ghosts() {
        int a = unit();
        int s = unit();
        int b = unit();
        value(a, 0, number(4), EFFECT + GHOST);
        runs("a ghost", a, 0);
        cells("is no cell", 0, 0);
        logs("and no effect");
        hole(a, 0, INT);
        value(a, 1, ref(0));
        hole(s, 1, INT);
        x.setValue(s, 0, INT, -1, GHOST);
        x.setValue(b, 0, INT, number(4), GHOST);
        int n = x.node(0, x.node(1, a, s, false), b, false);
        DUE.is("a hole made a ghost, and a ghost for it", x.valueOf(n, 0), 6);
        runs("a REF to no cell", n, 8);
        x.setValue(b, 0, INT, number(4), 0);
        runs("a cell for it", n, 0);
        results("a cell for it", 1, 4);
        value(a, 0, number(5));
        int made = x.node(1, a, s, false);
        runs("a cell made a ghost", made, 0);
        without("the face has a ghost", 0);
        results("but a REF has the cell", 1, 5);
        value(a, 1, number(6));
        runs("a cell made a ghost", made, 0);
        cells("it is not shown, as a ghost", 2, 1);
        runs("a cell made a ghost fills a hole", x.node(0, made, ghostHole(), false), 0);
        cells("that nobody shows either", 2, 1);
        hole(b, 0, INT);
        value(b, 3, add(ref(0), number(2)));
        int keeper = x.unit();
        x.setValue(keeper, 0, INT, -1, GHOST);
        hole(keeper, 3, INT);
        int asking = x.node(1, b, x.unitNode(keeper, 0), false);
        DUE.is("a hole made a ghost", x.valueOf(asking, 0), 5);
        runs("it is filled by nothing", asking, 8);
        runs("a cell made a ghost fills a hole made a ghost", x.node(0, asking, made, false), 0);
        results("a REF has the cell", 3, 7);
        without("the face has a ghost", 0);
        cells("reached by the REF", 3, 0);
    }

    /** The face of a SEAL shows no cell by the name of a ghost, be there one behind it or not. */
    private void ghostsOfSeals() {
        int a = unit();
        int s = unit();
        value(a, 0, number(1));
        value(a, 1, number(2), EFFECT);
        value(a, 2, number(3), LAZY + EFFECT);
        value(a, 3, number(4), LAZY);
        value(a, 4, number(5));
        for (int name = 0; name < 4; name++) {
            x.setValue(s, name, INT, -1, GHOST);
        }
        hole(s, 4, INT);
        int sealed = x.node(1, a, s, false);
        runs("ghosts of a SEAL", sealed, 0);
        cells("effects and what is shown are reached", 5, 2);
        logs("a lazy effect is not asked for", 2);
        results("the one that is shown", 4, 5);
        without("a ghost", 0);
        without("an effect, a ghost", 1);
        runs("renamed", x.rename(x.rename(sealed, 0, 7), 2, 0), 0);
        cells("effects and what is shown are reached", 5, 2);
        logs("a lazy effect is not asked for", 2);
        runs("linked", x.node(0, x.rename(unit2(4, 1), 4, 6), sealed, false), 0);
        cells("effects and what is shown are reached", 6, 2);
        logs("a lazy effect is not asked for", 2);
        value(a, 4, add(ref(2), ref(3)));
        runs("asked for by a REF", sealed, 0);
        cells("reached by a REF", 5, 1);
        logs("the lazy one, for a REF", 2, 3);
        results("of lazy ones", 4, 7);
        value(a, 4, ref(0), LAZY);
        runs("in a third part", x.choose(a, a, x.rename(sealed, 4, 9)), 10);
        runs("asked for at the end", sealed, 0);
        cells("reached by a lazy one", 5, 1);
        results("of one that is not lazy", 4, 1);
        int effects = x.node(1, x.rename(sealed, 0, 8), unit2(4, 0), false);
        runs("sealed twice", effects, 0);
        logs("the effect", 2);
    }

    /** A CHOOSE has a ghost, where one of both has: the other one's cell is not shown then. */
    private void ghostsOfChoices() {
        int a = unit();
        int b = unit();
        int t = unit();
        int s = unit();
        value(a, 1, number(1), LAZY + EFFECT);
        value(a, 2, number(2));
        value(b, 1, number(3), GHOST);
        value(b, 2, number(4));
        value(t, 0, number(1));
        value(t, 1, number(1), GHOST);
        int n = x.choose(a, b, t);
        DUE.is("a ghost, if one is", x.valueOf(n, 1), 6);
        runs("the one that is no ghost there", n, 0);
        logs("is not asked for");
        without("nor shown", 1);
        cells("but an effect", 2, 0);
        value(a, 1, number(1));
        runs("the one that is no ghost there", n, 0);
        cells("is dropped", 2, 1);
        value(t, 0, number(0));
        runs("the one that is a ghost", n, 0);
        results("of the second part", 2, 4);
        cells("is no cell", 1, 0);
        value(a, 0, number(7), EFFECT);
        x.setValue(s, 0, INT, -1, GHOST);
        hole(s, 1, INT);
        DUE.is("a ghost by a SEAL as third", x.error(x.choose(a, b, x.node(1, a, s, false))), 500);
    }

    private int ghostHole() {
        int u = x.unit();
        x.setValue(u, 0, INT, -1, GHOST);
        return x.unitNode(u, 0);
    }

    private void choices() {
        int a = unit();
        int b = unit();
        int t = unit();
        value(a, 0, number(1), EFFECT);
        value(b, 0, add(ref(1), number(20)), EFFECT);
        value(b, 1, number(3));
        value(a, 1, number(4));
        value(t, 0, add(ref(1), number(1)));
        value(t, 1, number(5), EFFECT);
        value(t, 2, number(5));
        int n = x.choose(a, b, t);
        runs("not 0", n, 0);
        results("the first part", 0, 1);
        logs("the third part's log counts for nothing", 1);
        cells("nor do its cells", 2, 0);
        value(t, 1, number(-1), EFFECT);
        runs("0", n, 0);
        results("the second part", 0, 23);
        logs("the second part", 23);
        int around = x.unit();
        hole(around, 0, INT);
        value(around, 3, add(ref(0), ref(0)));
        runs("a hole filled by a CHOOSE", x.node(0, x.unitNode(around, -1), n, false), 0);
        results("by what is taken", 3, 46);
        runs("a CHOOSE by a CHOOSE", x.choose(x.rename(a, 1, -1), x.rename(b, 1, -1), n), 0);
        results("not 0", 0, 1);
        value(a, 2, number(2));
        value(b, 2, number(2));
        int nested = x.choose(n, n, n);
        runs("CHOOSEs of CHOOSEs", nested, 0);
        results("0, that is 23, that is 0", 0, 23);
        cells("of one part", 3, 0);
        value(b, 3, ref(3));
        value(a, 3, number(3));
        runs("the other part", n, 9);
        value(t, 1, number(0));
        runs("is not run", n, 0);
        cells("nor has it cells", 4, 0);
    }

    private void choicesThatFail() {
        int a = unit();
        int t = unit();
        int v = unit();
        int first = x.choose(a, a, t);
        int second = x.choose(a, a, v);
        int n = x.node(0, first, second, false);
        value(t, 0, number(1));
        value(v, 0, number(1));
        runs("both run", n, 0);
        value(t, 0, ref(0), LAZY);
        runs("no value", n, 11);
        x.setValue(v, 1, INT, -1, 0);
        value(v, 0, ref(0));
        runs("an error", n, 10);
        x.remove(v, 1);
        runs("the first one", n, 11);
        runs("the other way round", x.node(0, second, first, false), 9);
        value(t, 0, number(1));
        runs("a ring in a third part", n, 9);
        int s = unit3();
        int open = openUnit();
        int third = x.choose(a, a, x.node(1, open, s, false));
        runs("an open REF in a third part", third, 8);
        value(a, 5, ref(5));
        runs("a third part comes ahead of rings", third, 8);
        runs("a third part of a third part", x.choose(s, s, x.node(0, s, third, false)), 10);
        x.remove(a, 5);
        runs("a third part of a third part", x.choose(a, a, x.node(0, numberUnit(), third, false)), 8);
        cells("the latest run that ran", 0, 0);
        x.remove(v, 0);
        int shown = v;
        runs("in a SEAL", x.node(1, third, shown, false), 8);
        runs("in a functor", x.node(2, third, shown, false), 8);
        runs("in an argument", x.node(2, shown, third, false), 8);
        runs("in the first part of a CHOOSE", x.choose(third, shown, t), 8);
        runs("behind a SEAL", x.node(0, t, x.node(1, third, shown, false), false), 8);
        int effect = unit2(3, 1);
        runs("a third part that does not run", x.node(0, effect, third, false), 8);
    }

    private int unit3() {
        int u = x.unit();
        hole(u, 0, INT);
        return x.unitNode(u, 0);
    }

    private int numberUnit() {
        int u = x.unit();
        value(u, 0, number(1));
        return x.unitNode(u, 0);
    }

    private int openUnit() {
        int u = x.unit();
        value(u, 0, number(1));
        hole(u, 1, INT);
        value(u, 2, ref(1), LAZY);
        return x.unitNode(u, 0);
    }

    private void instances() {
        int a = unit();
        int s = unit();
        hole(a, 0, INT);
        value(a, 1, add(ref(0), number(1)), EFFECT);
        hole(s, 1, INT);
        int one = x.node(0, a, unit2(0, 10), false);
        int two = x.node(0, a, unit2(0, 20), false);
        int n = x.node(0, x.node(1, one, s, false), x.rename(x.node(1, two, s, false), 1, 2), false);
        runs("a unit twice", n, 0);
        results("each by itself", 1, 11);
        results("each by itself", 2, 21);
        logs("each by itself", 11, 21);
        cells("each by itself", 4, 0);
    }

    /** A stamp that stands for what is open in the first part of its SEAL: for INTs here, and for pairs there. */
    private int conversions() {
        int a = x.unit();
        x.setType(a, 0, named(1));
        x.setType(a, 1, -1);
        x.setValue(a, 0, named(0), ref(1), 0);
        hole(a, 1, named(1));
        hole(a, 2, named(0));
        x.setValue(a, 3, named(1), ref(2), LAZY);
        int s = x.unit();
        x.setType(s, 0, -1);
        x.setType(s, 1, -1);
        hole(s, 0, named(0));
        hole(s, 1, named(1));
        hole(s, 2, named(0));
        hole(s, 3, named(1));
        int n = x.node(1, x.unitNode(a, -1), x.unitNode(s, -1), false);
        DUE.is("conversions", x.error(n), 0);
        return n;
    }

    /** A node that shows as 9 a value of the stamp of conversions, made of what an open name is there. */
    private int made(int sealed, int type, int expression) {
        int maker = x.unit();
        x.setType(maker, 1, type);
        x.setValue(maker, 1, type, expression, 0);
        x.setType(maker, 0, -1);
        hole(maker, 0, named(0));
        x.setValue(maker, 2, named(0), ref(0), 0);
        int show = x.unit();
        x.setType(show, 0, -1);
        hole(show, 0, named(0));
        int made = x.node(2, x.unitNode(show, -1), x.node(0, sealed, x.unitNode(maker, -1), false), false);
        return x.rename(made, 0, 9);
    }

    /** A node that takes as 9 such a value, and shows as 3 what it is where the open name is another type. */
    private int used(int sealed, int user, int type, int expression) {
        x.setType(user, 1, type);
        x.setValue(user, 1, type, expression, 0);
        hole(user, 3, type);
        int used = x.node(0, sealed, x.unitNode(user, -1), false);
        return x.rename(x.rename(used, 0, -1), 2, 9);
    }

    private void unlikeTypes() {
        int sealed = conversions();
        int user = x.unit();
        value(user, 4, add(ref(3), number(1)), EFFECT);
        value(user, 5, when(ref(3), number(1), number(1)));
        value(user, 6, ref(3), EFFECT);
        value(user, 7, number(7), LAZY + EFFECT);
        value(user, 8, add(ref(3), ref(7)));
        int made = made(sealed, PAIR, pair(number(1), number(2)));
        int used = used(sealed, user, INT, number(4));
        int n = x.node(0, made, x.rename(used, 7, -1), false);
        DUE.is("linked", x.error(n), 0);
        DUE.is("an INT by its type", x.size(n, 3), 1);
        runs("a pair where a number is wanted", n, 0);
        without("ADD", 4);
        without("WHEN", 5);
        results("a REF does not mind", 6, 1, 2);
        results("nor does the lazy one", 3, 1, 2);
        without("ADD finds both", 8);
        logs("of the pair, its numbers", 2, 7);
        value(user, 8, add(ref(7), ref(3)));
        runs("a pair where a number is wanted, right", n, 0);
        without("ADD finds both", 8);
        value(user, 8, add(when(ref(3), number(1), number(1)), ref(7)));
        runs("a pair where a number is wanted", n, 0);
        logs("WHEN has none: the rest is not asked for", 2);
    }

    private void unlikeHalves() {
        int sealed = conversions();
        int user = x.unit();
        value(user, 4, x.expression(2, ref(3), 0, 0));
        value(user, 5, x.expression(3, ref(3), 0, 0));
        int made = made(sealed, INT, number(3));
        int n = x.node(0, made, used(sealed, user, PAIR, pair(number(1), number(2))), false);
        DUE.is("linked", x.error(n), 0);
        runs("a number where a pair is wanted", n, 0);
        without("FIRST", 4);
        without("SECOND", 5);
        results("the number", 3, 3);
    }

    private void unlikeChoice() {
        int sealed = conversions();
        int user = x.unit();
        int made = made(sealed, PAIR, pair(number(1), number(2)));
        int n = x.rename(x.node(0, made, used(sealed, user, INT, number(4)), false), 3, 0);
        DUE.is("linked", x.error(n), 0);
        runs("by itself", n, 0);
        results("a pair as 0", 0, 1, 2);
        int empty = x.unitNode(x.unit(), 0);
        int choice = x.choose(empty, empty, n);
        DUE.is("an INT by its type", x.error(choice), 0);
        runs("a pair counts as no value", choice, 11);
    }

    private void manyNumbers() {
        int a = unit();
        for (int name = 0; name < 6; name++) {
            x.setType(a, name, name == 5 ? INT : -1);
        }
        int two = x.type(1, named(5), named(5));
        int four = x.type(1, two, two);
        x.setType(a, 4, x.type(1, four, named(5)));
        x.setType(a, 3, x.type(1, named(4), named(4)));
        x.setValue(a, 0, named(4), pair(pair(pair(number(1), number(2)), pair(number(3), number(4))), number(5)), LAZY);
        x.setValue(a, 1, named(3), pair(ref(0), ref(0)), EFFECT);
        runs("ten numbers", a, 0);
        results("ten numbers", 1, 1, 2, 3, 4, 5, 1, 2, 3, 4, 5);
        logs("ten numbers", 10);
    }

    /**
     * Two times three makers in a row, each behind a stamp, so that no type is too large: a maker, and what is
     * between two of them, has 36 times the numbers of what is ahead of it.
     */
    private void moreNumbersThanALong() {
        int maker = x.unit();
        int signature = x.unit();
        int between = x.unit();
        int start = x.unit();
        types(maker, 1, 2, 0);
        types(between, 0, 3, 1);
        x.setType(signature, 0, -1);
        x.setType(signature, 1, -1);
        x.setType(start, 1, six(INT));
        for (int name = 0; name < 9; name += 3) {
            makes(maker, name, named(1), name + 1, named(2), name + 2, named(0));
            hole(signature, name, named(1));
            hole(signature, name + 2, named(0));
            int before = name == 6 ? 9 : name + 5;
            makes(between, before, named(0), name + 1, named(3), name, named(1));
            int three = pair(pair(number(1), number(2)), number(3));
            x.setValue(start, name, named(1), pair(three, three), 0);
        }
        x.setValue(maker, 2, named(0), sixOf(ref(1)), EFFECT);
        int sealed = x.node(1, x.unitNode(maker, 0), x.unitNode(signature, 0), false);
        int makers = x.node(0, sealed, x.unitNode(between, 0), false);
        int show = shower();
        int first = x.node(2, show, x.node(0, sealed, x.unitNode(start, 0), false), false);
        int second = x.node(2, show, x.node(0, makers, x.rename(first, 2, 9), false), false);
        runs("three makers", second, 0);
        logs("two entries, gone round", 216, (int) power(6, 15));
        int third = x.node(0, makers, x.rename(second, 2, 9), false);
        DUE.is("all makers", x.error(third), 0);
        runs("all makers", third, 0);
        logs("three entries, gone round", 216, (int) power(6, 15), (int) power(6, 27));
        for (int name = 0; name < 9; name++) {
            for (int place : new int[] {0, 1, 2, 6 * 6 * 6 - 1, 1 << 30, Integer.MAX_VALUE}) {
                if (name % 3 != 1) {
                    DUE.is("very many numbers, " + name + " at " + place, x.result(name, place), place % 3 + 1);
                }
            }
        }
        DUE.index("no place -1", () -> x.result(2, -1));
    }

    private static long power(long base, int times) {
        long power = 1;
        for (int i = 0; i < times; i++) {
            power *= base;
        }
        return power;
    }

    private int six(int type) {
        int three = x.type(1, x.type(1, type, type), type);
        return x.type(1, three, three);
    }

    private int sixOf(int value) {
        int three = pair(pair(value, value), value);
        return pair(three, three);
    }

    /** A hole, a type of six of it, and one of six of that. */
    private void types(int u, int one, int six, int all) {
        x.setType(u, one, -1);
        x.setType(u, six, six(named(one)));
        x.setType(u, all, six(named(six)));
    }

    private void makes(int u, int one, int oneType, int six, int sixType, int all, int allType) {
        hole(u, one, oneType);
        x.setValue(u, six, sixType, sixOf(ref(one)), 0);
        x.setValue(u, all, allType, sixOf(ref(six)), 0);
    }

    private int shower() {
        int u = x.unit();
        x.setType(u, 0, -1);
        hole(u, 2, named(0));
        return x.unitNode(u, 0);
    }

    private void manyValues() {
        int u = unit();
        int two = pair(number(1), number(2));
        int four = x.type(1, PAIR, PAIR);
        int five = x.type(1, four, INT);
        for (int name = 0; name < 10; name++) {
            x.setValue(u, name, five, pair(pair(two, two), number(name)), name == 9 ? EFFECT : 0);
        }
        runs("many values", u, 0);
        for (int name = 0; name < 10; name++) {
            results("many values", name, 1, 2, 1, 2, name);
        }
        logs("many values", 5);
        cells("many values", 10, 0);
    }

    /** Eleven APPLYs in a row, each of a unit of three cells, each of which asks the one before it. */
    private void longChain() {
        for (int u = 0; u < 3; u++) {
            DUE.is("unit", unit(), u);
            hole(u, (3 * u + 8) % 9, INT);
            for (int name = 3 * u; name < 3 * u + 3; name++) {
                value(u, name, add(ref((name + 8) % 9), number(1)));
            }
        }
        int n = unit2(8, 1000);
        for (int i = 0; i < 11; i++) {
            n = x.node(2, i % 3, n, i % 2 == 0);
        }
        runs("a row of units", n, 0);
        results("each adds three", 5, 1033);
        results("the hole", 2, 1030);
        cells("all are reached", 34, 0);
    }
}
