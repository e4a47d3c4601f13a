import java.util.HashMap;
import java.util.Map;

/** Promises 14 to 18: errors and faces, kind of node by kind of node, and stamps. */
public final class FaceTest {
    private static final Due DUE = new Due("FaceTest");
    private static final int INT = 0;
    private static final int PAIR = 7;

    private MixinUnits x = new MixinUnits();
    private final Map<Integer, Integer> pairs = new HashMap<>();
    private int one;
    private int pairOfOnes;

    private FaceTest() {
        x.type(0, 0, 0);
        for (int name = 0; name < 6; name++) {
            x.type(2, name, 0);
        }
        DUE.is("PAIR", pair(INT, INT), PAIR);
        one = x.leaf(false, 1);
        pairOfOnes = x.expression(1, one, one, 0);
    }

    /** The type NAMED. */
    private static int named(int name) {
        return 1 + name;
    }

    /** A pair type: each is made just once, as there are 60 types at most. */
    private int pair(int first, int second) {
        return pairs.computeIfAbsent(first + 100 * second, k -> x.type(1, first, second));
    }

    private int ref(int name) {
        return x.leaf(true, name);
    }

    /** A tree of so many leaves of a type. */
    private int tree(int type, int leaves) {
        if (leaves == 1) {
            return type;
        }
        return pair(tree(type, leaves / 2), tree(type, leaves - leaves / 2));
    }

    /** A new unit, and the node that is always its latest version: their numbers are the same. */
    private int unit() {
        int u = x.unit();
        DUE.is("unit and node", x.unitNode(u, -1), u);
        return u;
    }

    private void hole(int u, int name, int type) {
        x.setValue(u, name, type, -1, 0);
    }

    private void ghostHole(int u, int name, int type) {
        x.setValue(u, name, type, -1, 4);
    }

    private void value(int u, int name, int type, int expression) {
        x.setValue(u, name, type, expression, 0);
    }

    private void ghost(int u, int name, int type, int expression) {
        x.setValue(u, name, type, expression, 4);
    }

    private int link(int a, int b) {
        return x.node(0, a, b, false);
    }

    private int seal(int a, int b) {
        return x.node(1, a, b, false);
    }

    private int apply(int a, int b) {
        return x.node(2, a, b, false);
    }

    private void error(String what, int node, int due) {
        DUE.is(what, x.error(node), due);
    }

    public static void main(String[] args) {
        new FaceTest().wrongCalls();
        new FaceTest().unitTypes();
        new FaceTest().unitSizes();
        new FaceTest().unitValues();
        new FaceTest().unitDefinitions();
        new FaceTest().unitLargeExpressions();
        new FaceTest().partErrors();
        new FaceTest().linkTypes();
        new FaceTest().linkKnots();
        new FaceTest().linkSizes();
        new FaceTest().linkValues();
        new FaceTest().sealTypes();
        new FaceTest().sealValues();
        new FaceTest().sealSizes();
        new FaceTest().sealStamps();
        new FaceTest().applyHoles();
        new FaceTest().applyStamps();
        new FaceTest().applyWithItsFunctor();
        new FaceTest().applyShowsOpenNames();
        new FaceTest().chooseErrors();
        new FaceTest().chooseTypes();
        new FaceTest().chooseOutermost();
        new FaceTest().renamed();
        new FaceTest().whatNodesAre();
        DUE.end();
    }

    private void wrongCalls() {
        int u = unit();
        x.setType(u, 0, INT);
        int wrong = unit();
        x.setType(wrong, 0, named(1));
        error("wrong", wrong, 150);
        DUE.index("error", () -> x.error(2));
        DUE.index("error of -1", () -> x.error(-1));
        DUE.index("typeOf", () -> x.typeOf(2, 6));
        DUE.argument("typeOf 6", () -> x.typeOf(wrong, 6));
        DUE.argument("typeOf -1", () -> x.typeOf(u, -1));
        DUE.state("typeOf", () -> x.typeOf(wrong, 0));
        DUE.index("isSameType", () -> x.isSameType(2, 6, 0, 6));
        DUE.index("isSameType, other", () -> x.isSameType(0, 6, -1, 6));
        DUE.argument("isSameType 6", () -> x.isSameType(wrong, 6, u, 0));
        DUE.argument("isSameType -1", () -> x.isSameType(wrong, 0, u, -1));
        DUE.state("isSameType", () -> x.isSameType(wrong, 0, u, 0));
        DUE.state("isSameType, other", () -> x.isSameType(u, 0, wrong, 0));
        DUE.is("isSameType", x.isSameType(u, 0, u, 0), true);
        DUE.index("valueOf", () -> x.valueOf(2, 10));
        DUE.argument("valueOf 10", () -> x.valueOf(wrong, 10));
        DUE.argument("valueOf -1", () -> x.valueOf(u, -1));
        DUE.state("valueOf", () -> x.valueOf(wrong, 0));
        DUE.index("size", () -> x.size(-1, 10));
        DUE.argument("size 10", () -> x.size(wrong, 10));
        DUE.argument("size -1", () -> x.size(u, -1));
        DUE.state("size", () -> x.size(wrong, 0));
        DUE.is("size of none", x.size(u, 9), 0);
    }

    private void unitTypes() {
        int u = unit();
        x.setType(u, 4, named(5));
        error("5 is no component", u, 154);
        x.setType(u, 2, pair(INT, named(3)));
        error("nor is 3: the lowest defined name tells", u, 152);
        x.setType(u, 3, -1);
        x.setType(u, 5, -1);
        error("holes are components", u, 0);
        DUE.is("a pair of a hole is defined", x.typeOf(u, 2), 2);
        DUE.is("what a hole is, is defined", x.typeOf(u, 4), 2);
        DUE.is("a hole", x.typeOf(u, 3), 1);
        x.setType(u, 5, named(4));
        error("a knot of two", u, 354);
        x.setType(u, 5, named(5));
        error("a knot of one; 4 leads into it, but is not in it", u, 355);
        x.setType(u, 0, named(1));
        x.setType(u, 1, pair(named(0), INT));
        error("the lowest one in a knot", u, 350);
        x.setType(u, 1, -2);
        error("1 comes ahead of knots", u, 150);
        x.setType(u, 0, -2);
        x.setType(u, 5, named(3));
        x.setType(u, 3, INT);
        error("all told", u, 0);
        DUE.is("4 is 5 is 3", x.isSameType(u, 4, u, 3), true);
        DUE.is("2 is a pair", x.isSameType(u, 2, u, 3), false);
        x.setType(u, 1, PAIR);
        DUE.is("2 is a pair of INTs", x.isSameType(u, 2, u, 1), true);
        x.setType(u, 3, -1);
        DUE.is("two names of one hole", x.isSameType(u, 4, u, 5), true);
        DUE.is("a hole is not defined", x.isSameType(u, 4, u, 3), false);
        DUE.is("a hole is not even itself", x.isSameType(u, 3, u, 3), false);
    }

    private void unitSizes() {
        int u = unit();
        int five = tree(named(1), 5);
        x.setType(u, 0, five);
        x.setType(u, 1, tree(named(2), 5));
        x.setType(u, 2, tree(named(3), 4));
        x.setType(u, 3, INT);
        hole(u, 0, named(0));
        hole(u, 1, named(1));
        error("199 parts", u, 0);
        DUE.is("size of 100 leaves", x.size(u, 0), 199);
        DUE.is("size of 20 leaves", x.size(u, 1), 39);
        x.setType(u, 3, -1);
        DUE.is("an open name is one part", x.size(u, 0), 199);
        x.setType(u, 0, pair(five, named(3)));
        error("201 parts", u, 750);
        x.setType(u, 5, tree(named(0), 2));
        error("the lowest one", u, 750);
        x.setType(u, 5, -2);
        x.setType(u, 0, five);
        hole(u, 7, pair(named(0), INT));
        hole(u, 9, named(5));
        error("201 parts of a value's type", u, 707);
        hole(u, 6, named(5));
        error("1 of a lower value", u, 106);
        x.remove(u, 6);
        x.remove(u, 7);
        error("1 of a higher value", u, 109);
        // Up to six open names grow to far more than an int can tell.
        for (int name = 0; name < 5; name++) {
            x.setType(u, name, tree(named(name + 1), 6));
        }
        x.setType(u, 5, tree(INT, 6));
        error("46656 leaves", u, 750);
        x.setType(u, 2, tree(INT, 5));
        error("0 is of 6 times 6 times 5 leaves", u, 750);
        x.setType(u, 1, tree(named(2), 4));
        x.setType(u, 0, tree(named(2), 4));
        error("0 to 2 are small, 3 is not", u, 753);
    }

    private void unitValues() {
        int u = unit();
        DUE.is("none", x.valueOf(u, 0), 0);
        hole(u, 0, INT);
        DUE.is("a hole", x.valueOf(u, 0), 1);
        ghostHole(u, 0, INT);
        DUE.is("a hole, a ghost", x.valueOf(u, 0), 5);
        value(u, 0, INT, one);
        DUE.is("defined", x.valueOf(u, 0), 2);
        x.setValue(u, 0, INT, one, 3);
        DUE.is("lazy, an effect", x.valueOf(u, 0), 2);
        ghost(u, 0, INT, one);
        DUE.is("defined, a ghost", x.valueOf(u, 0), 6);
        DUE.is("size of INT", x.size(u, 0), 1);
        hole(u, 1, pair(PAIR, named(2)));
        error("2 is no component", u, 101);
        x.setType(u, 2, -1);
        DUE.is("size", x.size(u, 1), 5);
        x.setType(u, 2, PAIR);
        DUE.is("size made full", x.size(u, 1), 7);
    }

    private void unitDefinitions() {
        int u = unit();
        value(u, 3, INT, pairOfOnes);
        error("a pair is no INT", u, 203);
        value(u, 3, PAIR, pairOfOnes);
        error("a pair", u, 0);
        value(u, 3, named(0), one);
        x.setType(u, 0, -1);
        error("a hole is no INT", u, 203);
        x.setType(u, 0, INT);
        error("made full it is", u, 0);
        int missing = ref(8);
        int firstOfOne = x.expression(2, one, 0, 0);
        value(u, 3, INT, missing);
        error("no such component", u, 103);
        value(u, 3, INT, x.expression(0, missing, firstOfOne, 0));
        error("left first: 1", u, 103);
        value(u, 3, INT, x.expression(0, firstOfOne, missing, 0));
        error("left first: 2", u, 203);
        value(u, 3, INT, x.expression(0, pairOfOnes, missing, 0));
        error("an ADD's own 2 comes behind its parts", u, 103);
        value(u, 3, INT, x.expression(4, pairOfOnes, one, missing));
        error("a WHEN's, too", u, 103);
        value(u, 3, INT, x.expression(4, pairOfOnes, one, one));
        error("WHEN needs an INT first", u, 203);
        value(u, 3, INT, x.expression(4, one, one, pairOfOnes));
        error("WHEN needs the others the same", u, 203);
        hole(u, 7, named(1));
        x.setType(u, 1, -1);
        value(u, 3, INT, x.expression(4, ref(7), one, one));
        error("a hole is no INT", u, 203);
        x.setType(u, 1, INT);
        error("made full it is", u, 0);
        x.remove(u, 7);
        x.setType(u, 1, -2);
        value(u, 3, PAIR, x.expression(4, one, pairOfOnes, pairOfOnes));
        error("WHEN is of their type", u, 0);
        value(u, 3, INT, x.expression(0, one, pairOfOnes, 0));
        error("ADD needs INTs", u, 203);
        value(u, 3, INT, x.expression(3, pairOfOnes, 0, 0));
        error("SECOND of a pair", u, 0);
        value(u, 3, PAIR, x.expression(2, x.expression(1, pairOfOnes, one, 0), 0, 0));
        error("FIRST of a pair of a pair", u, 0);
        value(u, 3, INT, x.expression(3, x.expression(1, pairOfOnes, one, 0), 0, 0));
        error("SECOND of it", u, 0);
        value(u, 9, INT, pairOfOnes);
        value(u, 4, INT, missing);
        error("the lowest definition", u, 104);
        hole(u, 9, named(1));
        error("types of values come ahead of definitions", u, 109);
        unitGhosts(u);
    }

    private void unitGhosts(int u) {
        ghostHole(u, 8, INT);
        x.remove(u, 9);
        error("a REF to a ghost", u, 604);
        ghost(u, 4, INT, x.leaf(true, 8));
        error("a ghost may", u, 0);
        value(u, 5, INT, x.expression(4, one, one, x.leaf(true, 4)));
        error("a ghost that is defined, deep inside", u, 605);
        value(u, 6, INT, pairOfOnes);
        error("6 of a lower one comes ahead of 2", u, 605);
        value(u, 4, INT, x.expression(0, x.leaf(true, 8), pairOfOnes, 0));
        error("2 comes ahead of 6 for one", u, 204);
        x.setValue(u, 4, INT, x.leaf(true, 8), 3);
        error("lazy effects are no ghosts", u, 604);
        ghost(u, 4, INT, pairOfOnes);
        error("a ghost's type is looked at, too", u, 204);
    }

    /** What an expression is made of can be of far more parts than a component. */
    private void unitLargeExpressions() {
        int u = unit();
        x.setType(u, 0, tree(named(1), 5));
        x.setType(u, 1, tree(named(2), 5));
        x.setType(u, 2, tree(INT, 4));
        hole(u, 0, named(0));
        hole(u, 1, INT);
        int large = ref(0);
        int two = x.expression(1, large, large, 0);
        int four = x.expression(1, two, two, 0);
        value(u, 2, named(0), x.expression(2, x.expression(3, four, 0, 0), 0, 0));
        error("SECOND of 799 parts, FIRST of 399", u, 0);
        value(u, 2, named(0), x.expression(3, x.expression(1, four, large, 0), 0, 0));
        error("SECOND of 999 parts", u, 0);
        value(u, 2, named(0), x.expression(3, x.expression(1, four, two, 0), 0, 0));
        error("SECOND of 1199 parts is too large to be any component's", u, 202);
        value(u, 2, named(0), x.expression(4, ref(1), x.expression(2, two, 0, 0), x.expression(3, two, 0, 0)));
        error("a WHEN of two", u, 0);
        value(u, 2, named(0), x.expression(4, ref(1), x.expression(2, two, 0, 0), two));
        error("unlike", u, 202);
        value(u, 2, named(0), two);
        error("too large to be any component's", u, 202);
    }

    private void partErrors() {
        int u = unit();
        int wrong = unit();
        x.setType(wrong, 0, named(1));
        error("LINK, first", link(wrong, wrong), 1000);
        error("LINK, second", link(u, wrong), 1001);
        error("SEAL, second", seal(u, wrong), 1001);
        error("APPLY, first", apply(wrong, u), 1000);
        int third = x.choose(u, u, wrong);
        error("CHOOSE, third", third, 1002);
        error("CHOOSE, second ahead of what it asks", x.choose(u, wrong, u), 1001);
        int hide = x.rename(wrong, 0, -1);
        error("HIDE", hide, 1000);
        error("a part of a part", link(u, hide), 1001);
        x.setType(wrong, 1, INT);
        error("mended", wrong, 0);
        error("what is told is as it is now", hide, 500);
    }

    private void linkTypes() {
        int a = unit();
        int b = unit();
        int n = link(a, b);
        int m = link(b, a);
        x.setType(a, 0, -1);
        DUE.is("a hole in one", x.typeOf(n, 0), 1);
        x.setType(b, 0, -1);
        DUE.is("a hole in both", x.typeOf(n, 0), 1);
        x.setType(b, 0, PAIR);
        DUE.is("defined in the second one", x.typeOf(n, 0), 2);
        DUE.is("defined in the first one", x.typeOf(m, 0), 2);
        DUE.is("as there", x.isSameType(n, 0, b, 0), true);
        x.setType(b, 0, -2);
        x.setType(a, 1, pair(named(0), INT));
        DUE.is("2 is none in both", x.typeOf(n, 2), 0);
        x.setType(b, 0, INT);
        x.setType(b, 1, PAIR);
        error("(0, INT) is (INT, INT) made full", n, 0);
        error("the other way round", m, 0);
        x.setType(b, 0, PAIR);
        error("not the same", n, 451);
        x.setType(a, 0, INT);
        error("the lowest name", n, 450);
        DUE.is("types in full stay in the parts", x.typeOf(a, 0), 2);
    }

    private void linkKnots() {
        int a = unit();
        int b = unit();
        int n = link(a, b);
        x.setType(a, 3, pair(named(4), INT));
        x.setType(a, 4, -1);
        x.setType(b, 4, named(5));
        x.setType(b, 5, -1);
        error("no knot", n, 0);
        x.setType(a, 5, named(4));
        error("4 and 5", n, 354);
        x.setType(b, 5, INT);
        error("what is defined in both is as in the first one", link(b, a), 0);
        error("there is none: 4 is 5 is 4", n, 0);
        x.setType(b, 4, pair(named(3), INT));
        x.setType(b, 3, -1);
        error("3 and 4", n, 353);
    }

    private void linkSizes() {
        int a = unit();
        int b = unit();
        int n = link(a, b);
        x.setType(a, 0, tree(named(1), 5));
        x.setType(a, 1, -1);
        hole(a, 3, named(0));
        x.setType(b, 1, tree(named(2), 5));
        x.setType(b, 2, tree(named(3), 4));
        x.setType(b, 3, -1);
        error("199 parts", n, 0);
        DUE.is("size", x.size(n, 3), 199);
        hole(b, 2, pair(named(1), named(3)));
        DUE.is("size", x.size(n, 2), 41);
        hole(a, 4, pair(named(0), INT));
        error("201 parts of a value", n, 704);
        value(b, 4, INT, one);
        error("7 comes ahead of 2", n, 704);
        x.setType(b, 3, PAIR);
        error("a type name", n, 750);
        x.setType(b, 2, INT);
        x.setType(b, 4, tree(named(0), 4));
        x.setType(b, 0, -1);
        x.remove(a, 4);
        x.setType(a, 0, tree(named(1), 6));
        error("the lowest name that is too large", n, 754);
        x.setType(a, 4, INT);
        error("defined in both, too large to be the same", n, 454);
    }

    private void linkValues() {
        int a = unit();
        int b = unit();
        int n = link(a, b);
        hole(a, 0, INT);
        DUE.is("a hole of the first one", x.valueOf(n, 0), 1);
        ghostHole(a, 0, INT);
        DUE.is("a ghost of the first one", x.valueOf(n, 0), 5);
        hole(b, 0, INT);
        DUE.is("two holes, one a ghost", x.valueOf(n, 0), 1);
        ghostHole(b, 0, INT);
        DUE.is("two holes, both ghosts", x.valueOf(n, 0), 5);
        value(b, 0, INT, one);
        DUE.is("defined for a ghost", x.valueOf(n, 0), 2);
        ghost(b, 0, INT, one);
        DUE.is("a ghost for a ghost", x.valueOf(n, 0), 6);
        hole(a, 0, INT);
        error("a ghost for none", n, 600);
        error("the other way round", link(b, a), 600);
        hole(a, 0, PAIR);
        error("2 comes ahead of 6", n, 200);
        ghost(a, 0, PAIR, pairOfOnes);
        error("4 comes ahead of 2", n, 400);
        x.remove(a, 0);
        value(b, 9, INT, one);
        DUE.is("of the second one", x.valueOf(n, 9), 2);
        hole(a, 9, named(0));
        x.setType(a, 0, -1);
        error("a hole is not INT", n, 209);
        x.setType(b, 0, INT);
        error("made full it is", n, 0);
        DUE.is("size", x.size(n, 9), 1);
        hole(b, 8, PAIR);
        hole(a, 8, pair(named(0), named(0)));
        DUE.is("a hole of both", x.valueOf(n, 8), 1);
        DUE.is("size", x.size(n, 8), 3);
    }

    private void sealTypes() {
        int a = unit();
        int s = unit();
        int n = seal(a, s);
        x.setType(a, 5, INT);
        x.setType(s, 0, -1);
        error("lacking", n, 550);
        x.setType(a, 0, -1);
        DUE.is("a hole stays a hole", x.typeOf(n, 0), 1);
        DUE.is("5 is not kept", x.typeOf(n, 5), 0);
        x.setType(a, 0, PAIR);
        DUE.is("a stamp", x.typeOf(n, 0), 3);
        x.setType(s, 1, pair(named(0), INT));
        error("1 is lacking", n, 551);
        x.setType(a, 1, -1);
        error("a hole is never so", n, 251);
        x.setType(a, 1, pair(INT, INT));
        error("not the same", n, 251);
        x.setType(a, 1, pair(PAIR, INT));
        error("with the hole put in it is", n, 0);
        DUE.is("1 is as in the signature, with the stamp", x.typeOf(n, 1), 2);
        DUE.is("so it is not as in the first part", x.isSameType(n, 1, a, 1), false);
        x.setType(s, 2, PAIR);
        x.setType(a, 2, PAIR);
        DUE.is("told in full", x.isSameType(n, 2, a, 2), true);
        x.setType(s, 0, PAIR);
        DUE.is("0 told in full", x.isSameType(n, 1, a, 1), true);
        x.setType(a, 0, -1);
        x.setType(a, 1, pair(named(0), INT));
        x.setType(s, 0, -1);
        error("a hole of both", n, 0);
        DUE.is("1 has the hole", x.isSameType(n, 1, a, 1), true);
        x.setType(s, 4, -1);
        x.setType(s, 3, INT);
        error("the lowest name of the signature", n, 553);
    }

    private void sealValues() {
        int a = unit();
        int s = unit();
        int n = seal(a, s);
        value(a, 9, INT, one);
        hole(s, 3, INT);
        error("lacking", n, 503);
        hole(a, 3, INT);
        DUE.is("a hole in the first part", x.valueOf(n, 3), 1);
        DUE.is("9 is not kept", x.valueOf(n, 9), 0);
        value(a, 3, INT, one);
        DUE.is("defined in the first part", x.valueOf(n, 3), 2);
        value(s, 3, INT, one);
        hole(a, 3, INT);
        DUE.is("whatever the signature has", x.valueOf(n, 3), 1);
        hole(a, 3, PAIR);
        error("unlike", n, 203);
        ghost(a, 3, PAIR, pairOfOnes);
        error("2 comes ahead of 6", n, 203);
        ghost(a, 3, INT, one);
        error("a ghost for none", n, 603);
        ghostHole(s, 3, INT);
        DUE.is("a ghost", x.valueOf(n, 3), 6);
        value(a, 3, INT, one);
        DUE.is("a ghost if it is one in the signature", x.valueOf(n, 3), 6);
        hole(a, 3, INT);
        DUE.is("a hole that is made a ghost", x.valueOf(n, 3), 5);
        x.setType(s, 0, -1);
        error("types come first", n, 550);
        x.setType(a, 0, PAIR);
        hole(s, 1, pair(named(0), named(0)));
        hole(a, 1, pair(PAIR, named(0)));
        error("made full with the types of the first part", n, 0);
        DUE.is("made full with the stamp", x.size(n, 1), 3);
        hole(a, 1, pair(PAIR, INT));
        error("not so", n, 201);
    }

    private void sealSizes() {
        int a = unit();
        int s = unit();
        int n = seal(a, s);
        x.setType(a, 0, tree(named(1), 5));
        x.setType(a, 1, tree(INT, 5));
        x.setType(s, 0, -1);
        x.setType(a, 2, tree(named(0), 4));
        x.setType(s, 2, tree(named(0), 4));
        error("199 parts", n, 0);
        hole(a, 0, INT);
        hole(s, 0, tree(named(0), 4));
        error("199 parts, unlike", n, 200);
        hole(s, 0, pair(tree(named(0), 4), tree(INT, 2)));
        error("a value of 203 parts", n, 700);
        x.setType(s, 2, pair(tree(named(0), 4), named(0)));
        error("a type of 249 parts", n, 752);
        x.setType(a, 2, -1);
        error("but a hole is never so", n, 252);
    }

    private void sealStamps() {
        int a = unit();
        int s = unit();
        x.setType(a, 0, INT);
        x.setType(a, 1, INT);
        x.setType(s, 0, -1);
        x.setType(s, 1, -1);
        int n = seal(a, s);
        int again = seal(a, s);
        int generative = x.node(1, a, s, true);
        int another = x.node(1, a, s, true);
        DUE.is("of the same parts", x.isSameType(n, 0, again, 0), true);
        DUE.is("by the name", x.isSameType(n, 0, again, 1), false);
        DUE.is("generative or not", x.isSameType(n, 0, generative, 0), false);
        DUE.is("generative twice", x.isSameType(generative, 0, another, 0), false);
        DUE.is("generative, itself", x.isSameType(generative, 1, generative, 1), true);
        DUE.is("generative, by the name", x.isSameType(generative, 0, generative, 1), false);
        DUE.is("no stamp is what it hides", x.isSameType(n, 0, a, 0), false);
        int first = x.unitNode(a, 0);
        int ofFirst = seal(first, s);
        DUE.is("the version is what a UNIT is", x.isSameType(n, 0, ofFirst, 0), true);
        x.setType(a, 0, PAIR);
        DUE.is("not what it holds", x.isSameType(n, 0, ofFirst, 0), true);
        x.version(a);
        DUE.is("another version", x.isSameType(n, 0, ofFirst, 0), false);
        x.version(s);
        DUE.is("another version of the signature", x.isSameType(seal(first, x.unitNode(s, 0)), 0, ofFirst, 0), false);
        error("a SEAL against another one", link(n, ofFirst), 450);
        error("a SEAL against itself", link(n, again), 0);
        error("a SEAL of a SEAL", seal(n, s), 0);
        DUE.is("has stamps of its own", x.isSameType(seal(n, s), 0, n, 0), false);
    }

    private void applyHoles() {
        int f = unit();
        int a = unit();
        int n = apply(f, a);
        error("of nothing", n, 0);
        x.setType(a, 3, INT);
        value(a, 3, INT, one);
        hole(a, 4, INT);
        DUE.is("what the functor has not is not shown: type", x.typeOf(n, 3), 0);
        DUE.is("what the functor has not is not shown: value", x.valueOf(n, 3), 0);
        x.setType(f, 3, -1);
        hole(f, 3, named(3));
        DUE.is("a type that is filled", x.typeOf(n, 3), 2);
        DUE.is("a value that is filled", x.valueOf(n, 3), 2);
        hole(f, 4, INT);
        error("a hole for a hole", n, 504);
        x.remove(a, 4);
        error("nothing for a hole", n, 504);
        x.setType(f, 5, -1);
        error("types first", n, 555);
        x.setType(a, 5, -1);
        error("a type hole for a hole", n, 555);
        hole(f, 3, PAIR);
        error("errors of a LINK come first", n, 203);
        hole(f, 3, INT);
        x.setType(a, 5, PAIR);
        ghost(a, 4, INT, one);
        error("a ghost for none", n, 604);
        ghostHole(f, 4, INT);
        DUE.is("a ghost for a ghost", x.valueOf(n, 4), 6);
        value(f, 4, INT, one);
        error("two definitions", n, 404);
        x.remove(f, 4);
        hole(a, 4, pair(named(5), pair(named(5), tree(named(5), 4))));
        error("a value that the functor has not is not looked at", n, 0);
        x.setType(f, 0, PAIR);
        x.setType(a, 0, INT);
        error("but its types are", n, 450);
        x.setType(f, 0, -2);
        x.setType(f, 5, INT);
        error("two definitions of a type", n, 455);
        x.setType(a, 5, -1);
        hole(a, 3, INT);
        value(f, 3, INT, one);
        DUE.is("the functor fills the argument, too", x.error(n), 0);
    }

    private void applyStamps() {
        int u = unit();
        int s = unit();
        int a = unit();
        int b = unit();
        x.setType(u, 0, INT);
        x.setType(s, 0, -1);
        x.setType(s, 1, pair(named(0), INT));
        x.setType(u, 1, PAIR);
        hole(u, 2, INT);
        hole(s, 2, named(0));
        x.setType(a, 5, INT);
        value(a, 2, INT, one);
        int f = seal(u, s);
        error("f", f, 0);
        x.remove(u, 2);
        x.remove(s, 2);
        int n = apply(f, a);
        int again = apply(f, a);
        int ofB = apply(f, b);
        int generative = x.node(2, f, a, true);
        int another = x.node(2, f, a, true);
        DUE.is("a stamp", x.typeOf(n, 0), 3);
        DUE.is("another one than the functor's", x.isSameType(n, 0, f, 0), false);
        DUE.is("in a pair, too", x.isSameType(n, 1, f, 1), false);
        DUE.is("the same for the same argument", x.isSameType(n, 0, again, 0), true);
        DUE.is("in a pair, too", x.isSameType(n, 1, again, 1), true);
        DUE.is("not for another argument", x.isSameType(n, 0, ofB, 0), false);
        DUE.is("generative", x.isSameType(n, 0, generative, 0), false);
        DUE.is("generative twice", x.isSameType(another, 0, generative, 0), false);
        DUE.is("generative, itself", x.isSameType(another, 1, another, 1), true);
        DUE.is("the argument is its version", x.isSameType(n, 0, apply(f, x.unitNode(a, 0)), 0), true);
        DUE.is("the functor counts by the stamp alone", x.isSameType(n, 0, apply(x.node(1, u, s, false), a), 0), true);
        int generativeFunctor = x.node(1, u, s, true);
        DUE.is("a generative functor", x.isSameType(n, 0, apply(generativeFunctor, a), 0), false);
        DUE.is("applied to the same twice", x.isSameType(apply(generativeFunctor, a), 0, apply(generativeFunctor, a), 0),
            true);
        x.version(a);
        DUE.is("another version of the argument", x.isSameType(n, 0, again, 0), true);
    }

    private void applyWithItsFunctor() {
        int u = unit();
        int s = unit();
        x.setType(u, 0, INT);
        x.setType(s, 0, -1);
        int a = unit();
        int f = seal(u, s);
        int g = x.node(2, f, a, true);
        // The stamps of both are made of the node g and the stamp of f: "the same things".
        error("a functor applied to what was made by it, generative", apply(f, g), 0);
        DUE.is("of the same things", x.isSameType(apply(f, g), 0, g, 0), true);
        error("not by a generative one", x.node(2, f, g, true), 450);
        int h = apply(f, a);
        error("nor where the argument is an APPLY that is not", apply(f, h), 450);
    }

    private void applyShowsOpenNames() {
        int f = unit();
        int a = unit();
        int b = unit();
        x.setType(f, 0, -1);
        hole(f, 0, named(0));
        x.setType(a, 0, pair(named(1), named(1)));
        x.setType(a, 1, -1);
        value(a, 0, named(0), x.expression(1, ref(2), ref(2), 0));
        hole(a, 2, named(1));
        int n = apply(f, a);
        error("n", n, 0);
        DUE.is("1 is not shown", x.typeOf(n, 1), 0);
        DUE.is("but open", x.size(n, 0), 3);
        DUE.is("as it is in the argument", x.isSameType(n, 0, a, 0), true);
        x.setType(b, 1, PAIR);
        int m = link(n, b);
        DUE.is("its name has an equation here", x.size(m, 0), 7);
    }

    private void chooseErrors() {
        int a = unit();
        int b = unit();
        int t = unit();
        int n = x.choose(a, b, t);
        error("0 is lacking", n, 500);
        hole(t, 0, INT);
        error("0 is a hole", n, 500);
        ghost(t, 0, INT, one);
        error("0 is a ghost", n, 500);
        value(t, 0, PAIR, pairOfOnes);
        error("0 is a pair", n, 500);
        value(t, 0, INT, one);
        hole(t, 7, INT);
        hole(t, 8, INT);
        error("a hole in the third part", n, 807);
        ghostHole(t, 7, INT);
        x.remove(t, 8);
        error("but a ghost", n, 0);
        x.setType(t, 0, -1);
        error("type holes of the third part do not matter", n, 0);
        value(b, 1, INT, one);
        error("a value name that the first one lacks", n, 501);
        x.setType(a, 4, -1);
        error("type names first", n, 554);
        x.setType(b, 4, INT);
        value(a, 1, INT, one);
        hole(a, 0, INT);
        error("names come ahead of holes", n, 500);
        value(b, 0, INT, one);
        error("a type hole", n, 854);
        x.setType(a, 4, INT);
        x.setType(b, 4, -1);
        error("a type hole in the second one", n, 854);
        x.setType(b, 4, INT);
        error("a value hole", n, 800);
        value(a, 0, INT, one);
        ghostHole(b, 1, INT);
        error("a ghost hole", n, 801);
        ghost(b, 1, INT, one);
        error("none", n, 0);
        DUE.is("a ghost, if one of both is", x.valueOf(n, 1), 6);
        DUE.is("no ghost", x.valueOf(n, 0), 2);
        value(b, 1, INT, one);
        ghost(a, 1, INT, one);
        DUE.is("a ghost of the first one", x.valueOf(n, 1), 6);
        value(b, 0, PAIR, pairOfOnes);
        error("unlike", n, 200);
    }

    private void chooseTypes() {
        int a = unit();
        int b = unit();
        int t = unit();
        value(t, 0, INT, one);
        int n = x.choose(a, b, t);
        int again = x.choose(a, b, t);
        x.setType(a, 0, INT);
        x.setType(b, 0, INT);
        x.setType(a, 1, INT);
        x.setType(b, 1, PAIR);
        DUE.is("the same in both", x.isSameType(n, 0, a, 0), true);
        DUE.is("a stamp", x.typeOf(n, 1), 3);
        DUE.is("by the node", x.isSameType(n, 1, again, 1), false);
        DUE.is("itself", x.isSameType(n, 1, n, 1), true);
        value(a, 0, INT, one);
        value(b, 0, PAIR, pairOfOnes);
        error("a value of the stamp", n, 0);
        DUE.is("size", x.size(n, 0), 1);
        value(a, 1, INT, one);
        value(b, 1, INT, one);
        error("1 is the stamp in one and INT in the other one", n, 201);
        value(b, 1, pair(PAIR, PAIR), x.expression(1, pairOfOnes, pairOfOnes, 0));
        value(a, 1, PAIR, pairOfOnes);
        error("a pair of stamps", n, 0);
        DUE.is("size", x.size(n, 1), 3);
        x.setType(a, 3, PAIR);
        x.setType(b, 3, INT);
        error("outermost first: in one the stamp 3", n, 201);
        x.setType(a, 3, PAIR);
        x.setType(b, 3, pair(PAIR, PAIR));
        DUE.is("the stamp 3 in both", x.size(n, 1), 1);
        x.setType(a, 2, PAIR);
        x.setType(b, 2, INT);
        error("the lowest name that fits: 2 in one", n, 201);
    }

    private void chooseOutermost() {
        int a = unit();
        int b = unit();
        int t = unit();
        value(t, 0, INT, one);
        int n = x.choose(a, b, t);
        // In both 0 is a part of 1, and 1 comes ahead of it where it fits, as it is further out.
        x.setType(a, 0, INT);
        x.setType(a, 1, PAIR);
        x.setType(b, 0, PAIR);
        x.setType(b, 1, pair(PAIR, PAIR));
        value(a, 0, PAIR, pairOfOnes);
        value(b, 0, pair(PAIR, PAIR), x.expression(1, pairOfOnes, pairOfOnes, 0));
        DUE.is("the outermost one", x.size(n, 0), 1);
        // By the same types 0 and 1, the lowest one is taken.
        x.setType(a, 1, INT);
        x.setType(b, 1, PAIR);
        DUE.is("inside, twice", x.size(n, 0), 3);
        DUE.is("stamps of two names", x.isSameType(n, 0, n, 1), false);
    }

    private void renamed() {
        int a = unit();
        int n = x.rename(a, 2, 5);
        int h = x.rename(a, 2, -1);
        error("RENAME of none", n, 502);
        error("HIDE of none", h, 502);
        value(a, 5, INT, one);
        error("lacking comes ahead of the other name", n, 502);
        hole(a, 2, INT);
        error("the other name is there", n, 405);
        error("HIDE of a hole", h, 802);
        x.remove(a, 5);
        hole(a, 2, PAIR);
        x.setType(a, 3, -1);
        DUE.is("it has gone", x.valueOf(n, 2), 0);
        DUE.is("and has come", x.valueOf(n, 5), 1);
        DUE.is("with its type", x.size(n, 5), 3);
        DUE.is("type names stay", x.typeOf(n, 3), 1);
        value(a, 9, INT, one);
        ghost(a, 2, INT, one);
        DUE.is("a ghost", x.valueOf(n, 5), 6);
        error("HIDE of a ghost that is defined", h, 0);
        DUE.is("it is not shown", x.valueOf(h, 2), 0);
        DUE.is("its size", x.size(h, 2), 0);
        DUE.is("another one is", x.valueOf(h, 9), 2);
        DUE.is("type names stay", x.typeOf(h, 3), 1);
        ghostHole(a, 2, INT);
        error("HIDE of a ghost hole", h, 802);
        hole(a, 2, INT);
        error("hidden and defined anew", link(x.rename(a, 9, -1), a), 0);
        error("not hidden", link(a, a), 409);
    }

    private void whatNodesAre() {
        int a = unit();
        int s = unit();
        value(a, 1, INT, one);
        x.setType(a, 0, INT);
        x.setType(s, 0, -1);
        int byLink = seal(link(a, s), s);
        DUE.is("LINKs of the same", x.isSameType(byLink, 0, seal(link(a, s), s), 0), true);
        DUE.is("in another order", x.isSameType(byLink, 0, seal(link(s, a), s), 0), false);
        int byRename = seal(x.rename(a, 1, 2), s);
        DUE.is("RENAMEs of the same", x.isSameType(byRename, 0, seal(x.rename(a, 1, 2), s), 0), true);
        DUE.is("to another name", x.isSameType(byRename, 0, seal(x.rename(a, 1, 3), s), 0), false);
        DUE.is("HIDE", x.isSameType(byRename, 0, seal(x.rename(a, 1, -1), s), 0), false);
        int byApply = seal(apply(a, s), s);
        DUE.is("APPLYs of the same", x.isSameType(byApply, 0, seal(apply(a, s), s), 0), true);
        DUE.is("is no LINK", x.isSameType(byApply, 0, byLink, 0), false);
        int generative = x.node(2, a, s, true);
        DUE.is("a generative APPLY is itself", x.isSameType(seal(generative, s), 0, seal(generative, s), 0), true);
        DUE.is("and no other one", x.isSameType(seal(generative, s), 0, seal(x.node(2, a, s, true), s), 0), false);
        DUE.is("a SEAL of the same", x.isSameType(seal(seal(a, s), s), 0, seal(seal(a, s), s), 0), true);
        int sealed = x.node(1, a, s, true);
        DUE.is("a generative SEAL is itself", x.isSameType(seal(sealed, s), 0, seal(sealed, s), 0), true);
    }
}
