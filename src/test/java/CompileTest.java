/** Promises 25 to 27: what is compiled, how often, and whether what was found then is as it is now. */
public final class CompileTest {
    private static final Due DUE = new Due("CompileTest");
    private static final int INT = 0;
    private static final int PAIR = 7;
    private static final int ONE = 0;
    private static final int TWO = 1;
    private static final int SUM = 2;
    private static final int PAIR_OF_ONES = 3;

    private final MixinUnits x = new MixinUnits();

    private CompileTest() {
        x.type(0, 0, 0);
        for (int name = 0; name < 6; name++) {
            x.type(2, name, 0);
        }
        x.type(1, INT, INT);
        x.leaf(false, 1);
        x.leaf(false, 2);
        x.expression(0, ONE, ONE, 0);
        x.expression(1, ONE, ONE, 0);
    }

    private static int named(int name) {
        return 1 + name;
    }

    private int unit() {
        int u = x.unit();
        DUE.is("unit and node", x.unitNode(u, -1), u);
        return u;
    }

    private void value(int u, int name, int expression) {
        x.setValue(u, name, INT, expression, 0);
    }

    private void hole(int u, int name, int type) {
        x.setValue(u, name, type, -1, 0);
    }

    private void builds(String what, int node, int due) {
        DUE.is(what, x.build(node), due);
        DUE.is(what + ", again", x.build(node), 0);
        DUE.is(what + ", fresh", x.isFresh(node), true);
    }

    private void fresh(String what, int node, boolean due) {
        DUE.is(what, x.isFresh(node), due);
    }

    public static void main(String[] args) {
        new CompileTest().wrongCalls();
        new CompileTest().unitSees();
        new CompileTest().versions();
        new CompileTest().partsOnce();
        new CompileTest().linkSees();
        new CompileTest().errorsAreSeen();
        new CompileTest().sealSees();
        new CompileTest().applySees();
        new CompileTest().chooseSees();
        new CompileTest().renameSees();
        new CompileTest().numbersSeen();
        new CompileTest().numbersHidden();
        new CompileTest().whatPartsAre();
        new CompileTest().stampsSeen();
        new CompileTest().thereAndBack();
        DUE.end();
    }

    private void wrongCalls() {
        int u = unit();
        DUE.index("build", () -> x.build(1));
        DUE.index("build of -1", () -> x.build(-1));
        DUE.index("compiled", () -> x.compiled(1));
        DUE.index("compiled of -1", () -> x.compiled(-1));
        DUE.index("isFresh", () -> x.isFresh(1));
        DUE.index("isFresh of -1", () -> x.isFresh(-1));
        DUE.is("never compiled", x.compiled(u), 0);
        fresh("never compiled", u, true);
        value(u, 0, ONE);
        fresh("never compiled, and edited", u, true);
        DUE.is("an edit compiles nothing", x.compiled(u), 0);
        builds("first", u, 1);
        DUE.is("once", x.compiled(u), 1);
        DUE.argument("an edit that throws", () -> x.setValue(u, 10, INT, TWO, 0));
        builds("nothing has changed", u, 0);
        x.run(u);
        x.error(u);
        builds("nor by looking", u, 0);
    }

    private void unitSees() {
        int u = unit();
        builds("empty", u, 1);
        x.setType(u, 5, -2);
        builds("no component stays none", u, 0);
        x.setType(u, 5, -1);
        builds("a hole", u, 1);
        x.setType(u, 5, INT);
        builds("defined", u, 1);
        int alike = x.type(0, 0, 0);
        x.setType(u, 5, alike);
        builds("as another type, made in the same way", u, 0);
        x.setType(u, 5, PAIR);
        builds("a pair", u, 1);
        x.setType(u, 5, x.type(1, alike, INT));
        builds("a pair of the same", u, 0);
        x.setType(u, 5, named(4));
        x.setType(u, 4, INT);
        builds("a name", u, 1);
        x.setType(u, 5, x.type(2, 4, 9));
        builds("the same name", u, 0);
        x.setType(u, 5, INT);
        builds("another type, the same in full", u, 1);
        hole(u, 9, INT);
        builds("a value hole", u, 1);
        x.setValue(u, 9, INT, -1, 4);
        builds("a ghost", u, 1);
        value(u, 9, ONE);
        builds("defined", u, 1);
        value(u, 9, x.leaf(false, 1));
        builds("as another expression, made in the same way", u, 0);
        int sum = x.expression(0, x.leaf(false, 1), x.leaf(false, 1), 7);
        value(u, 9, SUM);
        builds("a sum", u, 1);
        value(u, 9, sum);
        builds("the same sum", u, 0);
        value(u, 9, x.expression(4, ONE, ONE, ONE));
        builds("WHEN", u, 1);
        value(u, 9, x.expression(4, ONE, ONE, TWO));
        builds("another third", u, 1);
        x.setValue(u, 9, alike, x.expression(2, PAIR_OF_ONES, 9, 9), 0);
        builds("FIRST, and a type made in the same way", u, 1);
        x.setValue(u, 9, alike, x.expression(2, PAIR_OF_ONES, 8, 7), 0);
        builds("FIRST of the same", u, 0);
        x.setValue(u, 9, INT, x.expression(3, PAIR_OF_ONES, 8, 7), 0);
        builds("SECOND", u, 1);
        for (int flags = 1; flags < 8; flags++) {
            x.setValue(u, 9, INT, ONE, flags);
            builds("flags " + flags, u, 1);
        }
        x.setValue(u, 9, named(4), ONE, 7);
        builds("a type that is the same in full", u, 1);
        x.remove(u, 9);
        builds("none", u, 1);
        x.remove(u, 9);
        builds("none stays none", u, 0);
        value(u, 3, x.leaf(true, 3));
        builds("a REF", u, 1);
        value(u, 3, x.leaf(false, 3));
        builds("no NUMBER of the same number", u, 1);
    }

    private void versions() {
        int u = unit();
        int first = x.unitNode(u, 0);
        builds("first", first, 1);
        builds("latest", u, 1);
        x.version(u);
        builds("the version stays", first, 0);
        fresh("the face is the same", u, true);
        builds("another version, though all is the same", u, 1);
        value(u, 0, ONE);
        fresh("the version stays", first, true);
        fresh("the latest one has changed", u, false);
        builds("the version stays", first, 0);
        builds("the latest one", u, 1);
        DUE.is("compiled", x.compiled(u), 3);
        DUE.is("compiled", x.compiled(first), 1);
    }

    private void partsOnce() {
        int u = unit();
        hole(u, 0, INT);
        int n = x.node(0, u, u, false);
        int m = x.node(0, n, x.node(0, n, u, false), false);
        DUE.is("a DAG", x.build(m), 4);
        for (int i = 0; i < 4; i++) {
            DUE.is("each once", x.compiled(i), 1);
        }
        int more = x.choose(m, n, u);
        DUE.is("just the new one", x.build(more), 1);
        hole(u, 1, INT);
        DUE.is("a part alone", x.build(u), 1);
        fresh("what is made of it is not fresh", m, false);
        DUE.is("all but it", x.build(m), 3);
    }

    private void linkSees() {
        int a = unit();
        int b = unit();
        int n = x.node(0, a, b, false);
        builds("all", n, 3);
        hole(a, 3, INT);
        builds("a hole of the first one", n, 2);
        hole(b, 3, INT);
        fresh("the face is the same", n, true);
        builds("a hole of the second one", n, 2);
        x.setValue(a, 3, INT, -1, 4);
        fresh("the face is the same", n, true);
        builds("a ghost", n, 2);
        x.setType(b, 0, INT);
        builds("a type", n, 2);
        x.setType(a, 0, INT);
        fresh("the face is the same", n, true);
        builds("a type", n, 2);
        x.setValue(b, 3, INT, SUM, 0);
        builds("defined", n, 2);
        x.setValue(b, 3, INT, SUM, 1);
        builds("lazy: just in the unit", n, 1);
        x.setValue(b, 3, INT, x.expression(0, ONE, TWO, 0), 2);
        builds("another definition, an effect: just in the unit", n, 1);
        x.setValue(b, 3, named(0), x.expression(0, ONE, TWO, 0), 2);
        builds("the same type in full: just in the unit", n, 1);
        x.setType(b, 0, PAIR);
        builds("an error", n, 2);
        DUE.is("b has one", x.error(b), 203);
        int swapped = x.node(0, b, a, true);
        DUE.is("just the new one", x.build(swapped), 1);
    }

    private void errorsAreSeen() {
        int a = unit();
        int b = unit();
        int n = x.node(0, a, b, false);
        builds("all", n, 3);
        x.setType(a, 0, named(1));
        fresh("an error", n, false);
        fresh("an error", a, false);
        builds("an error", n, 2);
        x.setType(a, 2, INT);
        fresh("the same error", a, true);
        builds("the same error", n, 1);
        x.setType(b, 2, PAIR);
        fresh("the other part", n, true);
        builds("the other part is seen", n, 2);
        x.setType(a, 0, -2);
        x.setType(a, 2, named(1));
        fresh("another error of the part, the same here", n, true);
        builds("another error", n, 2);
        int m = x.rename(n, 0, 1);
        builds("of a part of a part", m, 1);
        x.setType(a, 1, INT);
        DUE.is("mended: as to types, not the same", x.error(n), 452);
        builds("mended", m, 3);
        x.setType(b, 2, INT);
        DUE.is("mended", x.error(m), 500);
        builds("mended", m, 3);
    }

    private void sealSees() {
        int a = unit();
        int s = unit();
        int n = x.node(1, a, s, false);
        builds("all", n, 3);
        value(a, 4, SUM);
        builds("a value that the signature does not show", n, 1);
        x.setType(a, 2, INT);
        builds("type components are seen", n, 2);
        hole(s, 4, INT);
        builds("the signature", n, 2);
        hole(a, 4, INT);
        builds("a value that it shows", n, 2);
        x.setType(s, 2, -1);
        builds("the signature", n, 2);
        value(a, 5, ONE);
        builds("a value that the signature does not show", n, 1);
        value(a, 5, PAIR_OF_ONES);
        DUE.is("an error", x.error(n), 1000);
        builds("an error", n, 2);
        hole(s, 5, INT);
        builds("the signature", n, 2);
        value(a, 5, TWO);
        builds("mended", n, 2);
        x.setType(s, 0, named(1));
        builds("an error of the signature", n, 2);
        value(a, 5, SUM);
        builds("no value is shown then", n, 1);
        x.setType(a, 0, PAIR);
        builds("types are", n, 2);
    }

    private void applySees() {
        int f = unit();
        int a = unit();
        int n = x.node(2, f, a, true);
        builds("all", n, 3);
        value(a, 4, SUM);
        fresh("the face is the same", n, true);
        builds("a value that the functor has not", n, 1);
        x.setType(a, 2, INT);
        fresh("the face is the same", n, true);
        builds("type components are seen", n, 2);
        value(f, 3, ONE);
        builds("the functor", n, 2);
        value(f, 3, TWO);
        builds("its numbers", n, 2);
        hole(a, 3, INT);
        builds("a value that the functor has", n, 2);
        value(a, 4, ONE);
        builds("a number of one that it has not", n, 1);
        x.setType(f, 0, named(1));
        builds("an error of the functor", n, 2);
        x.remove(a, 3);
        builds("no value is seen then", n, 1);
        x.setType(a, 2, PAIR);
        builds("types are", n, 2);
    }

    private void chooseSees() {
        int a = unit();
        int t = unit();
        value(t, 0, ONE);
        int n = x.choose(a, a, t);
        builds("all", n, 3);
        value(t, 0, TWO);
        fresh("the face is the same", n, true);
        builds("a number of the third part", n, 2);
        value(t, 0, SUM);
        builds("no number any more", n, 2);
        value(t, 0, x.expression(0, TWO, TWO, 0));
        builds("just in the unit", n, 1);
        x.setType(t, 3, PAIR);
        builds("all of the third part's face", n, 2);
        value(a, 9, ONE);
        builds("the others", n, 2);
        value(a, 9, TWO);
        fresh("a CHOOSE shows no number", n, true);
        builds("but it sees them", n, 2);
        int m = x.rename(n, 9, 8);
        builds("one around", m, 1);
        value(a, 9, ONE);
        builds("it does not see them", m, 2);
    }

    private void renameSees() {
        int a = unit();
        value(a, 0, SUM);
        hole(a, 1, INT);
        int n = x.rename(a, 0, 5);
        int h = x.rename(a, 0, -1);
        builds("RENAME", n, 2);
        builds("HIDE", h, 1);
        hole(a, 1, PAIR);
        builds("RENAME", n, 2);
        builds("HIDE", h, 1);
        value(a, 0, ONE);
        fresh("RENAME shows the number", n, false);
        fresh("HIDE does not", h, true);
        builds("RENAME", n, 2);
        builds("HIDE sees it", h, 1);
        value(a, 0, TWO);
        fresh("RENAME shows the number", n, false);
        fresh("HIDE does not", h, true);
        builds("HIDE sees it", h, 2);
        builds("RENAME", n, 1);
    }

    private void numbersSeen() {
        int a = unit();
        int b = unit();
        hole(b, 0, INT);
        int n = x.node(0, b, a, false);
        int m = x.rename(n, 0, 7);
        int top = x.rename(m, 7, 8);
        value(a, 0, ONE);
        builds("all", top, 5);
        value(a, 0, TWO);
        fresh("a number", n, false);
        fresh("through a LINK and a RENAME", top, false);
        builds("a number", top, 4);
        x.setValue(a, 0, INT, TWO, 1);
        builds("lazy: none", top, 4);
        x.setValue(a, 0, INT, ONE, 1);
        fresh("none", a, true);
        builds("none", top, 1);
        x.setValue(a, 0, INT, TWO, 2);
        builds("an effect: none", top, 1);
        value(a, 0, ONE);
        builds("a number", top, 4);
        value(a, 0, x.expression(2, PAIR_OF_ONES, 0, 0));
        builds("no NUMBER alone", top, 4);
        int f = x.node(2, b, a, false);
        int around = x.node(0, f, f, false);
        builds("APPLY, and one around", around, 2);
        value(a, 0, ONE);
        fresh("APPLY shows the number of its argument", f, false);
        DUE.is("a, APPLY; around it has the same error as ever", x.build(around), 3);
        x.setValue(b, 0, INT, -1, 4);
        builds("a number for a ghost hole", f, 2);
        value(a, 0, TWO);
        fresh("is shown", f, false);
    }

    private void numbersHidden() {
        int a = unit();
        int s = unit();
        value(a, 0, ONE);
        value(s, 0, ONE);
        int n = x.node(1, a, s, false);
        int top = x.rename(n, 0, 5);
        builds("all", top, 4);
        value(a, 0, TWO);
        fresh("a SEAL hides the number", n, true);
        builds("but sees it", top, 2);
        value(s, 0, TWO);
        fresh("the signature's number is not shown", n, true);
        builds("but seen", top, 2);
        value(a, 1, ONE);
        builds("of none that is not shown", top, 1);
    }

    private void whatPartsAre() {
        int a = unit();
        int s = unit();
        int seal = x.node(1, a, s, true);
        int apply = x.node(2, a, s, false);
        int link = x.node(0, a, s, false);
        builds("SEAL", seal, 3);
        builds("APPLY", apply, 1);
        builds("LINK", link, 1);
        x.version(s);
        builds("SEAL sees the version of the signature", seal, 2);
        builds("APPLY that of the argument", apply, 1);
        builds("LINK does not", link, 0);
        x.version(a);
        builds("LINK does not", link, 1);
        builds("SEAL that of the first part", seal, 1);
        builds("APPLY that of the functor", apply, 1);
        int around = x.node(1, link, s, false);
        builds("SEAL of a LINK", around, 1);
        x.version(a);
        builds("what the LINK is", around, 2);
        int top = x.node(1, seal, s, false);
        builds("SEAL of a SEAL that is generative", top, 2);
        x.version(a);
        builds("that is itself", top, 2);
    }

    private void stampsSeen() {
        int a = unit();
        int s = unit();
        x.setType(a, 0, INT);
        x.setType(s, 0, -1);
        int seal = x.node(1, a, s, false);
        int link = x.node(0, seal, seal, false);
        int generative = x.node(1, a, s, true);
        int around = x.node(0, generative, generative, false);
        builds("SEAL", link, 4);
        builds("generative", around, 2);
        x.setType(a, 0, PAIR);
        fresh("the stamp is the same", seal, true);
        builds("what is hidden", link, 2);
        builds("what is hidden", around, 1);
        x.version(a);
        fresh("another stamp", seal, false);
        fresh("another stamp", link, false);
        fresh("the same stamp", generative, true);
        builds("another stamp", link, 3);
        builds("the same stamp", around, 1);
        int apply = x.node(2, seal, s, false);
        DUE.is("APPLY", x.error(apply), 0);
        builds("APPLY", apply, 1);
        x.version(s);
        fresh("another stamp of the functor, another argument", apply, false);
        builds("APPLY", apply, 3);
    }

    private void thereAndBack() {
        int a = unit();
        int n = x.rename(a, 0, 1);
        value(a, 0, ONE);
        builds("all", n, 2);
        value(a, 0, TWO);
        fresh("there", n, false);
        value(a, 0, ONE);
        fresh("and back", n, true);
        builds("all is as it was", n, 0);
        value(a, 0, TWO);
        DUE.is("a part", x.build(a), 1);
        value(a, 0, ONE);
        DUE.is("a part", x.build(a), 1);
        DUE.is("the other one has seen nothing of it", x.build(n), 0);
        DUE.is("compiled", x.compiled(a), 3);
        DUE.is("compiled", x.compiled(n), 1);
    }
}
