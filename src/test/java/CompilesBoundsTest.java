/**
 * Each sentence of "Compiling" in the document, and of promises 25 to 27, that names a boundary: for each kind of node
 * and each name what is seen of a part and what is not, what is compiled once and what not again.
 */
public final class CompilesBoundsTest {
    private static final Due DUE = new Due("CompilesBoundsTest");
    private static final int MIN = Integer.MIN_VALUE;
    private static final int MAX = Integer.MAX_VALUE;

    public static void main(String[] args) {
        nodesThatThereAre();
        neverCompiled();
        justWhatItIsMadeOf();
        eachOnce();
        fortyNodesAtOnce();
        notAgain();
        nodesWithErrors();
        unitSeesItsVersion();
        unitSeesEachType();
        unitSeesEachValue();
        unitSeesByWhatTypesAreMadeOf();
        unitSeesByWhatExpressionsAreMadeOf();
        unitSeesWhereAValueIs();
        linkSeesAllOfBoth();
        renameAndHideSeeAll();
        chooseSeesAllOfThree();
        sealSeesAllOfTheSignature();
        sealSeesWhatTheSignatureShows();
        applySeesAllOfTheFunctor();
        applySeesWhatTheFunctorHas();
        typesAreSeen();
        errorsAreSeen();
        theSameErrorIsTheSame();
        errorsOfSignaturesAndFunctors();
        whatPartsAreIsSeen();
        numbersAlone();
        numberZeroIsANumber();
        numbersThroughNodes();
        numbersThatAreHidden();
        numbersOfOnesThatDefine();
        stampsAreSeen();
        sealsHideChanges();
        lookedAtByWhatIsSeen();
        sinceItWasLastCompiled();
        freshOrNot();
        freshByEachName();
        freshWithErrors();
        facesThatShrink();
        DUE.end();
    }

    private static int[] outside(int most) {
        return new int[] {-1, most, MIN, MAX};
    }

    private static void builds(String what, World w, int node, int due) {
        DUE.is(what, w.build(node), due);
        DUE.is(what + ", again", w.build(node), 0);
        DUE.is(what + ", fresh", w.isFresh(node), true);
    }

    // ---- promises 25 to 27: what is asked, and what is thrown

    private static void nodesThatThereAre() {
        World w = new World();
        for (int count = 0; count < 2; count++) {
            for (int node : outside(count)) {
                DUE.index("build of " + node, () -> w.build(node));
                DUE.index("compiled of " + node, () -> w.compiled(node));
                DUE.index("isFresh of " + node, () -> w.isFresh(node));
            }
            w.unit();
        }
        DUE.is("build of the last one", w.build(1), 1);
        DUE.is("compiled of the last one", w.compiled(1), 1);
        DUE.is("isFresh of the last one", w.isFresh(1), true);
    }

    /** "True if it was never compiled." */
    private static void neverCompiled() {
        World w = new World();
        World.Unit a = w.unit();
        int n = w.link(a.node, a.node);
        DUE.is("never", w.compiled(n), 0);
        DUE.is("never", w.isFresh(n), true);
        a.value(0, w.number(1)).type(0, w.named(1));
        DUE.is("never, and edited", w.isFresh(n), true);
        DUE.is("never, with an error", w.isFresh(a.node), true);
        w.build(a.node);
        DUE.is("a part was", w.compiled(a.node), 1);
        DUE.is("it was not", w.compiled(n), 0);
        a.noType(0);
        DUE.is("a part is not fresh", w.isFresh(a.node), false);
        DUE.is("it is, as it was never compiled", w.isFresh(n), true);
    }

    // ---- "To build a node is to compile all nodes of which it is made, parts first, ... each once, and then itself"

    private static void justWhatItIsMadeOf() {
        World w = new World();
        int a = w.unit().node;
        int b = w.unit().node;
        int c = w.unit().node;
        int t = w.unit().value(0, w.number(1)).node;
        int link = w.link(a, b);
        int choose = w.choose(link, link, t);
        int around = w.link(choose, c);
        DUE.is("UNIT alone", w.build(c), 1);
        DUE.is("LINK of two", w.build(link), 3);
        DUE.is("others are not compiled", w.compiled(t) + w.compiled(choose) + w.compiled(around), 0);
        DUE.is("CHOOSE: the third part, and itself", w.build(choose), 2);
        DUE.is("around it: just itself", w.build(around), 1);
        for (int node = 0; node <= around; node++) {
            DUE.is("each was compiled once", w.compiled(node), 1);
        }
    }

    private static void eachOnce() {
        World w = new World();
        int a = w.unit().node;
        int three = w.link(a, a);
        int seven = w.link(three, three);
        int fifteen = w.link(seven, seven);
        DUE.is("a part in eight places", w.build(fifteen), 4);
        for (int node = 0; node < 4; node++) {
            DUE.is("each once", w.compiled(node), 1);
        }
        DUE.is("CHOOSE of it", w.build(w.choose(seven, seven, seven)), 1);
    }

    private static void fortyNodesAtOnce() {
        World w = new World();
        World.Unit a = w.unit().hole(0);
        int row = a.node;
        for (int i = 1; i < 24; i++) {
            row = w.rename(row, (i + 1) % 2, i % 2);
        }
        for (int i = 24; i < 40; i++) {
            a.nodeOf(0);
        }
        DUE.is("a row of 24", w.build(row), 24);
        a.hole(0, w.pairOfIntegers());
        DUE.is("all of them see it", w.build(row), 24);
        DUE.is("each by itself", w.build(39), 1);
        for (int node = 0; node < 40; node++) {
            DUE.is("node " + node, w.compiled(node), node < 24 ? 2 : node == 39 ? 1 : 0);
        }
    }

    /** "A node is not compiled again, if all that it saw when it was last compiled is as it was." */
    private static void notAgain() {
        World w = new World();
        World.Unit a = w.unit().value(0, w.number(1)).typeHole(0);
        World.Unit s = w.unit().hole(0).typeHole(0);
        int n = w.link(w.seal(a.node, s.node), w.hide(w.apply(s.node, a.node), 0));
        int all = w.build(n);
        for (int i = 0; i < 5; i++) {
            DUE.is("again", w.build(n), 0);
        }
        a.value(0, w.number(1)).typeHole(0).noType(1).remove(1);
        DUE.is("edits that change nothing", w.build(n), 0);
        w.run(n);
        w.error(n);
        w.unit();
        DUE.is("looking, running, other units", w.build(n), 0);
        DUE.is("how many there were", all, 6);
        DUE.is("once", w.compiled(n), 1);
    }

    private static void nodesWithErrors() {
        World w = new World();
        World.Unit a = w.unit().type(0, w.named(1));
        int n = w.link(a.node, a.node);
        builds("with errors they are compiled, too", w, n, 2);
        DUE.is("it has one", w.error(n), 1000);
        DUE.is("once", w.compiled(n), 1);
        a.typeHole(1);
        DUE.is("it is not fresh", w.isFresh(n), false);
        builds("mended", w, n, 2);
    }

    // ---- "A UNIT sees which version it is of, and all of that, by what types and expressions are made of."

    private static void unitSeesItsVersion() {
        World w = new World();
        World.Unit a = w.unit().hole(0);
        int first = a.nodeOf(0);
        builds("the latest one", w, a.node, 1);
        builds("version 0", w, first, 1);
        for (int version = 1; version < 5; version++) {
            a.version();
            DUE.is("the face is the same", w.isFresh(a.node), true);
            builds("version " + version + ", though it holds the same", w, a.node, 1);
            builds("version 0 stays", w, first, 0);
        }
        a.hole(1);
        DUE.is("version 0 is fresh", w.isFresh(first), true);
        builds("version 0 stays", w, first, 0);
        builds("the latest one", w, a.node, 1);
        DUE.is("compiled", w.compiled(a.node), 6);
        DUE.is("compiled", w.compiled(first), 1);
        builds("another node of version 4", w, a.nodeOf(4), 1);
    }

    private static void unitSeesEachType() {
        for (int name = 0; name < 6; name++) {
            World w = new World();
            World.Unit a = w.unit();
            builds("first", w, a.node, 1);
            for (int type : new int[] {-1, w.integer(), w.pairOfIntegers(), w.pairOf(w.integer(), w.pairOfIntegers()),
                -2}) {
                a.type(name, type);
                builds("type " + type + " by " + name, w, a.node, 1);
                a.type(name, type);
                builds("again", w, a.node, 0);
            }
        }
    }

    private static void unitSeesEachValue() {
        for (int name = 0; name < 10; name++) {
            World w = new World();
            World.Unit a = w.unit();
            builds("first", w, a.node, 1);
            for (int flags = 0; flags < 8; flags++) {
                a.set(name, w.integer(), w.number(1), flags);
                builds("flags " + flags + " by " + name, w, a.node, 1);
            }
            a.hole(name);
            builds("a hole by " + name, w, a.node, 1);
            a.ghostHole(name);
            builds("a ghost hole by " + name, w, a.node, 1);
            a.set(name, w.pairOfIntegers(), -1, 4);
            builds("another type by " + name, w, a.node, 1);
            a.ghost(name, w.number(1));
            builds("a ghost by " + name, w, a.node, 1);
            a.ghost(name, w.number(2));
            builds("another number by " + name, w, a.node, 1);
            a.remove(name);
            builds("none by " + name, w, a.node, 1);
            a.remove(name);
            builds("none again", w, a.node, 0);
        }
    }

    private static void unitSeesByWhatTypesAreMadeOf() {
        World w = new World();
        World.Unit a = w.unit();
        int integer = w.x().type(0, 0, 0);
        int again = w.x().type(0, 7, 7);
        int named = w.x().type(2, 3, 0);
        int namedAgain = w.x().type(2, 3, 9);
        int other = w.x().type(2, 4, 0);
        int[] alike = {w.x().type(1, integer, named), w.x().type(1, again, namedAgain), w.x().type(1, integer, namedAgain)};
        int[] unlike = {w.x().type(1, named, integer), w.x().type(1, integer, other), w.x().type(1, integer, integer)};
        a.type(3, integer).type(4, integer).type(0, alike[0]).hole(0, alike[0]);
        builds("first", w, a.node, 1);
        for (int type : alike) {
            a.type(0, type);
            builds("a type made in the same way", w, a.node, 0);
            a.hole(0, type);
            builds("a value's type made in the same way", w, a.node, 0);
        }
        a.type(3, again);
        builds("INT", w, a.node, 0);
        for (int type : unlike) {
            a.type(0, type);
            builds("a type made in another way, the same in full", w, a.node, 1);
            a.hole(0, type);
            builds("a value's type made in another way, the same in full", w, a.node, 1);
        }
        a.type(0, named);
        builds("a name", w, a.node, 1);
        a.type(0, namedAgain);
        builds("the same name", w, a.node, 0);
        a.type(0, other);
        builds("another name", w, a.node, 1);
    }

    private static void unitSeesByWhatExpressionsAreMadeOf() {
        World w = new World();
        World.Unit a = w.unit().value(9, w.number(1)).value(8, w.number(1));
        int[] ones = {w.x().leaf(false, 1), w.x().leaf(false, 1)};
        int[] twos = {w.x().leaf(false, 2), w.x().leaf(false, 2)};
        int[] refs = {w.x().leaf(true, 9), w.x().leaf(true, 9)};
        int other = w.x().leaf(true, 8);
        int[][] pairs = new int[6][2];
        for (int i = 0; i < 2; i++) {
            pairs[0][i] = ones[i];
            pairs[1][i] = refs[i];
            pairs[2][i] = w.x().expression(0, ones[i], twos[i], i);
            pairs[3][i] = w.x().expression(2, w.x().expression(1, ones[i], twos[i], i), 5 * i, 9);
            pairs[4][i] = w.x().expression(3, w.x().expression(1, ones[i], twos[i], -i), 5 * i, 9);
            pairs[5][i] = w.x().expression(4, ones[i], twos[i], refs[i]);
        }
        for (int[] pair : pairs) {
            a.value(0, pair[0]);
            builds("an expression", w, a.node, 1);
            a.value(0, pair[1]);
            builds("made in the same way", w, a.node, 0);
        }
        int[] unlike = {other, w.x().expression(0, twos[0], ones[0], 0), w.x().expression(0, ones[0], ones[0], 0),
            w.x().expression(4, ones[0], twos[0], other), w.x().expression(4, ones[0], twos[0], twos[0]),
            w.x().expression(4, ones[0], ones[0], twos[0]), w.x().expression(4, twos[0], ones[0], twos[0]),
            w.x().leaf(false, 9), w.x().leaf(false, 8)};
        for (int expression : unlike) {
            a.value(0, expression);
            builds("made in another way", w, a.node, 1);
        }
    }

    /** The same component by another name is another one. */
    private static void unitSeesWhereAValueIs() {
        World w = new World();
        World.Unit a = w.unit().value(0, w.number(1)).typeHole(0);
        builds("first", w, a.node, 1);
        for (int name = 1; name < 10; name++) {
            a.remove(name - 1).value(name, w.number(1));
            builds("value " + name, w, a.node, 1);
        }
        for (int name = 1; name < 6; name++) {
            a.noType(name - 1).typeHole(name);
            builds("type " + name, w, a.node, 1);
        }
    }

    // ---- "Others see of their parts ..."

    /** Each edit of a value of a unit: whether a node around it sees it, where it sees the value at all. */
    private static void seesValue(String what, World w, World.Unit a, int node, int name, boolean isSeen) {
        int sum = w.add(w.number(1), w.number(1));
        a.value(name, sum);
        w.build(node);
        int all = isSeen ? 2 : 1;
        String told = what + " value " + name + ": ";
        a.lazy(name, sum);
        builds(told + "lazy", w, node, 1);
        a.effect(name, sum);
        builds(told + "an effect", w, node, 1);
        a.value(name, w.add(w.number(1), w.number(2)));
        builds(told + "another expression", w, node, 1);
        a.hole(name);
        builds(told + "a hole", w, node, all);
        a.ghostHole(name);
        builds(told + "a ghost hole", w, node, all);
        a.ghost(name, sum);
        builds(told + "a ghost", w, node, all);
        a.hole(name, w.pairOfIntegers());
        builds(told + "a hole of a pair", w, node, all);
        a.value(name, w.pairOfIntegers(), w.pair(w.number(1), w.number(1)));
        builds(told + "a pair", w, node, all);
        a.value(name, w.number(1));
        builds(told + "a NUMBER", w, node, all);
        a.value(name, w.number(2));
        builds(told + "another NUMBER", w, node, all);
        a.remove(name);
        builds(told + "none", w, node, all);
        a.value(name, sum);
        builds(told + "one again", w, node, all);
    }

    private static void seesTypes(String what, World w, World.Unit a, int node) {
        w.build(node);
        for (int name = 0; name < 6; name++) {
            for (int type : new int[] {-1, w.integer(), w.pairOfIntegers(), -2}) {
                a.type(name, type);
                builds(what + " type " + name + ": " + type, w, node, 2);
            }
            a.type(name, w.integer());
            builds(what + " type " + name, w, node, 2);
            a.type((name + 1) % 6, w.named(name));
            builds(what + " type " + (name + 1) % 6, w, node, 2);
            a.type((name + 1) % 6, w.integer());
            builds(what + " type " + (name + 1) % 6 + ": as it was in full", w, node, 1);
            a.noType((name + 1) % 6).noType(name);
            w.build(node);
        }
    }

    /** "LINK, RENAME and HIDE all of their faces, CHOOSE too." */
    private static void linkSeesAllOfBoth() {
        for (int name = 0; name < 10; name++) {
            for (int side = 0; side < 2; side++) {
                World w = new World();
                World.Unit a = w.unit();
                int b = w.unit().node;
                int n = side == 0 ? w.link(a.node, b) : w.link(b, a.node);
                seesValue("LINK " + side, w, a, n, name, true);
            }
        }
    }

    private static void renameAndHideSeeAll() {
        for (int name = 0; name < 10; name++) {
            for (int side = 0; side < 3; side++) {
                World w = new World();
                World.Unit a = w.unit();
                int n = side == 0 ? w.hide(a.node, 3) : w.rename(a.node, side + 3, side);
                seesValue("RENAME, HIDE " + side, w, a, n, name, true);
            }
        }
    }

    private static void chooseSeesAllOfThree() {
        for (int name = 0; name < 10; name++) {
            for (int side = 0; side < 3; side++) {
                World w = new World();
                World.Unit a = w.unit();
                int b = w.unit().value(0, w.number(1)).node;
                int n = side == 0 ? w.choose(a.node, b, b) : side == 1 ? w.choose(b, a.node, b) : w.choose(b, b, a.node);
                seesValue("CHOOSE " + side, w, a, n, name, true);
            }
        }
    }

    /** "SEAL all of the signature's face." */
    private static void sealSeesAllOfTheSignature() {
        for (int name = 0; name < 10; name++) {
            World w = new World();
            World.Unit s = w.unit();
            int n = name % 2 == 0 ? w.seal(w.unit().node, s.node) : w.sealAnew(w.unit().node, s.node);
            seesValue("SEAL, signature", w, s, n, name, true);
        }
    }

    /** "And of the first part's the type components and the value components that the signature shows." */
    private static void sealSeesWhatTheSignatureShows() {
        for (int name = 0; name < 10; name++) {
            for (int way : World.WAYS) {
                World w = new World();
                World.Unit a = w.unit();
                World.Unit s = w.unit().in(way, name);
                int n = w.seal(a.node, s.node);
                seesValue("SEAL, by " + World.WORDS[way], w, a, n, name, way != World.NONE);
                if (way == World.HOLE) {
                    seesValue("SEAL, not shown", w, a, n, (name + 1) % 10, false);
                }
            }
        }
    }

    /** "APPLY all of the functor's face." */
    private static void applySeesAllOfTheFunctor() {
        for (int name = 0; name < 10; name++) {
            World w = new World();
            World.Unit f = w.unit();
            int n = name % 2 == 0 ? w.apply(f.node, w.unit().node) : w.applyAnew(f.node, w.unit().node);
            seesValue("APPLY, functor", w, f, n, name, true);
        }
    }

    /** "And of the argument's the type components and the value components that the functor has." */
    private static void applySeesWhatTheFunctorHas() {
        for (int name = 0; name < 10; name++) {
            for (int way : World.WAYS) {
                World w = new World();
                World.Unit a = w.unit();
                World.Unit f = w.unit().in(way, name);
                int n = w.apply(f.node, a.node);
                seesValue("APPLY, by " + World.WORDS[way], w, a, n, name, way != World.NONE);
                if (way == World.DEFINED) {
                    seesValue("APPLY, that it has not", w, a, n, (name + 1) % 10, false);
                }
            }
        }
    }

    private static void typesAreSeen() {
        for (int side = 0; side < 11; side++) {
            World w = new World();
            World.Unit a = w.unit();
            int b = w.unit().value(0, w.number(1)).node;
            int[] nodes = new int[1];
            switch (side) {
                case 0: nodes[0] = w.link(a.node, b); break;
                case 1: nodes[0] = w.link(b, a.node); break;
                case 2: nodes[0] = w.seal(a.node, b); break;
                case 3: nodes[0] = w.seal(b, a.node); break;
                case 4: nodes[0] = w.apply(a.node, b); break;
                case 5: nodes[0] = w.apply(b, a.node); break;
                case 6: nodes[0] = w.choose(a.node, b, b); break;
                case 7: nodes[0] = w.choose(b, a.node, b); break;
                case 8: nodes[0] = w.choose(b, b, a.node); break;
                case 9: nodes[0] = w.rename(a.node, 0, 1); break;
                default: nodes[0] = w.hide(a.node, 0);
            }
            seesTypes("side " + side, w, a, nodes[0]);
        }
    }

    // ---- "Whether they have an error, and which"

    private static void errorsAreSeen() {
        World w = new World();
        World.Unit a = w.unit();
        World.Unit e = w.unit();
        int t = w.unit().value(0, w.number(1)).node;
        int[] nodes = {w.link(a.node, e.node), w.link(e.node, a.node), w.seal(a.node, e.node), w.seal(e.node, a.node),
            w.apply(a.node, e.node), w.apply(e.node, a.node), w.choose(a.node, e.node, t), w.choose(e.node, a.node, t),
            w.choose(e.node, e.node, a.node), w.rename(a.node, 0, 1), w.hide(a.node, 0)};
        for (int node : nodes) {
            w.build(node);
        }
        int none = w.named(5);
        for (int turn = 0; turn < 4; turn++) {
            a.type(turn % 2 == 0 ? 0 : 1, turn < 2 ? none : -2);
            if (turn == 1) {
                a.noType(0).type(1, none);
            }
            DUE.is("the unit", w.build(a.node), turn == 2 ? 0 : 1);
            for (int node : nodes) {
                DUE.is("an error, another one, the same, none: " + turn + " by " + node, w.build(node),
                    turn == 2 ? 0 : 1);
            }
        }
    }

    /** Where a part has the same error as it had, nothing else of it is seen. */
    private static void theSameErrorIsTheSame() {
        World w = new World();
        World.Unit a = w.unit().value(9, w.pairOfIntegers(), w.number(1)).value(0, w.number(1)).type(0, w.integer());
        World.Unit e = w.unit().hole(0).typeHole(0);
        int[] nodes = {w.link(a.node, e.node), w.link(e.node, a.node), w.seal(a.node, e.node), w.seal(e.node, a.node),
            w.apply(a.node, e.node), w.apply(e.node, a.node), w.choose(a.node, a.node, a.node), w.rename(a.node, 0, 1),
            w.hide(a.node, 0)};
        for (int node : nodes) {
            w.build(node);
        }
        DUE.is("its error", w.error(a.node), 209);
        a.value(0, w.number(2));
        same("another number", w, a, nodes);
        a.hole(0);
        same("a hole", w, a, nodes);
        a.hole(0, w.pairOfIntegers());
        same("another type", w, a, nodes);
        a.type(0, w.pairOfIntegers());
        same("another type component", w, a, nodes);
        a.typeHole(3);
        same("one type component more", w, a, nodes);
        a.value(9, w.pairOfIntegers(), w.number(5));
        same("another expression with the same error", w, a, nodes);
        a.value(8, w.pairOfIntegers(), w.number(5));
        DUE.is("another error", w.error(a.node), 208);
        DUE.is("the unit", w.build(a.node), 1);
        for (int node : nodes) {
            DUE.is("another error", w.build(node), 1);
        }
    }

    private static void same(String what, World w, World.Unit a, int[] nodes) {
        DUE.is(what + ": its error", w.error(a.node), 209);
        DUE.is(what + ": the unit", w.build(a.node), 1);
        for (int node : nodes) {
            DUE.is(what + ": node " + node, w.build(node), 0);
            DUE.is(what + ": node " + node, w.isFresh(node), true);
        }
    }

    /** A signature with an error shows no values, a functor with one has none, whatever the error is of. */
    private static void errorsOfSignaturesAndFunctors() {
        for (int turn = 0; turn < 4; turn++) {
            int kind = 1 + turn % 2;
            World w = new World();
            World.Unit a = w.unit();
            World.Unit s = w.unit();
            for (int name = 0; name < 10; name++) {
                a.value(name, w.number(1));
                s.hole(name);
            }
            int n = kind == 1 ? w.seal(a.node, s.node) : w.apply(s.node, a.node);
            if (turn < 2) {
                s.type(0, w.named(1));
            } else {
                s.value(9, w.ref(9)).value(8, w.pairOfIntegers(), w.number(1));
            }
            DUE.is("an error", w.error(s.node), turn < 2 ? 150 : 208);
            w.build(n);
            for (int name = 0; name < 10; name++) {
                a.value(name, w.number(2));
                builds("kind " + kind + " value " + name, w, n, 1);
            }
            for (int name = 0; name < 6; name++) {
                a.typeHole(name);
                builds("kind " + kind + " type " + name, w, n, 2);
            }
            s.noType(0).hole(8);
            DUE.is("mended", w.build(n), 2);
            a.value(0, w.number(3));
            builds("mended", w, n, 2);
        }
    }

    /** "SEAL and APPLY also what their parts are, as told for stamps." */
    private static void whatPartsAreIsSeen() {
        for (int side = 0; side < 2; side++) {
            World w = new World();
            World.Unit a = w.unit();
            World.Unit b = w.unit();
            World.Unit moved = side == 0 ? a : b;
            int t = w.unit().value(0, w.number(1)).node;
            int[] seeing = {w.seal(a.node, b.node), w.sealAnew(a.node, b.node), w.apply(a.node, b.node),
                w.applyAnew(a.node, b.node)};
            int[] others = {w.link(a.node, b.node), w.choose(a.node, b.node, t), w.rename(moved.node, 0, 1),
                w.hide(moved.node, 0)};
            int[] around = {w.seal(others[0], t), w.seal(seeing[0], t), w.apply(seeing[2], t), w.seal(others[2], t)};
            int[] byThemselves = {w.seal(seeing[1], t), w.apply(seeing[3], t), w.seal(others[1], t)};
            int[][] all = {seeing, others, around, byThemselves};
            for (int[] nodes : all) {
                for (int node : nodes) {
                    w.build(node);
                }
            }
            moved.version();
            DUE.is("the unit", w.build(moved.node), 1);
            for (int i = 0; i < 4; i++) {
                for (int node : all[i]) {
                    DUE.is("side " + side + " row " + i + " node " + node, w.build(node), i % 2 == 0 ? 1 : 0);
                    DUE.is("the faces are the same", w.isFresh(node), true);
                }
            }
        }
    }

    // ---- "That is defined by a NUMBER alone (not lazy, no effect, no ghost)"

    private static void numbersAlone() {
        World w = new World();
        World.Unit a = w.unit();
        int n = w.rename(a.node, 0, 5);
        for (int flags = 0; flags < 8; flags++) {
            a.set(0, w.integer(), w.number(1), flags);
            w.build(n);
            a.set(0, w.integer(), w.number(2), flags);
            DUE.is("flags " + flags, w.isFresh(n), flags != 0);
            builds("flags " + flags, w, n, flags == 0 ? 2 : 1);
        }
        int[][] expressions = {{w.add(w.number(1), w.number(1)), w.add(w.number(1), w.number(2))},
            {w.first(w.pair(w.number(1), w.number(1))), w.first(w.pair(w.number(2), w.number(1)))},
            {w.when(w.number(1), w.number(1), w.number(1)), w.when(w.number(1), w.number(2), w.number(1))}};
        a.value(0, expressions[0][0]);
        w.build(n);
        for (int[] pair : expressions) {
            for (int expression : pair) {
                a.value(0, expression);
                w.build(a.node);
                builds("no NUMBER alone", w, n, 0);
            }
        }
        a.value(1, w.number(1)).value(0, w.ref(1));
        w.build(n);
        a.value(1, w.number(2));
        builds("a REF to one is none, but the other one is seen", w, n, 2);
    }

    private static void numberZeroIsANumber() {
        World w = new World();
        World.Unit a = w.unit();
        int n = w.link(a.node, w.unit().node);
        int zero = w.add(w.number(0), w.number(0));
        for (int number : new int[] {0, 1, -1, MIN, MAX}) {
            a.value(0, zero);
            w.build(n);
            a.value(0, w.number(number));
            DUE.is(number + " is shown now", w.isFresh(n), false);
            builds(number + " is shown now", w, n, 2);
            a.lazy(0, w.number(number));
            DUE.is(number + " is not shown any more", w.isFresh(n), false);
            builds(number + " is not shown any more", w, n, 2);
        }
    }

    /** "A face shows it, unless a SEAL or a CHOOSE hid that." */
    private static void numbersThroughNodes() {
        for (int name = 0; name < 10; name++) {
            World w = new World();
            int to = (name + 1) % 10;
            World.Unit a = w.unit().value(name, w.number(1));
            World.Unit e = w.unit();
            World.Unit h = w.unit().hole(name);
            int[] nodes = {w.link(a.node, e.node), w.link(e.node, a.node), w.apply(a.node, e.node),
                w.apply(h.node, a.node), w.link(h.node, a.node), w.link(a.node, h.node), w.rename(a.node, name, to),
                w.hide(w.link(a.node, w.unit().value(to, w.number(1)).node), to)};
            int[] around = new int[8];
            for (int i = 0; i < 8; i++) {
                around[i] = w.link(nodes[i], e.node);
                w.build(around[i]);
            }
            a.value(name, w.number(2));
            for (int i = 0; i < 8; i++) {
                DUE.is("node " + i + " shows it", w.isFresh(nodes[i]), false);
                DUE.is("so does one around it", w.isFresh(around[i]), false);
            }
            for (int i = 0; i < 8; i++) {
                DUE.is("node " + i + " is seen", w.build(around[i]), i == 0 || i == 7 ? 3 : 2);
            }
        }
    }

    private static void numbersThatAreHidden() {
        for (int name = 0; name < 10; name++) {
            World w = new World();
            World.Unit a = w.unit().value(name, w.number(1));
            World.Unit s = w.unit().value(name, w.number(1));
            World.Unit t = w.unit().value(0, w.number(1));
            int e = w.unit().node;
            int[] nodes = {w.seal(a.node, s.node), w.sealAnew(a.node, s.node), w.choose(a.node, a.node, t.node),
                w.choose(a.node, s.node, t.node), w.hide(a.node, name)};
            int[] around = new int[5];
            for (int i = 0; i < 5; i++) {
                around[i] = w.link(nodes[i], e);
                w.build(around[i]);
            }
            a.value(name, w.number(2));
            DUE.is("the unit", w.build(a.node), 1);
            for (int i = 0; i < 5; i++) {
                DUE.is("node " + i + " does not show it", w.isFresh(nodes[i]), true);
                DUE.is("but sees it; one around it sees nothing", w.build(around[i]), 1);
                DUE.is("one around it sees nothing", w.compiled(around[i]), 1);
            }
            s.value(name, w.number(2));
            DUE.is("the signature's", w.build(nodes[0]), 2);
            DUE.is("the signature's is not shown", w.build(around[0]), 0);
            t.value(0, w.number(2));
            DUE.is("the third part's", w.build(nodes[2]), 2);
            DUE.is("the third part's is not shown", w.build(around[2]), 0);
        }
    }

    private static void numbersOfOnesThatDefine() {
        World w = new World();
        World.Unit a = w.unit().ghostHole(0);
        World.Unit b = w.unit().value(0, w.number(1));
        int n = w.link(a.node, b.node);
        int around = w.rename(n, 0, 1);
        w.build(around);
        b.value(0, w.number(2));
        DUE.is("a NUMBER for a ghost hole is shown", w.isFresh(around), false);
        builds("a NUMBER for a ghost hole", w, around, 3);
        b.ghost(0, w.number(2));
        w.build(around);
        b.ghost(0, w.number(3));
        DUE.is("a ghost's is not", w.isFresh(around), true);
        builds("a ghost's", w, around, 1);
    }

    // ---- "What a stamp is made of counts as what it is."

    private static void stampsAreSeen() {
        World w = new World();
        World.Unit a = w.unit().type(0, w.integer());
        World.Unit s = w.unit().typeHole(0);
        int seal = w.seal(a.node, s.node);
        int anew = w.sealAnew(a.node, s.node);
        int around = w.hide(w.link(seal, w.unit().value(0, w.number(1)).node), 0);
        int aroundAnew = w.hide(w.link(anew, w.unit().value(0, w.number(1)).node), 0);
        w.build(around);
        w.build(aroundAnew);
        a.version();
        DUE.is("made of another version: another stamp", w.isFresh(seal), false);
        DUE.is("another stamp", w.isFresh(around), false);
        DUE.is("made of the node: the same stamp", w.isFresh(anew), true);
        DUE.is("the unit, SEAL, LINK and HIDE", w.build(around), 4);
        DUE.is("SEAL alone", w.build(aroundAnew), 1);
        s.version();
        DUE.is("another version of the signature", w.isFresh(around), false);
        DUE.is("the unit, SEAL, LINK and HIDE", w.build(around), 4);
    }

    /** "Changes that nobody saw are cut off." */
    private static void sealsHideChanges() {
        World w = new World();
        World.Unit a = w.unit().type(0, w.integer()).value(0, w.number(1)).value(1, w.number(1));
        World.Unit s = w.unit().typeHole(0).hole(0, w.named(0));
        int seal = w.seal(a.node, s.node);
        int around = w.rename(w.rename(seal, 0, 5), 5, 6);
        DUE.is("all", w.build(around), 5);
        a.value(1, w.number(2));
        DUE.is("what the signature does not show", w.build(around), 1);
        a.value(0, w.number(2));
        DUE.is("what it hides", w.build(around), 2);
        a.type(0, w.pairOfIntegers()).value(0, w.pairOfIntegers(), w.pair(w.number(1), w.number(1)));
        DUE.is("what the stamp stands for", w.build(around), 2);
        a.value(0, w.number(1));
        DUE.is("an error", w.build(around), 4);
        DUE.is("an error", w.error(around), 1000);
    }

    /** "What a node sees is looked at by that, not by whether parts were compiled." */
    private static void lookedAtByWhatIsSeen() {
        World w = new World();
        World.Unit a = w.unit().value(0, w.number(1));
        int n = w.rename(a.node, 0, 1);
        w.build(n);
        for (int i = 0; i < 3; i++) {
            a.value(0, w.number(2));
            DUE.is("the part, there", w.build(a.node), 1);
            a.value(0, w.number(1));
            DUE.is("the part, and back", w.build(a.node), 1);
            DUE.is("it saw nothing of that", w.build(n), 0);
        }
        a.value(0, w.number(2));
        DUE.is("the part", w.build(a.node), 1);
        DUE.is("it sees it though the part is not compiled by that", w.build(n), 1);
        a.value(0, w.number(3));
        a.value(0, w.number(2));
        DUE.is("there and back between two builds", w.build(n), 0);
        DUE.is("compiled", w.compiled(a.node), 8);
        DUE.is("compiled", w.compiled(n), 2);
    }

    private static void sinceItWasLastCompiled() {
        World w = new World();
        World.Unit a = w.unit();
        int n = w.rename(a.node, 0, 1);
        for (int i = 1; i <= 4; i++) {
            a.value(0, w.number(i % 2));
            DUE.is("what it saw before the last time does not count", w.build(n), 2);
            DUE.is("compiled", w.compiled(n), i);
        }
    }

    // ---- promise 27: isFresh

    private static void freshOrNot() {
        World w = new World();
        World.Unit a = w.unit().value(0, w.add(w.number(1), w.number(1)));
        int n = w.rename(a.node, 0, 1);
        w.build(n);
        a.value(0, w.add(w.number(1), w.number(2)));
        DUE.is("the face is the same", w.isFresh(a.node), true);
        DUE.is("the unit is compiled all the same", w.build(n), 1);
        a.hole(0);
        DUE.is("another face", w.isFresh(a.node), false);
        DUE.is("another face of the other one", w.isFresh(n), false);
        DUE.is("looking compiles nothing", w.compiled(n), 1);
        w.build(a.node);
        DUE.is("found anew", w.isFresh(a.node), true);
        DUE.is("the other one was not compiled", w.isFresh(n), false);
        a.value(0, w.add(w.number(2), w.number(2)));
        DUE.is("it is as it was when it was compiled", w.isFresh(n), true);
        DUE.is("the unit is not", w.isFresh(a.node), false);
        DUE.is("the unit alone", w.build(n), 1);
    }

    private static void freshByEachName() {
        World w = new World();
        World.Unit a = w.unit();
        int n = w.hide(w.link(a.node, w.unit().node), 0);
        a.value(0, w.number(1));
        int around = w.link(a.node, a.node);
        for (int name = 1; name < 10; name++) {
            for (int way : new int[] {1, 2, 4, 3, 0}) {
                w.build(n);
                a.in(way, name);
                DUE.is(World.WORDS[way] + " by " + name, w.isFresh(n), false);
                DUE.is(World.WORDS[way] + " by " + name + ", the unit", w.isFresh(a.node), false);
            }
        }
        for (int name = 0; name < 6; name++) {
            for (int type : new int[] {-1, w.integer(), w.pairOfIntegers(), -2}) {
                w.build(n);
                a.type(name, type);
                DUE.is("type " + type + " by " + name, w.isFresh(n), false);
            }
        }
        DUE.is("one that was never compiled", w.isFresh(around), true);
    }

    private static void freshWithErrors() {
        World w = new World();
        World.Unit a = w.unit();
        int n = w.link(a.node, a.node);
        w.build(n);
        a.value(0, w.number(1));
        DUE.is("an error now", w.isFresh(n), false);
        w.build(n);
        a.value(0, w.number(2)).typeHole(3);
        DUE.is("the same error", w.isFresh(n), true);
        a.type(2, w.named(5));
        DUE.is("another error", w.isFresh(n), false);
        w.build(n);
        a.type(2, w.named(2));
        DUE.is("10 is the same, whichever the part's is", w.isFresh(n), true);
        DUE.is("the part's is not", w.isFresh(a.node), false);
        DUE.is("and it is seen", w.build(n), 2);
        a.noType(2).remove(0);
        DUE.is("no error now", w.isFresh(n), false);
    }

    /** A face that was large for a while is the same as it was. */
    private static void facesThatShrink() {
        World w = new World();
        World.Unit a = w.unit().type(0, w.integer()).hole(0, w.named(0)).value(1, w.number(1));
        int n = w.link(a.node, w.unit().node);
        builds("all", w, n, 3);
        for (int leaves = 2; leaves < 7; leaves++) {
            a.type(0, w.tree(w.integer(), leaves)).remove(1);
            DUE.is("larger", w.isFresh(n), false);
            DUE.is("larger", w.size(n, 0), 2 * leaves - 1);
            a.type(0, w.integer()).value(1, w.number(1));
            DUE.is("as it was", w.isFresh(n), true);
            builds("as it was", w, n, 0);
        }
        a.typeHole(0);
        builds("a hole", w, n, 2);
        DUE.is("a hole has one part", w.size(n, 0), 1);
        a.type(0, w.integer());
        builds("no hole", w, n, 2);
    }
}
