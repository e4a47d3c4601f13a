/**
 * What stamps are made of, and what a node is: which are the same one, and which are not. Each way to make a node is
 * held against each other way, and against itself, by the stamp of a SEAL of it.
 */
public final class StampsTest {
    private static final Due DUE = new Due("StampsTest");
    /** The ways below that make the same of the same; those behind them are the node itself. */
    private static final int ALIKE = 24;
    private static final int WAYS = 27;

    public static void main(String[] args) {
        whatNodesAre();
        whatANodeIsStays();
        aVersionIsNotWhatIsInIt();
        sealByBothPartsAndTheName();
        sealAnewByTheNodeAndTheName();
        chooseByTheNodeAndTheName();
        applyByTheArgumentAndTheStamp();
        applyAnewByTheNodeAndTheStamp();
        applyOfAnApply();
        applyMakesEachStampAnotherOne();
        applyLeavesStampsOfTheArgument();
        sealOfTheSameIsNoApplyOfIt();
        asManyStampsAsThereCanBe();
        typeOfAStamp();
        DUE.end();
    }

    /** The units that the ways are made of: all have the type 0, some the values 1 to 3. */
    private static final class Base {
        final World w = new World();
        final World.Unit a = w.unit().type(0, w.integer()).value(1, w.number(1)).value(2, w.number(2));
        final World.Unit b = w.unit().type(0, w.integer()).value(3, w.number(3));
        final World.Unit e = w.unit();
        final World.Unit e2 = w.unit();
        final World.Unit s = w.unit().typeHole(0);
        final World.Unit s2 = w.unit().typeHole(0);
        final int t = w.unit().value(0, w.number(1)).node;

        Base() {
            a.version();
        }

        int made(int way) {
            switch (way) {
                case 0:
                    return a.nodeOf(0);
                case 1:
                    return a.nodeOf(1);
                case 2:
                    return b.nodeOf(0);
                case 3:
                    return w.link(a.node, e.node);
                case 4:
                    return w.link(e.node, a.node);
                case 5:
                    return w.link(a.node, b.node);
                case 6:
                    return w.link(a.node, e2.node);
                case 7:
                    return w.link(w.link(a.node, e.node), e.node);
                case 8:
                    return w.link(a.node, w.link(e.node, e.node));
                case 9:
                    return w.seal(a.node, s.node);
                case 10:
                    return w.seal(a.node, s2.node);
                case 11:
                    return w.seal(b.node, s.node);
                case 12:
                    return w.seal(a.nodeOf(0), s.node);
                case 13:
                    return w.apply(a.node, e.node);
                case 14:
                    return w.apply(a.node, e2.node);
                case 15:
                    return w.apply(b.node, e.node);
                case 16:
                    return w.apply(a.node, s.node);
                default:
                    return renamed(way);
            }
        }

        private int renamed(int way) {
            switch (way) {
                case 17:
                    return w.rename(a.node, 1, 4);
                case 18:
                    return w.rename(a.node, 1, 5);
                case 19:
                    return w.rename(a.node, 2, 4);
                case 20:
                    return w.rename(b.node, 3, 4);
                case 21:
                    return w.hide(a.node, 1);
                case 22:
                    return w.hide(a.node, 2);
                case 23:
                    return w.hide(b.node, 3);
                case 24:
                    return w.sealAnew(a.node, s.node);
                case 25:
                    return w.applyAnew(a.node, e.node);
                default:
                    return w.choose(a.node, a.node, t);
            }
        }
    }

    private static void whatNodesAre() {
        for (int one = 0; one < WAYS; one++) {
            for (int other = 0; other < WAYS; other++) {
                Base base = new Base();
                World w = base.w;
                int first = base.made(one);
                int sealed = w.seal(first, base.s.node);
                boolean isSame = w.same(sealed, 0, w.seal(base.made(other), base.s.node), 0);
                DUE.is("ways " + one + " and " + other, isSame, one == other && one < ALIKE);
                if (one == other) {
                    DUE.is("the very node of way " + one, w.same(sealed, 0, w.seal(first, base.s.node), 0), true);
                    boolean asSignature = w.same(w.seal(base.b.node, base.s.node), 0,
                        w.seal(base.b.node, base.s2.node), 0);
                    DUE.is("the signature counts, too", asSignature, false);
                }
            }
        }
    }

    /** What a node is does not turn on what its units hold. */
    private static void whatANodeIsStays() {
        Base base = new Base();
        World w = base.w;
        int link = w.seal(w.link(base.a.node, base.e.node), base.s.node);
        int again = w.seal(w.link(base.a.node, base.e.node), base.s.node);
        DUE.is("the same", w.same(link, 0, again, 0), true);
        base.a.type(0, w.pairOfIntegers()).value(5, w.number(5));
        DUE.is("the same still", w.same(link, 0, again, 0), true);
        base.e.version();
        DUE.is("the same of another version", w.same(link, 0, again, 0), true);
    }

    /** "The version, for a UNIT." */
    private static void aVersionIsNotWhatIsInIt() {
        World w = new World();
        World.Unit a = w.unit().type(0, w.integer());
        World.Unit b = w.unit().type(0, w.integer());
        World.Unit s = w.unit().typeHole(0);
        int ofA = w.seal(a.node, s.node);
        int ofFirst = w.seal(a.nodeOf(0), s.node);
        DUE.is("version 0 is the latest one", w.same(ofA, 0, ofFirst, 0), true);
        DUE.is("another unit's version 0", w.same(ofA, 0, w.seal(b.node, s.node), 0), false);
        a.version();
        DUE.is("version 1 is another one, though it holds the same", w.same(ofA, 0, ofFirst, 0), false);
        DUE.is("version 1 is the latest one", w.same(ofA, 0, w.seal(a.nodeOf(1), s.node), 0), true);
        s.version();
        DUE.is("the signature's is another one in both", w.same(ofA, 0, w.seal(a.nodeOf(1), s.node), 0), true);
        DUE.is("the signature's version 0", w.same(ofA, 0, w.seal(a.node, s.nodeOf(0)), 0), false);
    }

    /** A unit with six types, and a signature with six holes. */
    private static final class Six {
        final World w = new World();
        final World.Unit a = w.unit();
        final World.Unit s = w.unit();
        final int t = w.unit().value(0, w.number(1)).node;

        Six() {
            for (int name = 0; name < 6; name++) {
                a.type(name, w.integer());
                s.typeHole(name);
            }
        }

        void names(String what, int node, int other, boolean isSame) {
            for (int name = 0; name < 6; name++) {
                for (int otherName = 0; otherName < 6; otherName++) {
                    DUE.is(what + ", names " + name + " and " + otherName, w.same(node, name, other, otherName),
                        isSame && name == otherName);
                }
            }
        }
    }

    private static void sealByBothPartsAndTheName() {
        Six six = new Six();
        int n = six.w.seal(six.a.node, six.s.node);
        six.names("the same parts", n, six.w.seal(six.a.node, six.s.node), true);
        six.names("another first part", n, six.w.seal(six.w.link(six.a.node, six.t), six.s.node), false);
        six.names("another signature", n, six.w.seal(six.a.node, six.w.link(six.s.node, six.s.node)), false);
        six.names("sealed again", n, six.w.seal(n, six.s.node), false);
        six.names("what it hides", n, six.a.node, false);
    }

    private static void sealAnewByTheNodeAndTheName() {
        Six six = new Six();
        int n = six.w.sealAnew(six.a.node, six.s.node);
        six.names("itself", n, n, true);
        six.names("of the same parts", n, six.w.sealAnew(six.a.node, six.s.node), false);
        six.names("one that is not generative", n, six.w.seal(six.a.node, six.s.node), false);
        six.a.version();
        six.names("itself, of another version", n, n, true);
    }

    private static void chooseByTheNodeAndTheName() {
        Six six = new Six();
        World.Unit b = six.w.unit();
        for (int name = 0; name < 6; name++) {
            b.type(name, six.w.pairOfIntegers());
        }
        int n = six.w.choose(six.a.node, b.node, six.t);
        six.names("itself", n, n, true);
        six.names("of the same parts", n, six.w.choose(six.a.node, b.node, six.t), false);
        six.names("the first part", n, six.a.node, false);
        for (int name = 0; name < 6; name++) {
            DUE.is("a stamp", six.w.typeOf(n, name), 3);
        }
    }

    /** "By another one that of what the argument is and s." */
    private static void applyByTheArgumentAndTheStamp() {
        Six six = new Six();
        World w = six.w;
        int f = w.seal(six.a.node, six.s.node);
        World.Unit argument = w.unit();
        int n = w.apply(f, argument.node);
        six.names("of the same", n, w.apply(f, argument.node), true);
        six.names("of another node that is the same", n, w.apply(f, argument.nodeOf(0)), true);
        six.names("of another functor with the same stamps", n,
            w.apply(w.rename(w.link(f, six.t), 0, 1), argument.node), true);
        six.names("of another argument", n, w.apply(f, w.unit().node), false);
        six.names("of other stamps", n, w.apply(w.sealAnew(six.a.node, six.s.node), argument.node), false);
        six.names("the functor's", n, f, false);
        int first = w.apply(f, argument.nodeOf(0));
        argument.version();
        six.names("another version of the argument", n, first, false);
        six.names("the latest version of the argument", n, w.apply(f, argument.nodeOf(1)), true);
    }

    private static void applyAnewByTheNodeAndTheStamp() {
        Six six = new Six();
        World w = six.w;
        int f = w.seal(six.a.node, six.s.node);
        World.Unit argument = w.unit();
        int n = w.applyAnew(f, argument.node);
        six.names("itself", n, n, true);
        six.names("of the same", n, w.applyAnew(f, argument.node), false);
        six.names("one that is not generative", n, w.apply(f, argument.node), false);
        argument.version();
        six.names("itself, of another version of the argument", n, n, true);
    }

    private static void applyOfAnApply() {
        Six six = new Six();
        World w = six.w;
        int f = w.seal(six.a.node, six.s.node);
        int x = w.unit().node;
        int y = w.unit().node;
        int xy = w.apply(w.apply(f, x), y);
        six.names("of the same twice", xy, w.apply(w.apply(f, x), y), true);
        six.names("in another order", xy, w.apply(w.apply(f, y), x), false);
        six.names("once", xy, w.apply(f, y), false);
        six.names("of a LINK of both", xy, w.apply(f, w.link(x, y)), false);
    }

    /** "Each stamp in the functor's face is made another one": those of values, and those in pairs, too. */
    private static void applyMakesEachStampAnotherOne() {
        World w = new World();
        World.Unit a = w.unit().type(0, w.integer()).type(1, w.pairOf(w.integer(), w.integer()))
            .value(0, w.number(1)).value(9, w.pairOfIntegers(), w.pair(w.number(1), w.number(2)));
        World.Unit s = w.unit().typeHole(0).type(1, w.pairOf(w.named(0), w.integer())).hole(0, w.named(0))
            .hole(9, w.pairOf(w.integer(), w.named(0)));
        int f = w.seal(a.node, s.node);
        int x = w.unit().node;
        int n = w.apply(f, x);
        DUE.is("in a pair", w.same(n, 1, f, 1), false);
        World.Unit around = w.unit().typeHole(0).hole(0, w.named(0)).hole(9, w.pairOf(w.integer(), w.named(0)))
            .type(1, w.pairOf(w.named(0), w.integer()));
        DUE.is("all of the same stamp", w.error(w.link(n, around.node)), 0);
        World.Unit plain = w.unit().typeHole(0).hole(0, w.named(0));
        DUE.is("the functor and what was made of it", w.error(w.link(w.hide(w.hide(f, 0), 9), n)), 450);
        DUE.is("a value is of the stamp", w.error(w.link(n, plain.node)), 0);
    }

    private static void applyLeavesStampsOfTheArgument() {
        World w = new World();
        World.Unit a = w.unit().type(0, w.integer());
        World.Unit s = w.unit().typeHole(0);
        World.Unit f = w.unit().typeHole(0).type(1, w.pairOf(w.named(0), w.named(0)));
        int argument = w.seal(a.node, s.node);
        int n = w.apply(f.node, argument);
        DUE.is("the argument's stamp", w.same(n, 0, argument, 0), true);
        DUE.is("applied anew, too", w.same(w.applyAnew(f.node, argument), 0, argument, 0), true);
        DUE.is("in a pair", w.same(n, 1, w.apply(f.node, w.seal(a.node, s.node)), 1), true);
        DUE.is("not another one's", w.same(n, 1, w.apply(f.node, w.sealAnew(a.node, s.node)), 1), false);
    }

    private static void sealOfTheSameIsNoApplyOfIt() {
        World w = new World();
        World.Unit a = w.unit().type(0, w.integer());
        World.Unit s = w.unit().typeHole(0);
        int seal = w.seal(a.node, s.node);
        int apply = w.apply(seal, s.node);
        DUE.is("APPLY", w.error(apply), 0);
        DUE.is("a stamp of a SEAL and one of an APPLY", w.same(seal, 0, apply, 0), false);
        DUE.is("a SEAL of the APPLY", w.same(w.seal(apply, s.node), 0, apply, 0), false);
    }

    /** 40 nodes, as many of them as can be with six stamps of their own: all are told apart. */
    private static void asManyStampsAsThereCanBe() {
        Six six = new Six();
        World w = six.w;
        int[] nodes = new int[37];
        nodes[0] = w.seal(six.a.node, six.s.node);
        for (int i = 1; i < 37; i++) {
            nodes[i] = i % 3 == 0 ? w.sealAnew(six.a.node, six.s.node) : i % 3 == 1 && i < 10
                ? w.apply(nodes[i - 1], six.t) : w.applyAnew(nodes[0], six.t);
        }
        DUE.state("40 nodes", () -> w.sealAnew(six.a.node, six.s.node));
        DUE.is("the last one is fine", w.error(nodes[36]), 0);
        for (int name = 0; name < 6; name++) {
            for (int i = 0; i < 37; i++) {
                DUE.is("node " + i, w.same(nodes[i], name, nodes[(i + 13) % 37], name), false);
            }
        }
        for (int i = 0; i < 37; i++) {
            DUE.is("itself " + i, w.same(nodes[i], 5, nodes[i], 5), true);
        }
        for (int i = 1; i < 37; i++) {
            DUE.is("the first one is no other, " + i, w.same(nodes[0], 5, nodes[i], 5), false);
        }
    }

    /** Promise 15: "3 defined as a stamp". */
    private static void typeOfAStamp() {
        World w = new World();
        World.Unit a = w.unit().type(0, w.integer()).type(1, w.pairOfIntegers()).typeHole(2);
        World.Unit s = w.unit().typeHole(0).type(1, w.pairOf(w.named(0), w.named(0))).typeHole(2);
        a.type(3, w.named(0));
        s.type(3, w.named(0));
        int n = w.seal(a.node, s.node);
        DUE.is("a stamp", w.typeOf(n, 0), 3);
        DUE.is("a pair of stamps", w.typeOf(n, 1), 2);
        DUE.is("a hole", w.typeOf(n, 2), 1);
        DUE.is("what is the stamp", w.typeOf(n, 3), 3);
        DUE.is("none", w.typeOf(n, 4), 0);
        World.Unit b = w.unit().type(5, w.named(2)).typeHole(2).typeHole(4).type(4, w.named(0)).typeHole(0);
        int linked = w.link(n, b.node);
        DUE.is("what a stamp is put for", w.typeOf(linked, 4), 3);
        DUE.is("what is an open name", w.typeOf(linked, 5), 2);
    }
}
