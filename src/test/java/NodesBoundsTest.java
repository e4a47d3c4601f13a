/**
 * Each sentence of "Nodes" in the document, and of promises 10 to 13, that names a boundary: the last input that is
 * taken and the first one that is refused, on both sides; nothing there at all, and full.
 */
public final class NodesBoundsTest {
    private static final Due DUE = new Due("NodesBoundsTest");
    private static final int MIN = Integer.MIN_VALUE;
    private static final int MAX = Integer.MAX_VALUE;

    public static void main(String[] args) {
        unitNodeUnits();
        unitNodeVersions();
        unitNodeFollowsTheLatest();
        nodeKinds();
        nodesOfEarlierOnes();
        isGenerativeCountsForNothing();
        chooseOfEarlierOnes();
        renameOfEarlierOnes();
        renameNames();
        renameTo();
        renameBothTheSame();
        weightOfLink();
        weightOfSeal();
        weightOfApply();
        weightOfChoose();
        weightOfRename();
        weightCountsEachUse();
        fortyNodes();
        fortyNodesOfEachKind();
        heavyNodesWork();
        DUE.end();
    }

    private static int[] outside(int most) {
        return new int[] {-1, most, MIN, MAX};
    }

    // ---- promise 10: unitNode

    private static void unitNodeUnits() {
        MixinUnits x = new MixinUnits();
        for (int unit : outside(0)) {
            DUE.index("no unit yet: " + unit, () -> x.unitNode(unit, -1));
        }
        x.unit();
        x.unit();
        for (int unit : outside(2)) {
            DUE.index("unit " + unit, () -> x.unitNode(unit, 0));
            DUE.index("unit " + unit + ", the latest version", () -> x.unitNode(unit, -1));
        }
        DUE.is("unit 0", x.unitNode(0, 0), 0);
        DUE.is("unit 1", x.unitNode(1, 0), 1);
    }

    private static void unitNodeVersions() {
        MixinUnits x = new MixinUnits();
        x.unit();
        x.unit();
        x.version(1);
        for (int version : new int[] {-2, 1, MIN, MAX}) {
            DUE.index("version " + version, () -> x.unitNode(0, version));
        }
        DUE.is("version 0", x.unitNode(0, 0), 0);
        DUE.is("always the latest one", x.unitNode(0, -1), 1);
        DUE.is("another unit's version 1", x.unitNode(1, 1), 2);
        DUE.index("it has no version 2", () -> x.unitNode(1, 2));
        x.version(0);
        DUE.is("version 1", x.unitNode(0, 1), 3);
        DUE.index("no version 2", () -> x.unitNode(0, 2));
    }

    /** "A version of a unit, or always the latest one." */
    private static void unitNodeFollowsTheLatest() {
        World w = new World();
        World.Unit a = w.unit().typeHole(0);
        int first = a.nodeOf(0);
        for (int version = 1; version < 5; version++) {
            a.version();
            a.typeHole(version);
            DUE.is("the latest one is " + version, w.typeOf(a.node, version), 1);
            DUE.is("version 0 stays", w.typeOf(first, version), 0);
        }
        DUE.is("version 0 stays", w.typeOf(first, 0), 1);
    }

    // ---- promise 11: node

    private static void nodeKinds() {
        World w = new World();
        int u = w.unit().node;
        for (int kind : outside(3)) {
            DUE.argument("kind " + kind, () -> w.x().node(kind, u, u, false));
            DUE.argument("kind " + kind, () -> w.x().node(kind, u, u, true));
        }
        for (int kind = 0; kind < 3; kind++) {
            DUE.is("kind " + kind, w.x().node(kind, u, u, false), 1 + kind);
        }
    }

    /** "A node is made of earlier ones, its parts." */
    private static void nodesOfEarlierOnes() {
        World w = new World();
        DUE.index("none yet", () -> w.link(0, 0));
        w.unit();
        w.unit();
        for (int kind = 0; kind < 3; kind++) {
            int told = kind;
            for (int node : outside(2 + kind)) {
                DUE.index("first " + node, () -> w.x().node(told, node, 0, true));
                DUE.index("second " + node, () -> w.x().node(told, 0, node, true));
            }
            DUE.is("of the first and the last one", w.x().node(kind, 0, 1, true), 2 + kind);
        }
    }

    /** "For LINK it counts for nothing." */
    private static void isGenerativeCountsForNothing() {
        World w = new World();
        int a = w.unit().type(0, w.integer()).node;
        int s = w.unit().typeHole(0).node;
        int link = w.x().node(0, a, s, true);
        int again = w.x().node(0, a, s, false);
        DUE.is("what both are is the same", w.same(w.seal(link, s), 0, w.seal(again, s), 0), true);
        int seal = w.sealAnew(a, s);
        int sealAgain = w.sealAnew(a, s);
        DUE.is("for SEAL it counts", w.same(seal, 0, sealAgain, 0), false);
        DUE.is("for SEAL it counts", w.same(w.seal(a, s), 0, w.seal(a, s), 0), true);
        int f = w.seal(a, s);
        int empty = w.unit().node;
        DUE.is("for APPLY it counts", w.same(w.applyAnew(f, empty), 0, w.applyAnew(f, empty), 0), false);
        DUE.is("for APPLY it counts", w.same(w.apply(f, empty), 0, w.apply(f, empty), 0), true);
    }

    // ---- promises 12 and 13: choose, rename

    private static void chooseOfEarlierOnes() {
        World w = new World();
        DUE.index("none yet", () -> w.choose(0, 0, 0));
        w.unit();
        w.unit();
        for (int node : outside(2)) {
            DUE.index("first " + node, () -> w.choose(node, 0, 0));
            DUE.index("second " + node, () -> w.choose(0, node, 0));
            DUE.index("third " + node, () -> w.choose(0, 0, node));
        }
        DUE.is("of the first and the last one", w.choose(0, 1, 1), 2);
        DUE.is("of all", w.choose(2, 1, 0), 3);
    }

    private static void renameOfEarlierOnes() {
        World w = new World();
        DUE.index("none yet", () -> w.rename(0, 0, 1));
        w.unit();
        for (int node : outside(1)) {
            DUE.index("node " + node, () -> w.rename(node, 0, 1));
            DUE.index("node " + node, () -> w.hide(node, 0));
        }
        DUE.is("RENAME", w.rename(0, 0, 1), 1);
        DUE.index("not of itself", () -> w.hide(2, 0));
        DUE.is("HIDE", w.hide(1, 0), 2);
    }

    private static void renameNames() {
        World w = new World();
        int u = w.unit().hole(0).value(9, w.number(1)).node;
        for (int name : outside(10)) {
            DUE.argument("RENAME of " + name, () -> w.rename(u, name, 1));
            DUE.argument("HIDE of " + name, () -> w.hide(u, name));
        }
        DUE.is("name 0", w.valueOf(w.rename(u, 0, 5), 5), 1);
        DUE.is("name 9", w.valueOf(w.rename(u, 9, 5), 5), 2);
        DUE.is("HIDE of 9", w.valueOf(w.hide(u, 9), 9), 0);
    }

    /** "0 to 9: the other name for RENAME; -1 for HIDE." */
    private static void renameTo() {
        World w = new World();
        int u = w.unit().value(5, w.number(1)).node;
        for (int to : new int[] {-2, 10, MIN, MAX}) {
            DUE.argument("to " + to, () -> w.rename(u, 5, to));
        }
        DUE.is("to 0", w.valueOf(w.rename(u, 5, 0), 0), 2);
        DUE.is("to 9", w.valueOf(w.rename(u, 5, 9), 9), 2);
        int hide = w.rename(u, 5, -1);
        for (int name = 0; name < 10; name++) {
            DUE.is("-1 hides", w.valueOf(hide, name), 0);
        }
    }

    private static void renameBothTheSame() {
        World w = new World();
        int u = w.unit().node;
        for (int name = 0; name < 10; name++) {
            int told = name;
            DUE.argument("both " + name, () -> w.rename(u, told, told));
        }
        DUE.argument("-1 and -1", () -> w.rename(u, -1, -1));
        DUE.argument("10 and 10", () -> w.rename(u, 10, 10));
    }

    // ---- "Its weight is 1 more than theirs together, at most 24."

    /** Nodes 0 to 23, of the weights 1 to 24. */
    private static World weights() {
        World w = new World();
        w.unit().value(0, w.number(1));
        for (int weight = 2; weight <= 24; weight++) {
            DUE.is("weight " + weight, w.rename(weight - 2, weight % 2, 1 - weight % 2), weight - 1);
        }
        return w;
    }

    private static void weightOfLink() {
        World w = weights();
        DUE.is("22 and 1 are 24", w.link(21, 0), 24);
        DUE.is("1 and 22 are 24", w.link(0, 21), 25);
        DUE.is("11 and 12 are 24", w.link(10, 11), 26);
        DUE.state("23 and 1 are 25", () -> w.link(22, 0));
        DUE.state("1 and 23 are 25", () -> w.link(0, 22));
        DUE.state("12 and 12 are 25", () -> w.link(11, 11));
        DUE.state("24 and 24 are 49", () -> w.link(23, 23));
    }

    private static void weightOfSeal() {
        World w = weights();
        DUE.is("22 and 1 are 24", w.seal(21, 0), 24);
        DUE.is("1 and 22 are 24", w.sealAnew(0, 21), 25);
        DUE.state("23 and 1 are 25", () -> w.seal(22, 0));
        DUE.state("1 and 23 are 25", () -> w.sealAnew(0, 22));
    }

    private static void weightOfApply() {
        World w = weights();
        DUE.is("22 and 1 are 24", w.apply(21, 0), 24);
        DUE.is("1 and 22 are 24", w.applyAnew(0, 21), 25);
        DUE.state("23 and 1 are 25", () -> w.apply(22, 0));
        DUE.state("1 and 23 are 25", () -> w.applyAnew(0, 22));
    }

    private static void weightOfChoose() {
        World w = weights();
        DUE.is("21, 1 and 1 are 24", w.choose(20, 0, 0), 24);
        DUE.is("1, 21 and 1 are 24", w.choose(0, 20, 0), 25);
        DUE.is("1, 1 and 21 are 24", w.choose(0, 0, 20), 26);
        DUE.is("7, 8 and 8 are 24", w.choose(6, 7, 7), 27);
        DUE.state("22, 1 and 1 are 25", () -> w.choose(21, 0, 0));
        DUE.state("1, 22 and 1 are 25", () -> w.choose(0, 21, 0));
        DUE.state("1, 1 and 22 are 25", () -> w.choose(0, 0, 21));
        DUE.state("8, 8 and 8 are 25", () -> w.choose(7, 7, 7));
    }

    private static void weightOfRename() {
        World w = weights();
        DUE.is("RENAME, 23 and 1 are 24", w.rename(22, 0, 5), 24);
        DUE.is("HIDE, 23 and 1 are 24", w.hide(22, 0), 25);
        DUE.state("RENAME, 24 and 1 are 25", () -> w.rename(23, 0, 5));
        DUE.state("HIDE, 24 and 1 are 25", () -> w.hide(23, 0));
    }

    private static void weightCountsEachUse() {
        World w = new World();
        int one = w.unit().node;
        int three = w.link(one, one);
        int seven = w.link(three, three);
        int fifteen = w.link(seven, seven);
        DUE.state("15 and 15 are 31, though of one unit", () -> w.link(fifteen, fifteen));
        DUE.is("15 and 7 are 23", w.link(fifteen, seven), 4);
        DUE.state("23 and 1 are 25", () -> w.link(4, one));
        DUE.is("23 is 24", w.hide(4, 0), 5);
    }

    // ---- "Nodes are numbered from 0 as they are made, at most 40."

    private static void fortyNodes() {
        World w = new World();
        w.unit();
        w.unit();
        for (int i = 2; i < 40; i++) {
            int told = i;
            DUE.index("there is none yet", () -> w.error(told));
            int made = i % 6 == 0 ? w.link(0, 1) : i % 6 == 1 ? w.seal(0, 1) : i % 6 == 2 ? w.apply(0, 1)
                : i % 6 == 3 ? w.choose(0, 1, 0) : i % 6 == 4 ? w.rename(0, 1, 2) : w.hide(0, 1);
            DUE.is("node " + i, made, i);
        }
        refusesMore(w);
        DUE.is("the 40th is a SEAL", w.error(37), 0);
        DUE.is("the 40th is a CHOOSE", w.error(39), 500);
    }

    private static void refusesMore(World w) {
        DUE.state("a 41st UNIT", () -> w.x().unitNode(0, 0));
        DUE.state("a 41st UNIT, always the latest", () -> w.x().unitNode(0, -1));
        DUE.state("a 41st LINK", () -> w.link(0, 0));
        DUE.state("a 41st SEAL", () -> w.seal(0, 0));
        DUE.state("a 41st APPLY", () -> w.apply(0, 0));
        DUE.state("a 41st CHOOSE", () -> w.choose(0, 0, 0));
        DUE.state("a 41st RENAME", () -> w.rename(0, 0, 1));
        DUE.state("a 41st HIDE", () -> w.hide(0, 0));
        DUE.index("there is no 41st", () -> w.error(40));
        DUE.index("there is no 41st", () -> w.link(40, 0));
        DUE.index("there is no 41st", () -> w.choose(0, 40, 0));
        DUE.index("there is no 41st", () -> w.hide(40, 0));
    }

    private static void fortyNodesOfEachKind() {
        for (int kind = 0; kind < 7; kind++) {
            World w = new World();
            World.Unit a = w.unit().value(0, w.number(5));
            for (int i = 1; i < 39; i++) {
                a.nodeOf(0);
            }
            int last = kind == 0 ? w.link(0, 0) : kind == 1 ? w.seal(0, 0) : kind == 2 ? w.apply(0, 0)
                : kind == 3 ? w.choose(0, 0, 0) : kind == 4 ? w.rename(0, 0, 1) : kind == 5 ? w.hide(0, 0) : a.nodeOf(0);
            DUE.is("the 40th, of kind " + kind, last, 39);
            refusesMore(w);
            DUE.is("it has its face, of kind " + kind, w.error(39), new int[] {400, 0, 400, 0, 0, 0, 0}[kind]);
            DUE.is("it can be built", w.build(39), kind == 6 ? 1 : 2);
        }
    }

    /** A node of the weight 24 has its face, runs, and is compiled. */
    private static void heavyNodesWork() {
        World w = new World();
        int sum = w.unit().hole(0).value(1, w.add(w.ref(0), w.number(1))).node;
        int n = w.rename(w.unit().value(0, w.number(5)).node, 0, 9);
        // Each round weighs 5: a unit and four nodes around it.
        for (int round = 0; round < 4; round++) {
            n = w.rename(w.link(w.rename(n, 9, 0), sum), 0, 2 + round);
            n = w.rename(n, 1, 9);
        }
        int last = w.hide(w.hide(n, 2), 3);
        DUE.state("it is of the weight 24", () -> w.hide(last, 9));
        DUE.is("no error", w.error(last), 0);
        DUE.is("it runs", w.run(last), 0);
        DUE.is("each round adds 1", w.result(9), 9);
        DUE.is("cells", w.x().total(), 5);
        DUE.is("compiled", w.build(last), 3 + 4 * 4 + 2);
    }
}
