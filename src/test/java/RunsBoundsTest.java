/**
 * Each sentence of "Running" in the document, and of promises 19 to 24, that names a boundary: nothing there at all
 * and full, what is reached and what is not, what goes round, and which of two answers a run gives.
 */
public final class RunsBoundsTest {
    private static final Due DUE = new Due("RunsBoundsTest");
    private static final int MIN = Integer.MIN_VALUE;
    private static final int MAX = Integer.MAX_VALUE;

    public static void main(String[] args) {
        runOfWhatThereIs();
        nothingRan();
        nothingRanYet();
        resultNames();
        resultWithout();
        resultPlaces();
        logPlaces();
        aRunThatFailsLeavesTheLatest();
        asTheFaceShowedIt();
        theLatestRunThatRan();
        definitionsThatAreNoGhostsAreCells();
        eachUseIsAnInstance();
        refsInTheInstance();
        holesAreFilled();
        holesAreFilledInRings();
        manyHolesAreFilledByOne();
        namesAreThoseThatRenamesGive();
        sealEndsFilling();
        sealShowsByEachName();
        hideEndsFilling();
        applyEndsFilling();
        applyFillsBothWays();
        chooseByZeroOrNot();
        theThirdPartCountsForNothing();
        thirdPartsRunWhileHolesAreOpen();
        theOtherPartIsNotRun();
        signaturesAreNotRun();
        runIs8();
        runIs8ByEachName();
        runIs9ByRingsOfEachLength();
        runIs9WhateverIsReached();
        runIs9ThroughUnits();
        lazyCellsEndRings();
        runIs10First();
        thirdPartsComeAheadOf8();
        thirdPartsInTheirOrder();
        thirdPartsIn11();
        thirdPartsOfThirdParts();
        eightComesAheadOf9();
        orderOfCells();
        orderByRefs();
        orderByParts();
        whatTheFaceShowsIsReached();
        effectsAreReached();
        refsReach();
        allAreDropped();
        lazyCellsAtTheEnd();
        lazyCellsAskedFor();
        lazyEffectsThatNobodyAsksFor();
        ownValueByLazyOnes();
        ownValueOfAllInTheRing();
        ownValueNotAskedFor();
        withoutByNeed();
        whenAsksForOne();
        halvesAskForAll();
        addAsksBothOfPairs();
        addsGoRound();
        whenOfWhatWentRound();
        logOfNumbers();
        logOfPairs();
        numbersFromLeftToRight();
        valueOfTheFirstCell();
        sixtyCells();
        aLongRow();
        DUE.end();
    }

    private static int[] outside(int most) {
        return new int[] {-1, most, MIN, MAX};
    }

    private static void logs(String what, World w, int... due) {
        DUE.is(what + ", entries", w.x().logged(), due.length);
        for (int i = 0; i < due.length; i++) {
            DUE.is(what + ", entry " + i, w.x().log(i), due[i]);
        }
        for (int place : outside(due.length)) {
            DUE.index(what + ", entry " + place, () -> w.x().log(place));
        }
    }

    private static void cells(String what, World w, int total, int dropped) {
        DUE.is(what + ", total", w.x().total(), total);
        DUE.is(what + ", dropped", w.x().dropped(), dropped);
    }

    private static void without(String what, World w, int... names) {
        for (int name : names) {
            DUE.state(what + ", " + name, () -> w.result(name));
        }
    }

    // ---- promises 19 to 24: what is asked, and what is thrown

    private static void runOfWhatThereIs() {
        World w = new World();
        for (int node : outside(0)) {
            DUE.index("no node yet: " + node, () -> w.run(node));
        }
        w.unit();
        for (int node : outside(1)) {
            DUE.index("node " + node, () -> w.run(node));
        }
        DUE.is("the last one", w.run(0), 0);
    }

    private static void nothing(String what, World w) {
        for (int name = 0; name < 10; name++) {
            without(what, w, name);
        }
        for (int place : new int[] {-1, 0, 1, MIN, MAX}) {
            DUE.state(what + ": no component comes ahead of no place", () -> w.result(0, place));
        }
        logs(what, w);
        cells(what, w, 0, 0);
    }

    private static void nothingRan() {
        nothing("nothing ran", new World());
    }

    private static void nothingRanYet() {
        World w = new World();
        World.Unit a = w.unit().effect(0, w.ref(0)).effect(1, w.number(1));
        DUE.is("a ring", w.run(a.node), 9);
        nothing("a run was 9", w);
        a.effect(0, w.ref(2)).hole(2);
        DUE.is("a REF to no cell", w.run(a.node), 8);
        nothing("a run was 8", w);
        a.remove(2);
        DUE.is("an error", w.run(a.node), 10);
        nothing("a run was 10", w);
        World.Unit t = w.unit().lazy(0, w.ref(0)).effect(1, w.number(1));
        int empty = w.unit().node;
        DUE.is("no value", w.run(w.choose(empty, empty, t.node)), 11);
        nothing("a run was 11, though the third part ran", w);
        DUE.is("an empty one runs", w.run(empty), 0);
        nothing("nothing is in it", w);
    }

    private static void resultNames() {
        World w = new World();
        World.Unit a = w.unit();
        for (int name : outside(10)) {
            DUE.argument("name " + name + ", nothing ran", () -> w.result(name, 0));
        }
        for (int name = 0; name < 10; name++) {
            a.value(name, w.number(100 + name));
        }
        w.run(a.node);
        for (int name : outside(10)) {
            DUE.argument("name " + name, () -> w.result(name, 0));
            DUE.argument("name " + name + " ahead of no place", () -> w.result(name, -1));
        }
        for (int name = 0; name < 10; name++) {
            DUE.is("name " + name, w.result(name), 100 + name);
        }
    }

    /** "Or there is no such component, it is a hole or a ghost, or it has no value." */
    private static void resultWithout() {
        World w = new World();
        World.Unit a = w.unit().lazy(5, w.ref(5));
        for (int way : World.WAYS) {
            for (int name : new int[] {0, 9}) {
                a.in(way, name);
                DUE.is(World.WORDS[way], w.run(a.node), 0);
                if (way == World.DEFINED) {
                    DUE.is(World.WORDS[way], w.result(name), 7);
                } else {
                    without(World.WORDS[way], w, name);
                    DUE.state(World.WORDS[way] + " ahead of no place", () -> w.result(name, -1));
                }
            }
        }
        without("no value", w, 5);
        DUE.state("no value ahead of no place", () -> w.result(5, 9));
    }

    private static void resultPlaces() {
        World w = new World();
        int five = w.pairOf(w.pairOf(w.pairOfIntegers(), w.integer()), w.integer());
        World.Unit a = w.unit().value(0, w.number(4)).value(1, w.pairOfIntegers(), w.pair(w.number(5), w.number(6)))
            .value(2, five, w.pair(w.pair(w.pair(w.number(7), w.number(8)), w.number(9)), w.number(10)));
        w.run(a.node);
        for (int name = 0; name < 3; name++) {
            int count = new int[] {1, 2, 4}[name];
            int first = new int[] {4, 5, 7}[name];
            for (int place = 0; place < count; place++) {
                DUE.is("value " + name + " at " + place, w.result(name, place), first + place);
            }
            int told = name;
            for (int place : outside(count)) {
                DUE.index("value " + name + " at " + place, () -> w.result(told, place));
            }
        }
    }

    private static void logPlaces() {
        World w = new World();
        World.Unit a = w.unit();
        w.run(a.node);
        logs("none", w);
        a.effect(0, w.number(3));
        w.run(a.node);
        logs("one", w, 3);
        a.effect(1, w.number(4));
        w.run(a.node);
        logs("two", w, 3, 4);
    }

    // ---- "the latest run that ran"

    private static void aRunThatFailsLeavesTheLatest() {
        World w = new World();
        World.Unit a = w.unit().effect(0, w.number(1)).value(1, w.number(2)).lazy(2, w.number(3));
        World.Unit b = w.unit().effect(0, w.number(5)).effect(1, w.number(6)).effect(2, w.number(7))
            .effect(3, w.number(8));
        int hidden = w.hide(a.node, 1);
        DUE.is("it runs", w.run(hidden), 0);
        int empty = w.unit().node;
        World.Unit t = w.unit().lazy(0, w.ref(0)).effect(1, w.number(9));
        int choice = w.choose(empty, empty, t.node);
        int both = w.link(b.node, choice);
        for (int way = 8; way < 12; way++) {
            b.remove(9).value(4, way == 9 ? w.ref(4) : way == 10 ? w.ref(8) : way == 8 ? w.ref(9) : w.number(1));
            if (way == 8) {
                b.hole(9);
            }
            DUE.is("run " + way, w.run(way == 11 ? both : b.node), way);
            DUE.is("its value", w.result(0), 1);
            DUE.is("its value", w.result(2), 3);
            without("not shown", w, 1, 3, 4);
            logs("its log", w, 1);
            cells("its cells", w, 3, 1);
        }
        DUE.index("no such node", () -> w.run(99));
        DUE.is("its value", w.result(0), 1);
    }

    private static void asTheFaceShowedIt() {
        World w = new World();
        World.Unit a = w.unit().value(0, w.number(1)).hole(1).value(2, w.pairOfIntegers(), w.pair(w.number(3),
            w.number(4)));
        w.run(a.node);
        a.ghost(0, w.number(5)).value(1, w.number(6)).remove(2);
        DUE.is("a number, a ghost now", w.result(0), 1);
        without("a hole, a number now", w, 1);
        DUE.is("a pair, gone now", w.result(2, 1), 4);
        a.version();
        w.build(a.node);
        DUE.is("as it was", w.result(0), 1);
        w.run(a.node);
        without("a ghost", w, 0);
        DUE.is("a number", w.result(1), 6);
        without("gone", w, 2);
    }

    private static void theLatestRunThatRan() {
        World w = new World();
        World.Unit a = w.unit().effect(0, w.number(1)).effect(1, w.number(2));
        World.Unit b = w.unit().effect(5, w.number(3));
        w.run(a.node);
        logs("the first one", w, 1, 2);
        w.run(b.node);
        logs("the second one", w, 3);
        without("the first one's", w, 0, 1);
        DUE.is("the second one's", w.result(5), 3);
        cells("the second one", w, 1, 0);
        w.run(a.node);
        logs("the third one", w, 1, 2);
        cells("the third one", w, 2, 0);
        without("the second one's", w, 5);
        w.run(w.unit().node);
        nothing("an empty one", w);
    }

    // ---- cells and REFs

    private static void definitionsThatAreNoGhostsAreCells() {
        for (int name = 0; name < 10; name++) {
            World w = new World();
            World.Unit a = w.unit();
            for (int way : World.WAYS) {
                a.in(way, name);
                w.run(a.node);
                cells(World.WORDS[way] + " by " + name, w, way == World.DEFINED ? 1 : 0, 0);
            }
            for (int flags = 0; flags < 8; flags++) {
                a.set(name, w.integer(), w.number(3), flags);
                w.run(a.node);
                cells("flags " + flags + " by " + name, w, flags < 4 ? 1 : 0, 0);
            }
        }
    }

    /** "Each use of a node is an instance by itself." */
    private static void eachUseIsAnInstance() {
        World w = new World();
        World.Unit a = w.unit().hole(0).effect(1, w.add(w.ref(0), w.number(1)));
        int one = w.hide(w.link(a.node, w.unit().effect(0, w.number(10)).node), 0);
        int two = w.rename(w.hide(w.link(a.node, w.unit().effect(0, w.number(20)).node), 0), 1, 2);
        int both = w.link(one, two);
        DUE.is("runs", w.run(both), 0);
        DUE.is("one", w.result(1), 11);
        DUE.is("the other one", w.result(2), 21);
        logs("each by itself", w, 10, 11, 20, 21);
        World.Unit number = w.unit().effect(3, w.number(7));
        int f = w.unit().node;
        int hidden = w.apply(f, number.node);
        DUE.is("the same node many times", w.run(w.link(w.link(hidden, hidden), w.link(hidden, number.node))), 0);
        logs("four instances", w, 7, 7, 7, 7);
        cells("four instances", w, 4, 0);
    }

    private static void refsInTheInstance() {
        for (int name = 0; name < 10; name++) {
            World w = new World();
            int to = (name + 3) % 10;
            World.Unit a = w.unit().value(name, w.add(w.ref(to), w.number(1))).value(to, w.number(40));
            DUE.is("runs", w.run(a.node), 0);
            DUE.is("REF to " + to + " by " + name, w.result(name), 41);
        }
    }

    private static void holesAreFilled() {
        for (int name = 0; name < 10; name++) {
            World w = new World();
            int by = (name + 1) % 10;
            World.Unit a = w.unit().hole(name).value(by, w.add(w.ref(name), w.number(1)));
            World.Unit b = w.unit().value(name, w.number(30));
            DUE.is("by the second part", w.run(w.link(a.node, b.node)), 0);
            DUE.is("by the second part", w.result(by), 31);
            DUE.is("shown", w.result(name), 30);
            cells("two", w, 2, 0);
            DUE.is("by the first part", w.run(w.link(b.node, a.node)), 0);
            DUE.is("by the first part", w.result(by), 31);
            DUE.is("shown", w.result(name), 30);
            DUE.is("by the argument", w.run(w.apply(a.node, b.node)), 0);
            DUE.is("by the argument", w.result(by), 31);
            DUE.is("shown", w.result(name), 30);
        }
    }

    /** "Linked by names, also in rings." */
    private static void holesAreFilledInRings() {
        World w = new World();
        World.Unit a = w.unit().hole(0).value(1, w.add(w.ref(0), w.number(1))).value(2, w.number(5));
        World.Unit b = w.unit().hole(2).value(0, w.add(w.ref(2), w.number(10))).hole(1)
            .value(3, w.add(w.ref(1), w.number(100)));
        for (int turn = 0; turn < 2; turn++) {
            DUE.is("runs", w.run(turn == 0 ? w.link(a.node, b.node) : w.link(b.node, a.node)), 0);
            DUE.is("2", w.result(2), 5);
            DUE.is("0 asks 2", w.result(0), 15);
            DUE.is("1 asks 0", w.result(1), 16);
            DUE.is("3 asks 1", w.result(3), 116);
        }
    }

    /** "Two holes are filled by the same one." */
    private static void manyHolesAreFilledByOne() {
        for (int at = 0; at < 6; at++) {
            World w = new World();
            int[] nodes = new int[6];
            for (int i = 0; i < 6; i++) {
                nodes[i] = (i == at ? w.unit().value(0, w.number(50)) : w.unit().hole(0)
                    .value(1 + i, w.add(w.ref(0), w.number(i)))).node;
            }
            int row = nodes[0];
            for (int i = 1; i < 6; i++) {
                row = w.link(row, nodes[i]);
            }
            int tree = w.link(w.link(nodes[0], w.link(nodes[1], nodes[2])), w.link(nodes[3], w.link(nodes[4], nodes[5])));
            for (int node : new int[] {row, tree}) {
                DUE.is("runs, filled by " + at, w.run(node), 0);
                DUE.is("the definition", w.result(0), 50);
                for (int i = 0; i < 6; i++) {
                    if (i != at) {
                        DUE.is("hole " + i + " by " + at, w.result(1 + i), 50 + i);
                    }
                }
                cells("six", w, 6, 0);
            }
        }
    }

    private static void namesAreThoseThatRenamesGive() {
        World w = new World();
        World.Unit a = w.unit().hole(0).value(1, w.add(w.ref(0), w.ref(9))).value(9, w.number(1));
        World.Unit b = w.unit().value(4, w.number(20)).value(0, w.number(30));
        int n = w.link(w.rename(a.node, 0, 4), w.hide(b.node, 0));
        DUE.is("a hole that is renamed", w.run(n), 0);
        DUE.is("by the other one's 4", w.result(1), 21);
        int m = w.link(w.rename(a.node, 0, 4), w.rename(w.rename(b.node, 4, 5), 0, 4));
        DUE.is("a definition that is renamed", w.run(m), 0);
        DUE.is("by what is 4 now", w.result(1), 31);
        DUE.is("it has no other name", w.result(4), 30);
        without("the old name", w, 0);
        DUE.is("a REF is by the name in its unit", w.run(w.link(w.rename(w.rename(a.node, 9, 8), 0, 9),
            w.unit().value(9, w.number(100)).node)), 0);
        DUE.is("its own 9, and 0 by the name 9", w.result(1), 101);
    }

    // ---- "What a SEAL, HIDE or APPLY does not show is not filled any more by what is around it."

    private static void sealEndsFilling() {
        World w = new World();
        World.Unit a = w.unit().hole(0).lazy(1, w.ref(0)).value(2, w.number(6));
        World.Unit s = w.unit().hole(2);
        World.Unit b = w.unit().value(0, w.number(5));
        int n = w.link(w.seal(a.node, s.node), b.node);
        DUE.is("a hole that is not shown", w.run(n), 8);
        s.hole(0);
        DUE.is("a hole that is shown", w.run(n), 0);
        s.hole(1);
        DUE.is("a value that is shown", w.run(n), 0);
        DUE.is("filled", w.result(1), 5);
        DUE.is("a definition that is not shown fills no hole", w.run(w.link(w.seal(b.node, w.unit().node),
            w.unit().hole(0).lazy(7, w.ref(0)).node)), 8);
    }

    private static void sealShowsByEachName() {
        for (int name = 0; name < 10; name++) {
            World w = new World();
            int by = (name + 5) % 10;
            World.Unit a = w.unit().hole(name).value(by, w.ref(name));
            World.Unit s = w.unit().hole(by);
            World.Unit b = w.unit().value(name, w.number(5));
            int n = w.link(w.seal(a.node, s.node), b.node);
            DUE.is("not shown: " + name, w.run(n), 8);
            s.hole(name);
            DUE.is("shown: " + name, w.run(n), 0);
            DUE.is("filled: " + name, w.result(by), 5);
        }
    }

    private static void hideEndsFilling() {
        for (int name = 0; name < 10; name++) {
            World w = new World();
            int by = (name + 5) % 10;
            World.Unit a = w.unit().value(name, w.number(1)).value(by, w.ref(name));
            World.Unit b = w.unit().value(name, w.number(2));
            int c = w.unit().hole(name).node;
            DUE.is("another one by the name", w.run(w.link(w.hide(a.node, name), b.node)), 0);
            DUE.is("the REF is to its own", w.result(by), 1);
            DUE.is("the face shows the other one", w.result(name), 2);
            DUE.is("a hole", w.run(w.link(w.hide(a.node, name), c)), 0);
            without("a hole is not filled by it", w, name);
        }
    }

    private static void applyEndsFilling() {
        World w = new World();
        World.Unit f = w.unit().hole(0).value(1, w.ref(0));
        World.Unit a = w.unit().value(0, w.number(3)).hole(5).value(6, w.number(4));
        int n = w.apply(f.node, a.node);
        DUE.is("a hole of the argument that nobody needs", w.run(n), 0);
        cells("the argument's 6 is dropped", w, 3, 1);
        a.value(0, w.ref(5));
        World.Unit b = w.unit().value(5, w.number(8)).hole(6).lazy(7, w.ref(6));
        DUE.is("a hole of the argument that is not shown", w.run(w.link(n, b.node)), 8);
        a.value(0, w.number(3));
        DUE.is("a definition of the argument that is not shown", w.run(w.link(n, b.node)), 8);
        b.lazy(7, w.ref(5));
        DUE.is("without", w.run(w.link(n, b.node)), 0);
    }

    /** "A hole of one part of a LINK or APPLY by the definition of the same name of the other part." */
    private static void applyFillsBothWays() {
        World w = new World();
        World.Unit f = w.unit().hole(0).value(1, w.add(w.ref(0), w.number(1))).value(2, w.number(10));
        World.Unit a = w.unit().hole(2).value(0, w.add(w.ref(2), w.number(5))).hole(1).effect(7, w.ref(1));
        DUE.is("runs", w.run(w.apply(f.node, a.node)), 0);
        DUE.is("the argument's 0 asks the functor's 2", w.result(0), 15);
        DUE.is("the functor's 1 asks the argument's 0", w.result(1), 16);
        logs("the argument's 7 asks the functor's 1", w, 16);
        without("7 is not shown", w, 7);
    }

    // ---- CHOOSE

    /** "The cells are those of the first part, if its value name 0 is not 0, otherwise those of the second one." */
    private static void chooseByZeroOrNot() {
        World w = new World();
        World.Unit a = w.unit().value(0, w.number(100));
        World.Unit b = w.unit().value(0, w.number(200));
        World.Unit t = w.unit();
        int n = w.choose(a.node, b.node, t.node);
        for (int number : new int[] {0, 1, -1, 2, MIN, MAX}) {
            t.value(0, w.number(number));
            DUE.is("by " + number, w.run(n), 0);
            DUE.is("by " + number, w.result(0), number == 0 ? 200 : 100);
        }
        t.value(0, w.add(w.number(MAX), w.number(MIN)));
        w.run(n);
        DUE.is("MAX and MIN are -1", w.result(0), 100);
        t.value(0, w.add(w.number(MIN), w.number(MIN)));
        w.run(n);
        DUE.is("MIN and MIN go round to 0", w.result(0), 200);
        for (int flags = 0; flags < 4; flags++) {
            t.set(0, w.integer(), w.number(0), flags);
            w.run(n);
            DUE.is("flags " + flags, w.result(0), 200);
        }
    }

    /** "With cells and a log that count for nothing else." */
    private static void theThirdPartCountsForNothing() {
        World w = new World();
        World.Unit a = w.unit().effect(1, w.number(5));
        World.Unit t = w.unit().effect(0, w.number(1)).effect(1, w.number(2)).value(2, w.number(3)).hole(3);
        t.ghostHole(3);
        int n = w.choose(a.node, a.node, t.node);
        DUE.is("runs", w.run(n), 0);
        logs("the part's alone", w, 5);
        cells("the part's alone", w, 1, 0);
        World.Unit b = w.unit().effect(2, w.number(6));
        DUE.is("between others", w.run(w.link(w.hide(w.link(b.node, n), 1), w.rename(n, 1, 3))), 0);
        logs("between others", w, 6, 5, 5);
        cells("between others", w, 3, 0);
    }

    /** "The third part is run first, by itself": what stands ahead of it, and is not linked yet, counts for nothing. */
    private static void thirdPartsRunWhileHolesAreOpen() {
        for (int name = 0; name < 10; name++) {
            World w = new World();
            int hole = (name + 1) % 10;
            World.Unit a = w.unit().hole(hole).effect(name, w.add(w.ref(hole), w.number(1)));
            World.Unit b = w.unit().effect(hole, w.number(5));
            World.Unit t = w.unit().effect(0, w.ref(1)).value(1, w.number(3));
            int choice = w.choose(b.node, b.node, t.node);
            int first = w.link(a.node, choice);
            int last = w.link(choice, a.node);
            for (int turn = 0; turn < 3; turn++) {
                DUE.is("open by itself", w.run(a.node), 8);
                DUE.is("ahead of it", w.run(first), 0);
                logs("ahead of it", w, 5, 6);
                cells("ahead of it", w, 2, 0);
                DUE.is("behind it", w.run(last), 0);
                logs("behind it", w, 5, 6);
            }
            a.lazyEffect(name, w.ref(hole));
            DUE.is("lazy", w.run(w.hide(first, name)), 0);
            logs("not asked for", w, 5);
            b.effect(hole, w.ref(name)).hole(name);
            DUE.is("a hole in a part", w.run(first), 10);
            World.Unit c = w.unit().hole(name).value(hole, w.ref(name));
            a.value(name, w.ref(hole));
            int deep = w.link(w.link(a.node, c.node), w.choose(t.node, t.node, t.node));
            DUE.is("a ring ahead of it", w.run(deep), name < 2 || hole < 2 ? 10 : 9);
            t.lazy(0, w.ref(0));
            DUE.is("11 ahead of that", w.run(deep), name < 2 || hole < 2 ? 10 : 11);
        }
    }

    /** "The other part has no cells, and nothing of it is run." */
    private static void theOtherPartIsNotRun() {
        World w = new World();
        World.Unit fine = w.unit().effect(0, w.number(1));
        World.Unit wrong = w.unit().effect(0, w.ref(0)).value(1, w.number(1));
        World.Unit t = w.unit().value(0, w.number(1));
        World.Unit v = w.unit().value(0, w.number(0));
        int rest = w.hide(wrong.node, 1);
        DUE.is("not the second one", w.run(w.choose(fine.node, rest, t.node)), 0);
        logs("the first one", w, 1);
        cells("the first one", w, 1, 0);
        DUE.is("not the first one", w.run(w.choose(rest, fine.node, v.node)), 0);
        logs("the second one", w, 1);
        DUE.is("the one that is taken is run", w.run(w.choose(rest, fine.node, t.node)), 9);
        DUE.is("the one that is taken is run", w.run(w.choose(fine.node, rest, v.node)), 9);
        int failing = w.choose(fine.node, fine.node, wrong.node);
        DUE.is("a third part in it", w.run(failing), 9);
        DUE.is("is not run", w.run(w.choose(fine.node, failing, t.node)), 0);
        DUE.is("is not run", w.run(w.choose(failing, fine.node, v.node)), 0);
        DUE.is("is run", w.run(w.choose(failing, fine.node, t.node)), 9);
    }

    /** "Nor has a signature, and nothing of that is run." */
    private static void signaturesAreNotRun() {
        World w = new World();
        World.Unit a = w.unit().effect(0, w.number(1));
        World.Unit wrong = w.unit().effect(0, w.ref(0));
        int n = w.seal(a.node, wrong.node);
        DUE.is("a ring in it", w.run(n), 0);
        logs("the first part's", w, 1);
        cells("the first part's", w, 1, 0);
        wrong.hole(0).effect(1, w.ref(0));
        a.effect(1, w.number(2));
        DUE.is("an open REF in it", w.run(n), 0);
        logs("the first part's", w, 1, 2);
        wrong.lazy(0, w.ref(0)).remove(1);
        int choice = w.choose(a.nodeOf(0), a.nodeOf(0), wrong.node);
        DUE.is("a third part without a value", w.run(choice), 11);
        DUE.is("in a signature", w.run(w.seal(a.node, choice)), 0);
        DUE.is("in the first part", w.run(w.seal(choice, a.node)), 11);
    }

    // ---- what a run is

    /** "Else 8, if some REF in a cell is to no cell." */
    private static void runIs8() {
        World w = new World();
        World.Unit a = w.unit().hole(0);
        int ref = w.ref(0);
        int[] expressions = {ref, w.add(ref, w.number(1)), w.add(w.number(1), ref), w.first(w.pair(w.number(1), ref)),
            w.second(w.pair(ref, w.number(1))), w.when(ref, w.number(1), w.number(1)),
            w.when(w.number(0), ref, w.number(1)), w.when(w.number(1), w.number(1), ref)};
        for (int expression : expressions) {
            for (int flags = 0; flags < 4; flags++) {
                a.set(1, w.integer(), expression, flags);
                DUE.is("flags " + flags, w.run(a.node), 8);
            }
            a.ghost(1, expression);
            DUE.is("a ghost is no cell", w.run(a.node), 0);
        }
        a.value(1, ref);
        DUE.is("hidden, not reached", w.run(w.hide(a.node, 1)), 8);
        a.value(1, w.number(1));
        DUE.is("a hole that nobody needs", w.run(a.node), 0);
        World.Unit s = w.unit().hole(1);
        s.ghostHole(0);
        World.Unit b = w.unit().ghost(0, w.number(3));
        int n = w.link(w.seal(a.node, s.node), b.node);
        DUE.is("a hole that nobody needs, filled by a ghost", w.run(n), 0);
        a.value(1, ref);
        DUE.is("a ghost is no cell", w.run(n), 8);
        b.value(0, w.number(3));
        DUE.is("a cell", w.run(n), 0);
    }

    private static void runIs8ByEachName() {
        for (int name = 0; name < 10; name++) {
            World w = new World();
            World.Unit a = w.unit();
            for (int to = 0; to < 10; to++) {
                if (to != name) {
                    a.hole(to).value(name, w.ref(to));
                    DUE.is(name + " asks " + to, w.run(a.node), 8);
                    a.value(to, w.number(1));
                    DUE.is(name + " asks " + to, w.run(a.node), 0);
                    a.remove(to);
                }
            }
        }
    }

    /** "Else the run is 9, if there is a ring of REFs through cells none of which is lazy." */
    private static void runIs9ByRingsOfEachLength() {
        for (int low = 0; low < 10; low++) {
            for (int high = low; high < 10; high++) {
                World w = new World();
                World.Unit a = w.unit();
                for (int name = low; name < high; name++) {
                    a.value(name, w.ref(name + 1));
                }
                a.value(high, w.ref(low));
                DUE.is("a ring from " + low + " to " + high, w.run(a.node), 9);
                a.value(high, w.number(6));
                DUE.is("no ring", w.run(a.node), 0);
                DUE.is("no ring from " + low + " to " + high, w.result(low), 6);
            }
        }
    }

    private static void runIs9WhateverIsReached() {
        World w = new World();
        World.Unit a = w.unit().value(0, w.number(1));
        int ref = w.ref(3);
        int[] expressions = {ref, w.add(w.number(1), ref), w.when(w.number(1), w.number(1), ref),
            w.when(w.number(0), ref, w.number(1)), w.first(w.pair(w.number(1), ref))};
        int n = w.hide(w.hide(a.node, 2), 3);
        for (int expression : expressions) {
            a.value(2, expression).value(3, w.ref(2));
            DUE.is("a ring that is not reached", w.run(n), 9);
            a.value(3, w.number(2));
            DUE.is("no ring", w.run(n), 0);
        }
        a.effect(3, w.ref(3));
        DUE.is("a ring of an effect", w.run(n), 9);
        a.value(3, w.number(1)).value(5, w.add(w.ref(6), w.ref(7))).value(6, w.ref(8)).value(7, w.ref(8))
            .value(8, w.number(1));
        DUE.is("two ways to one are no ring", w.run(n), 0);
    }

    private static void runIs9ThroughUnits() {
        World w = new World();
        int[] nodes = new int[5];
        World.Unit last = null;
        for (int i = 0; i < 5; i++) {
            last = w.unit().hole((i + 4) % 5).value(i, w.ref((i + 4) % 5));
            nodes[i] = last.node;
        }
        int n = w.link(w.link(nodes[0], nodes[3]), w.link(w.link(nodes[4], nodes[1]), nodes[2]));
        DUE.is("a ring through five units", w.run(n), 9);
        last.lazy(4, w.ref(3));
        DUE.is("one is lazy", w.run(n), 0);
        without("but each needs its own value", w, 0, 1, 2, 3, 4);
        last.value(4, w.number(7));
        DUE.is("no ring", w.run(n), 0);
        DUE.is("no ring", w.result(3), 7);
    }

    private static void lazyCellsEndRings() {
        for (int lazy = 0; lazy < 10; lazy++) {
            World w = new World();
            World.Unit a = w.unit();
            for (int name = 0; name < 10; name++) {
                a.value(name, w.ref((name + 1) % 10));
            }
            DUE.is("none is lazy", w.run(a.node), 9);
            a.lazy(lazy, w.ref((lazy + 1) % 10));
            DUE.is(lazy + " is lazy", w.run(a.node), 0);
            without("none has a value", w, 0, 1, 2, 3, 4, 5, 6, 7, 8, 9);
            a.value((lazy + 4) % 10, w.ref((lazy + 4) % 10));
            DUE.is("another ring is left", w.run(a.node), 9);
        }
    }

    private static void runIs10First() {
        World w = new World();
        World.Unit a = w.unit().value(0, w.ref(0)).hole(1).value(2, w.ref(1)).value(3, w.ref(4));
        DUE.is("10 ahead of 8 and 9", w.run(a.node), 10);
        World.Unit t = w.unit().lazy(0, w.ref(0));
        int n = w.choose(a.node, a.node, t.node);
        DUE.is("10 ahead of 11", w.run(n), 10);
        a.remove(3);
        DUE.is("8", w.run(a.node), 8);
        DUE.is("a hole in a part is an error", w.run(n), 10);
        a.remove(1).remove(2);
        DUE.is("11", w.run(n), 11);
        t.value(0, w.number(1));
        DUE.is("9", w.run(n), 9);
    }

    /** "By parts in their order, what a run of a third part was, unless that ran, and 11 ...; else 8." */
    private static void thirdPartsComeAheadOf8() {
        World w = new World();
        World.Unit a = w.unit().hole(0).value(1, w.ref(0)).value(2, w.ref(2));
        World.Unit t = w.unit().lazy(0, w.ref(0));
        int empty = w.unit().node;
        int choice = w.choose(empty, empty, t.node);
        DUE.is("11 ahead of 8", w.run(w.link(a.node, choice)), 11);
        DUE.is("11 ahead of 8", w.run(w.link(choice, a.node)), 11);
        t.value(0, w.ref(0));
        DUE.is("9 of a third part ahead of 8", w.run(w.link(a.node, choice)), 9);
        t.value(0, w.number(1));
        DUE.is("8", w.run(w.link(a.node, choice)), 8);
    }

    private static void thirdPartsInTheirOrder() {
        World w = new World();
        int empty = w.unit().node;
        int nothing = w.choose(empty, empty, w.unit().lazy(0, w.ref(0)).node);
        int ring = w.choose(empty, empty, w.unit().value(0, w.ref(0)).node);
        int first = w.unit().hole(1).value(0, w.ref(1)).node;
        int s = w.unit().hole(0).node;
        int open = w.choose(empty, empty, w.seal(first, s));
        DUE.is("11 by itself", w.run(nothing), 11);
        DUE.is("9 by itself", w.run(ring), 9);
        DUE.is("8 by itself", w.run(open), 8);
        int[] nodes = {nothing, ring, open};
        int[] due = {11, 9, 8};
        for (int i = 0; i < 3; i++) {
            for (int j = 0; j < 3; j++) {
                int link = w.link(nodes[i], nodes[j]);
                DUE.is("LINK: the first one of both", w.run(link), due[i]);
                DUE.is("APPLY: the first one of both", w.run(w.apply(nodes[i], nodes[j])), due[i]);
                DUE.is("again", w.run(link), due[i]);
            }
        }
    }

    /** "And 11 if its value name 0 has no value." */
    private static void thirdPartsIn11() {
        World w = new World();
        int empty = w.unit().node;
        World.Unit t = w.unit().lazy(0, w.ref(0));
        int n = w.choose(empty, empty, t.node);
        DUE.is("it needs itself", w.run(n), 11);
        t.lazy(0, w.ref(1)).lazy(1, w.ref(1));
        DUE.is("it needs one that has none", w.run(n), 11);
        t.value(0, w.ref(1));
        DUE.is("though it is not lazy", w.run(n), 11);
        t.value(0, w.number(0)).lazy(1, w.ref(1));
        DUE.is("another one has none", w.run(n), 0);
        t.lazy(0, w.when(w.number(1), w.number(1), w.ref(0)));
        DUE.is("it does not need itself", w.run(n), 0);
    }

    private static void thirdPartsOfThirdParts() {
        World w = new World();
        World.Unit a = w.unit().value(0, w.number(0)).value(1, w.number(10));
        World.Unit b = w.unit().value(0, w.number(1)).value(1, w.number(20));
        World.Unit t = w.unit().value(0, w.number(1));
        int one = w.choose(a.node, b.node, t.node);
        int two = w.choose(a.node, b.node, one);
        int three = w.choose(a.node, b.node, two);
        DUE.is("by 1 the first one, that is 0", w.run(one), 0);
        DUE.is("by 1 the first one, that is 0", w.result(1), 10);
        DUE.is("by 0 the second one, that is 1", w.run(two), 0);
        DUE.is("by 0 the second one, that is 1", w.result(1), 20);
        DUE.is("by 1 the first one", w.run(three), 0);
        DUE.is("by 1 the first one", w.result(1), 10);
        t.lazy(0, w.ref(0));
        DUE.is("what a third part of a third part was", w.run(three), 11);
        t.value(0, w.ref(0));
        DUE.is("what a third part of a third part was", w.run(three), 9);
        cells("the latest run that ran", w, 2, 0);
    }

    private static void eightComesAheadOf9() {
        World w = new World();
        World.Unit a = w.unit().value(0, w.ref(0)).hole(8).value(9, w.ref(8));
        DUE.is("8 ahead of 9", w.run(a.node), 8);
        a.value(8, w.number(1));
        DUE.is("9", w.run(a.node), 9);
        a.value(0, w.number(1));
        DUE.is("0", w.run(a.node), 0);
    }

    // ---- the order of values

    /** "In a UNIT by rising names." */
    private static void orderOfCells() {
        World w = new World();
        World.Unit a = w.unit();
        for (int name = 9; name >= 0; name--) {
            a.effect(name, w.number(name));
        }
        w.run(a.node);
        logs("rising names", w, 0, 1, 2, 3, 4, 5, 6, 7, 8, 9);
        w.run(w.rename(w.hide(a.node, 9), 0, 9));
        logs("by the names in the unit", w, 0, 1, 2, 3, 4, 5, 6, 7, 8, 9);
    }

    /** "To get a value that a REF asks for, this one gets its value first, if it has none." */
    private static void orderByRefs() {
        World w = new World();
        World.Unit a = w.unit();
        for (int name = 0; name < 9; name++) {
            a.effect(name, w.add(w.ref(name + 1), w.number(1)));
        }
        a.effect(9, w.number(0));
        w.run(a.node);
        logs("the last one first", w, 0, 1, 2, 3, 4, 5, 6, 7, 8, 9);
        DUE.is("the first one", w.result(0), 9);
        a.effect(0, w.add(w.ref(5), w.add(w.ref(2), w.ref(5)))).effect(5, w.number(50)).effect(2, w.number(20));
        w.run(a.node);
        logs("from left to right, each once", w, 50, 20, 120, 21, 51, 52, 0, 1, 2, 3);
    }

    /** "By parts, the first one first (of a CHOOSE just the one that is taken)." */
    private static void orderByParts() {
        World w = new World();
        World.Unit a = w.unit().effect(5, w.number(1));
        World.Unit b = w.unit().effect(4, w.number(2));
        World.Unit c = w.unit().effect(3, w.number(3));
        World.Unit d = w.unit().effect(3, w.number(4));
        World.Unit t = w.unit().value(0, w.number(1));
        int choice = w.choose(c.node, d.node, t.node);
        w.run(w.link(w.link(a.node, b.node), choice));
        logs("a, b, c", w, 1, 2, 3);
        w.run(w.link(choice, w.link(b.node, a.node)));
        logs("c, b, a", w, 3, 2, 1);
        t.value(0, w.number(0));
        w.run(w.link(a.node, w.link(choice, b.node)));
        logs("a, d, b", w, 1, 4, 2);
        w.run(w.apply(b.node, a.node));
        logs("the functor first", w, 2, 1);
        w.run(w.link(w.rename(w.seal(b.node, b.node), 4, 9), a.node));
        logs("SEAL and RENAME leave it", w, 2, 1);
    }

    // ---- what is reached

    private static void whatTheFaceShowsIsReached() {
        for (int name = 0; name < 10; name++) {
            World w = new World();
            World.Unit a = w.unit();
            int hidden = (name + 1) % 10;
            a.value(name, w.number(1)).value(hidden, w.number(2));
            w.run(a.node);
            cells("all are shown", w, 2, 0);
            w.run(w.hide(a.node, hidden));
            cells("one is not", w, 2, 1);
            DUE.is("the other one is", w.result(name), 1);
            without("what is not shown", w, hidden);
        }
    }

    private static void effectsAreReached() {
        for (int flags = 0; flags < 4; flags++) {
            for (int name = 0; name < 10; name++) {
                World w = new World();
                World.Unit a = w.unit().set(name, w.integer(), w.number(1), flags);
                w.run(w.hide(a.node, name));
                cells("flags " + flags + " by " + name, w, 1, flags < 2 ? 1 : 0);
                DUE.is("flags " + flags + " by " + name, w.x().logged(), flags == 2 ? 1 : 0);
            }
        }
    }

    /** "And those to which a reached one has a REF, and so on." */
    private static void refsReach() {
        World w = new World();
        World.Unit a = w.unit();
        for (int name = 0; name < 10; name++) {
            a.lazy(name, name < 9 ? w.when(w.number(1), w.number(5), w.ref(name + 1)) : w.number(1));
        }
        int n = a.node;
        for (int name = 1; name < 10; name++) {
            n = w.hide(n, name);
        }
        w.run(n);
        cells("through REFs that are not asked for, and lazy ones", w, 10, 0);
        for (int name = 0; name < 9; name++) {
            a.value(name, w.number(1));
            w.run(n);
            cells("not from " + name + " on", w, 10, 9 - name);
            a.lazy(name, w.when(w.number(1), w.number(5), w.ref(name + 1)));
        }
    }

    private static void allAreDropped() {
        World w = new World();
        World.Unit a = w.unit();
        for (int name = 0; name < 10; name++) {
            a.value(name, w.number(name));
        }
        World.Unit s = w.unit();
        int n = w.seal(a.node, s.node);
        w.run(n);
        cells("nothing is shown", w, 10, 10);
        w.run(w.apply(s.node, a.node));
        cells("nothing is shown", w, 10, 10);
        for (int name = 0; name < 10; name++) {
            s.hole(name);
            w.run(n);
            cells("shown up to " + name, w, 10, 9 - name);
        }
        for (int name = 0; name < 10; name++) {
            s.ghostHole(name);
            w.run(n);
            cells("ghosts up to " + name, w, 10, name + 1);
            without("a ghost", w, name);
        }
    }

    // ---- lazy cells

    /** "Or for the face, at the end, by rising names." */
    private static void lazyCellsAtTheEnd() {
        World w = new World();
        World.Unit a = w.unit();
        for (int name = 0; name < 10; name++) {
            a.set(name, w.integer(), w.number(name), name % 2 == 0 ? 3 : 2);
        }
        w.run(a.node);
        logs("behind the others", w, 1, 3, 5, 7, 9, 0, 2, 4, 6, 8);
        w.run(w.rename(w.hide(a.node, 9), 0, 9));
        logs("by the names of the face", w, 1, 3, 5, 7, 9, 2, 4, 6, 8, 0);
    }

    private static void lazyCellsAskedFor() {
        World w = new World();
        World.Unit a = w.unit().lazyEffect(0, w.number(1)).lazyEffect(1, w.add(w.ref(0), w.number(1)))
            .effect(2, w.number(5)).effect(3, w.ref(1));
        w.run(a.node);
        logs("by a REF, once", w, 5, 1, 2, 2);
        a.effect(3, w.number(6));
        w.run(a.node);
        logs("for the face", w, 5, 6, 1, 2);
    }

    /** A lazy effect is reached, but "gets its value when it is asked for". */
    private static void lazyEffectsThatNobodyAsksFor() {
        World w = new World();
        World.Unit a = w.unit().lazyEffect(0, w.add(w.ref(1), w.number(1))).value(1, w.number(2)).value(2, w.number(3));
        int n = w.hide(w.hide(a.node, 0), 1);
        w.run(n);
        logs("not asked for", w);
        cells("but reached, and what it has a REF to", w, 3, 0);
        a.value(2, w.when(w.number(1), w.number(3), w.ref(0)));
        w.run(n);
        logs("a REF that is not asked for", w);
        a.value(2, w.when(w.number(0), w.number(3), w.ref(0)));
        w.run(n);
        logs("a REF that is", w, 3);
    }

    // ---- "A cell that needs its own value for it, by way of lazy ones, has none"

    private static void ownValueByLazyOnes() {
        World w = new World();
        World.Unit a = w.unit();
        for (int flags = 1; flags < 4; flags += 2) {
            a.set(0, w.integer(), w.ref(0), flags);
            DUE.is("runs", w.run(a.node), 0);
            without("by itself", w, 0);
            logs("it is not noted", w);
            cells("it is reached", w, 1, 0);
        }
        a.lazy(0, w.add(w.number(1), w.ref(0)));
        w.run(a.node);
        without("in an ADD", w, 0);
        a.lazy(0, w.first(w.pair(w.number(1), w.ref(0))));
        w.run(a.node);
        without("in a FIRST of a pair", w, 0);
        a.lazy(0, w.when(w.ref(0), w.number(1), w.number(2)));
        w.run(a.node);
        without("first of a WHEN", w, 0);
    }

    private static void ownValueOfAllInTheRing() {
        for (int start = 0; start < 4; start++) {
            World w = new World();
            World.Unit a = w.unit();
            for (int name = 0; name < 4; name++) {
                a.set(name, w.integer(), w.ref((name + 1) % 4), name == start ? 3 : 2);
            }
            a.effect(4, w.number(9)).effect(5, w.ref(start));
            DUE.is("runs", w.run(a.node), 0);
            without("each in the ring, and what needs one", w, 0, 1, 2, 3, 5);
            DUE.is("not the others", w.result(4), 9);
            logs("not noted", w, 9);
            cells("all are reached", w, 6, 0);
        }
    }

    private static void ownValueNotAskedFor() {
        World w = new World();
        World.Unit a = w.unit().lazy(0, w.when(w.ref(2), w.number(5), w.ref(1))).value(1, w.add(w.ref(0), w.number(1)))
            .value(2, w.number(1));
        DUE.is("runs", w.run(a.node), 0);
        DUE.is("it does not need 1", w.result(0), 5);
        DUE.is("so 1 has its value", w.result(1), 6);
        a.value(2, w.number(0));
        DUE.is("runs", w.run(a.node), 0);
        without("it needs 1", w, 0, 1);
        DUE.is("2 does not", w.result(2), 0);
    }

    /** "And so has each one that needs one that has none." */
    private static void withoutByNeed() {
        World w = new World();
        World.Unit a = w.unit().lazy(9, w.ref(9)).effect(0, w.ref(9)).effect(1, w.add(w.number(1), w.ref(0)))
            .effect(2, w.add(w.ref(1), w.number(1))).effect(3, w.when(w.ref(2), w.number(1), w.number(1)))
            .effect(4, w.when(w.number(1), w.ref(3), w.number(1))).effect(5, w.when(w.number(0), w.number(1), w.ref(4)))
            .effect(6, w.when(w.number(1), w.number(6), w.ref(5))).effect(7, w.when(w.number(0), w.ref(5), w.number(7)))
            .set(8, w.pairOfIntegers(), w.pair(w.number(1), w.ref(5)), 2);
        DUE.is("runs", w.run(a.node), 0);
        without("each that needs one", w, 0, 1, 2, 3, 4, 5, 8, 9);
        DUE.is("a WHEN that does not ask", w.result(6), 6);
        DUE.is("a WHEN that does not ask", w.result(7), 7);
        logs("just these are noted", w, 6, 7);
        cells("all are reached", w, 10, 0);
    }

    // ---- expressions

    /** "WHEN asks for the second one, if the first one is not 0, otherwise for the third one, and not for the other." */
    private static void whenAsksForOne() {
        World w = new World();
        World.Unit a = w.unit().lazyEffect(8, w.number(80)).lazyEffect(9, w.number(90));
        int n = w.hide(w.hide(a.node, 8), 9);
        for (int number : new int[] {0, 1, -1, MIN, MAX}) {
            a.value(0, w.when(w.number(number), w.ref(8), w.ref(9)));
            DUE.is("runs", w.run(n), 0);
            DUE.is("by " + number, w.result(0), number == 0 ? 90 : 80);
            logs("by " + number, w, number == 0 ? 90 : 80);
        }
    }

    /** "FIRST and SECOND for all of the pair." */
    private static void halvesAskForAll() {
        World w = new World();
        World.Unit a = w.unit().lazyEffect(8, w.number(80)).lazyEffect(9, w.number(90));
        int n = w.hide(w.hide(a.node, 8), 9);
        a.value(0, w.first(w.pair(w.ref(8), w.ref(9))));
        w.run(n);
        DUE.is("FIRST", w.result(0), 80);
        logs("both are asked for", w, 80, 90);
        a.value(0, w.second(w.pair(w.ref(8), w.ref(9))));
        w.run(n);
        DUE.is("SECOND", w.result(0), 90);
        logs("both are asked for", w, 80, 90);
        a.lazy(9, w.ref(9)).value(0, w.first(w.pair(w.ref(8), w.ref(9))));
        w.run(n);
        without("one has no value", w, 0);
        logs("the other one was asked for", w, 80);
    }

    private static void addAsksBothOfPairs() {
        World w = new World();
        World.Unit a = w.unit().lazyEffect(7, w.number(70)).lazyEffect(8, w.number(80)).lazyEffect(9, w.number(90));
        int n = w.hide(w.hide(w.hide(a.node, 7), 8), 9);
        a.value(0, w.add(w.ref(9), w.add(w.ref(7), w.ref(8))));
        w.run(n);
        DUE.is("ADD", w.result(0), 240);
        logs("from left to right", w, 90, 70, 80);
        a.value(0, w.pairOfIntegers(), w.pair(w.ref(8), w.add(w.ref(9), w.ref(7))));
        w.run(n);
        DUE.is("PAIR", w.result(0, 1), 160);
        logs("from left to right", w, 80, 90, 70);
    }

    /** "Numbers are ints, which go round." */
    private static void addsGoRound() {
        int[][] sums = {{MAX, 1, MIN}, {MAX, MAX, -2}, {MIN, MIN, 0}, {MIN, -1, MAX}, {MAX, MIN, -1}, {MAX, 0, MAX},
            {MIN, 0, MIN}, {1, MAX, MIN}, {-1, MIN, MAX}, {-1, 1, 0}};
        World w = new World();
        World.Unit a = w.unit();
        for (int[] sum : sums) {
            a.effect(0, w.add(w.number(sum[0]), w.number(sum[1])));
            w.run(a.node);
            DUE.is(sum[0] + " and " + sum[1], w.result(0), sum[2]);
            logs(sum[0] + " and " + sum[1], w, sum[2]);
        }
    }

    private static void whenOfWhatWentRound() {
        World w = new World();
        World.Unit a = w.unit().value(0, w.add(w.number(MIN), w.number(MIN)))
            .value(1, w.when(w.ref(0), w.number(1), w.number(2))).value(2, w.add(w.number(MAX), w.number(1)))
            .value(3, w.when(w.ref(2), w.number(1), w.number(2)));
        w.run(a.node);
        DUE.is("it went round to 0", w.result(1), 2);
        DUE.is("it did not", w.result(3), 1);
    }

    // ---- "An effect ... is noted in a log: the number itself; of a pair the number of numbers in it."

    private static void logOfNumbers() {
        World w = new World();
        World.Unit a = w.unit();
        int[] numbers = {MIN, -2, -1, 0, 1, 2, MAX};
        for (int i = 0; i < numbers.length; i++) {
            a.effect(i, w.number(numbers[i]));
        }
        w.run(a.node);
        logs("the number itself", w, numbers);
    }

    private static void logOfPairs() {
        World w = new World();
        World.Unit a = w.unit();
        int type = w.integer();
        int expression = w.number(50);
        // Six leaves weigh 11, so this is the largest pair of one expression.
        for (int name = 0; name < 6; name++) {
            a.set(name, type, expression, 2);
            type = name < 5 ? w.pairOf(type, w.integer()) : type;
            expression = name < 5 ? w.pair(expression, w.number(50)) : expression;
        }
        w.run(a.node);
        logs("the number of numbers", w, 50, 2, 3, 4, 5, 6);
        for (int place = 0; place < 6; place++) {
            DUE.is("the largest one", w.result(5, place), 50);
        }
        DUE.index("it has six", () -> w.result(5, 6));
        DUE.index("a pair has two", () -> w.result(1, 2));
    }

    private static void numbersFromLeftToRight() {
        World w = new World();
        int pair = w.pairOfIntegers();
        int one = w.number(1);
        int two = w.number(2);
        int three = w.number(3);
        int four = w.number(4);
        World.Unit a = w.unit().value(0, w.pairOf(pair, pair), w.pair(w.pair(one, two), w.pair(three, four)))
            .value(1, w.pairOf(w.integer(), w.pairOf(w.integer(), pair)), w.pair(one, w.pair(two, w.pair(three, four))))
            .value(2, w.pairOf(w.pairOf(pair, w.integer()), w.integer()), w.pair(w.pair(w.pair(one, two), three), four))
            .value(3, w.pairOf(w.integer(), w.pairOf(pair, w.integer())), w.pair(one, w.pair(w.pair(two, three), four)));
        w.run(a.node);
        for (int name = 0; name < 4; name++) {
            for (int place = 0; place < 4; place++) {
                DUE.is("value " + name + " at " + place, w.result(name, place), place + 1);
            }
        }
    }

    private static void valueOfTheFirstCell() {
        World w = new World();
        World.Unit a = w.unit().value(0, w.number(5)).value(1, w.add(w.number(1), w.ref(0)))
            .value(2, w.add(w.ref(0), w.number(2))).value(3, w.pairOfIntegers(), w.pair(w.number(1), w.ref(0)))
            .value(4, w.second(w.ref(3)));
        DUE.is("runs", w.run(a.node), 0);
        DUE.is("on the right", w.result(1), 6);
        DUE.is("on the left", w.result(2), 7);
        DUE.is("in a pair", w.result(3, 1), 5);
        DUE.is("out of it", w.result(4), 5);
    }

    // ---- full

    private static void sixtyCells() {
        World w = new World();
        World.Unit a = w.unit();
        for (int name = 0; name < 10; name++) {
            a.effect(name, name == 0 ? w.number(1) : w.add(w.ref(name - 1), w.number(1)));
        }
        int empty = w.unit().node;
        int n = a.node;
        for (int i = 1; i < 6; i++) {
            n = w.link(w.apply(empty, n), a.node);
        }
        DUE.is("runs", w.run(n), 0);
        cells("six units of ten cells", w, 60, 0);
        DUE.is("entries", w.x().logged(), 60);
        for (int place = 0; place < 60; place++) {
            DUE.is("entry " + place, w.x().log(place), place % 10 + 1);
        }
        DUE.index("no 61st", () -> w.x().log(60));
        for (int name = 0; name < 10; name++) {
            a.value(name, w.number(1));
        }
        w.run(n);
        cells("without effects", w, 60, 50);
    }

    /** Each cell is lazy and asks the one before it, through twelve units: the last one is asked for, for the face. */
    private static void aLongRow() {
        World w = new World();
        int[] kinds = new int[3];
        for (int i = 0; i < 3; i++) {
            World.Unit a = w.unit().hole((3 * i + 8) % 9);
            for (int name = 3 * i; name < 3 * i + 3; name++) {
                a.lazyEffect(name, w.add(w.ref((name + 8) % 9), w.number(1)));
            }
            kinds[i] = a.node;
        }
        int n = w.unit().lazyEffect(8, w.number(0)).node;
        for (int i = 0; i < 11; i++) {
            n = w.apply(kinds[i % 3], n);
        }
        int told = w.hide(n, 5);
        DUE.state("of the weight 24", () -> w.hide(told, 4));
        DUE.is("runs", w.run(told), 0);
        DUE.is("33 cells, each of which adds 1", w.result(4), 32);
        cells("all are reached", w, 34, 0);
        DUE.is("33 have been asked for", w.x().logged(), 33);
        for (int place = 0; place < 33; place++) {
            DUE.is("the first one first", w.x().log(place), place);
        }
    }
}
