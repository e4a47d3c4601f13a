/**
 * Each sentence of "Faces" in the document that is of nodes made of others and names a boundary: each way to have a
 * component in both parts, each error, for the lowest name, and which one is told where two hold.
 */
public final class NodeFacesTest {
    private static final Due DUE = new Due("NodeFacesTest");
    private static final int MIN = Integer.MIN_VALUE;
    private static final int MAX = Integer.MAX_VALUE;
    private static final int NO = World.NONE;
    private static final int HOLE = World.HOLE;
    /** The kinds of errors stand in the tables as they are told for the value name 0. */
    private static final int OTHERWISE = 200;

    public static void main(String[] args) {
        whoseAnswersThrow();
        namesOfAnswers();
        sameTypesByOtherNames();
        partErrors();
        partErrorsComeFirst();
        linkedValues();
        linkedTypes();
        linkKnots();
        linkKnotsComeFirst();
        linkTypesOf200Parts();
        linkByTheFirstOne();
        linkTypesTwice();
        linkTypesTwiceOfUnlikeLengths();
        linkTypesTwiceTooLarge();
        linkValuesOf200Parts();
        linkValueErrors();
        linkTypesComeAheadOfValues();
        sealedValues();
        sealedTypes();
        sealKeepsWhatTheSignatureShows();
        sealTypesOf200Parts();
        sealTypesByRisingNames();
        sealValueErrors();
        sealValuesOf200Parts();
        sealMadeFullWithStamps();
        sealMadeFullWithStampsOfPairs();
        sealAfterALink();
        appliedValues();
        appliedTypes();
        applyErrorsOfALinkComeFirst();
        applyHolesByRisingNames();
        applyShowsTheFunctorsAlone();
        applyLooksAtAllTypes();
        thirdParts();
        thirdPartsZero();
        chosenValues();
        chosenTypes();
        chooseErrorsInOrder();
        chooseByRisingNames();
        chooseStampsForUnlikeTypes();
        choosePutsStamps();
        choosePutsOutermostFirst();
        choosePutsTheLowest();
        chooseUnlikeByRisingNames();
        renamedValues();
        renameToWhatIsThere();
        hiddenValues();
        typeNamesStay();
        DUE.end();
    }

    private static int[] outside(int most) {
        return new int[] {-1, most, MIN, MAX};
    }

    /** An error of the table, told for a value name; a value's way as it is. */
    private static void table(String what, World w, int node, int name, int due) {
        DUE.is(what + ", error", w.error(node), due >= OTHERWISE ? due + name : 0);
        if (due < OTHERWISE) {
            DUE.is(what, w.valueOf(node, name), due);
            DUE.is(what + ", size", w.size(node, name), due == 0 ? 0 : 1);
        }
    }

    // ---- promises 14 to 18: what is thrown

    private static void whoseAnswersThrow() {
        World w = new World();
        int fine = w.unit().node;
        int wrong = w.unit().type(0, w.named(1)).node;
        for (int node : outside(2)) {
            DUE.index("error of " + node, () -> w.error(node));
            DUE.index("typeOf " + node, () -> w.typeOf(node, 0));
            DUE.index("isSameType " + node, () -> w.same(node, 0, fine, 0));
            DUE.index("isSameType, other " + node, () -> w.same(fine, 0, node, 0));
            DUE.index("valueOf " + node, () -> w.valueOf(node, 0));
            DUE.index("size " + node, () -> w.size(node, 0));
        }
        DUE.is("error of the last one", w.error(wrong), 150);
        DUE.state("typeOf one with an error", () -> w.typeOf(wrong, 0));
        DUE.state("isSameType of one with an error", () -> w.same(wrong, 0, fine, 0));
        DUE.state("isSameType, other with an error", () -> w.same(fine, 0, wrong, 0));
        DUE.state("isSameType, both with an error", () -> w.same(wrong, 0, wrong, 0));
        DUE.state("valueOf one with an error", () -> w.valueOf(wrong, 0));
        DUE.state("size of one with an error", () -> w.size(wrong, 0));
    }

    private static void namesOfAnswers() {
        World w = new World();
        int u = w.unit().typeHole(0).type(5, w.integer()).hole(0).value(9, w.number(1)).node;
        for (int name : outside(6)) {
            DUE.argument("typeOf name " + name, () -> w.typeOf(u, name));
            DUE.argument("isSameType name " + name, () -> w.same(u, name, u, 0));
            DUE.argument("isSameType other name " + name, () -> w.same(u, 0, u, name));
        }
        for (int name : outside(10)) {
            DUE.argument("valueOf name " + name, () -> w.valueOf(u, name));
            DUE.argument("size name " + name, () -> w.size(u, name));
        }
        DUE.is("typeOf 0", w.typeOf(u, 0), 1);
        DUE.is("typeOf 5", w.typeOf(u, 5), 2);
        DUE.is("isSameType 5 and 5", w.same(u, 5, u, 5), true);
        DUE.is("a hole is defined nowhere", w.same(u, 0, u, 0), false);
        DUE.is("nor is what is not there", w.same(u, 1, u, 1), false);
        DUE.is("one of both is not enough", w.same(u, 5, u, 0), false);
        DUE.is("one of both is not enough", w.same(u, 1, u, 5), false);
        DUE.is("valueOf 0", w.valueOf(u, 0), 1);
        DUE.is("valueOf 9", w.valueOf(u, 9), 2);
        DUE.is("size of 9", w.size(u, 9), 1);
        DUE.is("size of none", w.size(u, 8), 0);
    }

    /** Each name of one node against each name of another one, where neither has the name of the other. */
    private static void sameTypesByOtherNames() {
        for (int name = 0; name < 6; name++) {
            World w = new World();
            World.Unit a = w.unit().type(name, w.pairOfIntegers());
            World.Unit b = w.unit();
            for (int other = 0; other < 6; other++) {
                b.type(other, w.pairOfIntegers());
                DUE.is(name + " and " + other, w.same(a.node, name, b.node, other), true);
                DUE.is(other + " and " + name, w.same(b.node, other, a.node, name), true);
                b.type(other, w.integer());
                DUE.is(name + " and " + other + ", unlike", w.same(a.node, name, b.node, other), false);
                b.typeHole(other);
                DUE.is(name + " and " + other + ", a hole", w.same(a.node, name, b.node, other), false);
                DUE.is(other + ", a hole, and " + name, w.same(b.node, other, a.node, name), false);
                b.noType(other);
                DUE.is(name + " and none", w.same(a.node, name, b.node, other), false);
                DUE.is("none and " + name, w.same(b.node, other, a.node, name), false);
            }
        }
    }

    // ---- "10 if a part has one, the first part that has"

    private static void partErrors() {
        World w = new World();
        int f = w.unit().value(0, w.number(1)).node;
        int x = w.unit().type(0, w.named(1)).node;
        int[][] two = {{x, f, 1000}, {f, x, 1001}, {x, x, 1000}};
        for (int[] parts : two) {
            DUE.is("LINK", w.error(w.link(parts[0], parts[1])), parts[2]);
            DUE.is("SEAL", w.error(w.seal(parts[0], parts[1])), parts[2]);
            DUE.is("APPLY", w.error(w.apply(parts[0], parts[1])), parts[2]);
        }
        int[][] three = {{x, f, f, 1000}, {f, x, f, 1001}, {f, f, x, 1002}, {x, x, x, 1000}, {f, x, x, 1001},
            {x, f, x, 1000}};
        for (int[] parts : three) {
            DUE.is("CHOOSE", w.error(w.choose(parts[0], parts[1], parts[2])), parts[3]);
        }
        int rename = w.rename(x, 0, 1);
        DUE.is("RENAME", w.error(rename), 1000);
        DUE.is("HIDE", w.error(w.hide(x, 0)), 1000);
        DUE.is("a part of a part", w.error(w.link(f, rename)), 1001);
        DUE.is("none", w.error(w.choose(f, f, f)), 0);
    }

    private static void partErrorsComeFirst() {
        World w = new World();
        World.Unit a = w.unit().type(0, w.named(1)).hole(0);
        World.Unit b = w.unit().typeHole(0).hole(3);
        int seal = w.seal(a.node, b.node);
        int apply = w.apply(b.node, a.node);
        int choose = w.choose(b.node, a.node, b.node);
        int hide = w.hide(a.node, 0);
        DUE.is("SEAL", w.error(seal), 1000);
        DUE.is("APPLY", w.error(apply), 1001);
        DUE.is("CHOOSE", w.error(choose), 1001);
        DUE.is("HIDE", w.error(hide), 1000);
        a.type(0, w.integer());
        DUE.is("as it is now: SEAL", w.error(seal), 503);
        DUE.is("as it is now: APPLY", w.error(apply), 503);
        DUE.is("as it is now: CHOOSE", w.error(choose), 500);
        DUE.is("as it is now: HIDE", w.error(hide), 800);
    }

    // ---- LINK

    private static void linkedValues() {
        int[][] due = {
            {0, 1, 5, 2, 6},
            {1, 1, 1, 2, 600},
            {5, 1, 5, 2, 6},
            {2, 2, 2, 400, 400},
            {6, 600, 6, 400, 400}};
        for (int name = 0; name < 10; name += 3) {
            World w = new World();
            World.Unit a = w.unit();
            World.Unit b = w.unit();
            int n = w.link(a.node, b.node);
            for (int first : World.WAYS) {
                for (int second : World.WAYS) {
                    a.in(first, name);
                    b.in(second, name);
                    table("LINK of " + World.WORDS[first] + " and " + World.WORDS[second], w, n, name,
                        due[first][second]);
                }
            }
        }
    }

    /** Types by a name in both: -2 none, -1 a hole, else an INT. */
    private static void linkedTypes() {
        int[][] due = {{0, 1, 2}, {1, 1, 2}, {2, 2, 2}};
        for (int name = 0; name < 6; name++) {
            World w = new World();
            World.Unit a = w.unit();
            World.Unit b = w.unit();
            int n = w.link(a.node, b.node);
            for (int first = 0; first < 3; first++) {
                for (int second = 0; second < 3; second++) {
                    a.type(name, first == 2 ? w.integer() : first - 2);
                    b.type(name, second == 2 ? w.integer() : second - 2);
                    DUE.is("types " + first + " and " + second, w.typeOf(n, name), due[first][second]);
                }
            }
            b.type(name, w.pairOfIntegers());
            DUE.is("an INT and a PAIR", w.error(n), 450 + name);
            a.typeHole(name);
            DUE.is("a hole and a PAIR", w.same(n, name, b.node, name), true);
        }
    }

    /** "The equations of all that are defined ... are made full, as told": 3 for the lowest. */
    private static void linkKnots() {
        for (int low = 0; low < 5; low++) {
            World w = new World();
            World.Unit a = w.unit().type(low, w.named(low + 1)).typeHole(low + 1);
            World.Unit b = w.unit().type(low + 1, w.pairOf(w.named(low), w.integer())).typeHole(low);
            DUE.is("parts are fine", w.error(a.node) + w.error(b.node), 0);
            DUE.is("a knot of both", w.error(w.link(a.node, b.node)), 350 + low);
            DUE.is("the other way round", w.error(w.link(b.node, a.node)), 350 + low);
            b.type(low + 1, w.pairOf(w.integer(), w.integer()));
            DUE.is("no knot", w.error(w.link(a.node, b.node)), 0);
        }
        World w = new World();
        World.Unit a = w.unit().type(3, w.named(4)).type(5, w.named(4)).typeHole(4);
        World.Unit b = w.unit().type(4, w.named(5)).typeHole(5);
        DUE.is("3 leads in, but does not come into its own", w.error(w.link(a.node, b.node)), 354);
    }

    private static void linkKnotsComeFirst() {
        World w = new World();
        World.Unit a = w.unit().type(4, w.named(5)).typeHole(5).type(0, w.integer()).value(0, w.number(1));
        World.Unit b = w.unit().type(5, w.named(4)).typeHole(4).type(0, w.pairOfIntegers()).value(0, w.number(1));
        int n = w.link(a.node, b.node);
        DUE.is("3 ahead of 4", w.error(n), 354);
        b.type(5, w.integer());
        DUE.is("4 of a type", w.error(n), 450);
        b.type(0, w.integer());
        DUE.is("4 of a value", w.error(n), 400);
    }

    private static void linkTypesOf200Parts() {
        for (int name = 0; name < 6; name++) {
            int second = (name + 1) % 6;
            int third = (name + 2) % 6;
            World w = new World();
            World.Unit a = w.unit().type(name, w.tree(w.named(second), 5)).typeHole(second).hole(0, w.named(name));
            World.Unit b = w.unit().type(second, w.tree(w.named(third), 5)).type(third, w.tree(w.integer(), 4));
            int n = w.link(a.node, b.node);
            DUE.is("199 parts by " + name, w.size(n, 0), 199);
            a.type(name, w.pairOf(w.tree(w.named(second), 5), w.integer()));
            DUE.is("201 parts by " + name, w.error(n), 750 + name);
            b.typeHole(third);
            DUE.is("51 parts by " + name, w.size(n, 0), 51);
        }
    }

    private static void linkByTheFirstOne() {
        World w = new World();
        World.Unit a = w.unit().type(1, w.named(2)).typeHole(2).hole(0, w.named(1));
        World.Unit b = w.unit().type(1, w.pairOf(w.named(3), w.named(3))).type(2, w.pairOf(w.named(3), w.named(3)))
            .typeHole(3);
        int n = w.link(a.node, b.node);
        DUE.is("by the first one, 1 is 2, that is a PAIR of 3", w.size(n, 0), 3);
        DUE.is("1 is 2", w.same(n, 1, n, 2), true);
        b.type(1, w.pairOf(w.named(2), w.named(3)));
        DUE.is("by the second one it is not so", w.error(n), 451);
        b.type(1, w.named(2)).typeHole(2);
        DUE.is("both are 2", w.error(n), 0);
        DUE.is("that is a hole", w.typeOf(n, 2), 1);
    }

    /** "For each type name that is defined in both, rising, both types, made full, have to be the same: 4." */
    private static void linkTypesTwice() {
        World w = new World();
        World.Unit a = w.unit();
        World.Unit b = w.unit();
        int n = w.link(a.node, b.node);
        for (int name = 5; name >= 0; name--) {
            a.type(name, w.integer());
            b.type(name, w.pairOfIntegers());
            DUE.is("the lowest one", w.error(n), 450 + name);
        }
        for (int name = 0; name < 5; name++) {
            b.type(name, w.integer());
            DUE.is("the same", w.error(n), 451 + name);
        }
        b.typeHole(5);
        DUE.is("a hole is as it is defined", w.error(n), 0);
        DUE.is("a hole is as it is defined", w.typeOf(n, 5), 2);
    }

    private static void linkTypesTwiceOfUnlikeLengths() {
        World w = new World();
        World.Unit a = w.unit().typeHole(0).type(1, w.named(0));
        World.Unit b = w.unit().type(0, w.pairOfIntegers()).type(1, w.pairOfIntegers());
        DUE.is("a name and a PAIR, made full", w.error(w.link(a.node, b.node)), 0);
        DUE.is("a PAIR and a name, made full", w.error(w.link(b.node, a.node)), 0);
        b.type(1, w.pairOf(w.pairOfIntegers(), w.integer()));
        DUE.is("a PAIR that begins alike", w.error(w.link(a.node, b.node)), 451);
        DUE.is("the other way round", w.error(w.link(b.node, a.node)), 451);
    }

    private static void linkTypesTwiceTooLarge() {
        World w = new World();
        World.Unit a = w.unit().type(0, w.tree(w.integer(), 6)).type(1, w.tree(w.integer(), 6)).type(2, w.integer());
        World.Unit b = w.unit().typeHole(0).typeHole(1).type(2, w.tree(w.named(0), 6));
        int n = w.link(a.node, b.node);
        DUE.is("71 parts are not the same as one", w.error(n), 452);
        World.Unit c = w.unit().type(3, w.tree(w.named(0), 4)).typeHole(0).type(2, w.tree(w.named(3), 6));
        DUE.is("143 parts, by another one", w.error(c.node), 0);
        DUE.is("far more than 200 are not the same as one, either", w.error(w.link(a.node, c.node)), 452);
        DUE.is("but if they are the first one's, they are too large", w.error(w.link(c.node, a.node)), 752);
    }

    private static void linkValuesOf200Parts() {
        for (int name = 0; name < 10; name += 3) {
            World w = new World();
            World.Unit a = w.unit().type(0, w.tree(w.named(1), 5)).typeHole(1);
            World.Unit b = w.unit().type(1, w.tree(w.named(2), 5)).type(2, w.tree(w.integer(), 4)).typeHole(0);
            int n = w.link(a.node, b.node);
            int other = w.link(b.node, a.node);
            int large = w.pairOf(w.named(0), w.integer());
            a.hole(name, w.named(0));
            DUE.is("199 parts in the first one", w.size(n, name), 199);
            a.hole(name, large);
            DUE.is("201 parts in the first one", w.error(n), 700 + name);
            DUE.is("201 parts in the second one", w.error(other), 700 + name);
            b.hole(name, w.named(0));
            DUE.is("7 ahead of 2", w.error(n), 700 + name);
            DUE.is("7 ahead of 2", w.error(other), 700 + name);
            a.value(name, large, w.pair(w.ref(8), w.number(1))).hole(8, w.named(0));
            b.value(name, w.integer(), w.number(1));
            DUE.is("7 ahead of 4", w.error(n), 700 + name);
            DUE.is("7 ahead of 4", w.error(other), 700 + name);
        }
    }

    private static void linkValueErrors() {
        World w = new World();
        World.Unit a = w.unit().value(9, w.number(1)).hole(5).ghost(7, w.number(2)).hole(3);
        World.Unit b = w.unit().value(9, w.number(1)).hole(5, w.pairOfIntegers()).hole(7).ghost(3, w.number(1));
        int n = w.link(a.node, b.node);
        DUE.is("6, the lowest", w.error(n), 603);
        b.remove(3);
        DUE.is("2 is the next", w.error(n), 205);
        a.remove(5);
        DUE.is("6 the other way round", w.error(n), 607);
        b.ghostHole(7);
        DUE.is("4 is the last", w.error(n), 409);
        a.value(9, w.pairOfIntegers(), w.pair(w.number(1), w.number(1)));
        DUE.is("4 ahead of 2", w.error(n), 409);
        b.ghost(9, w.number(1));
        DUE.is("4 ahead of 6", w.error(n), 409);
        a.hole(9, w.pairOfIntegers());
        DUE.is("2 ahead of 6", w.error(n), 209);
        a.hole(9);
        DUE.is("6", w.error(n), 609);
    }

    private static void linkTypesComeAheadOfValues() {
        World w = new World();
        World.Unit a = w.unit().value(0, w.number(1)).type(5, w.integer());
        World.Unit b = w.unit().value(0, w.number(1)).type(5, w.pairOfIntegers());
        int n = w.link(a.node, b.node);
        DUE.is("4 of type 5 ahead of 4 of value 0", w.error(n), 455);
        b.typeHole(5);
        DUE.is("4 of value 0", w.error(n), 400);
    }

    // ---- SEAL

    private static void sealedValues() {
        int[][] due = {
            {0, 500, 500, 500, 500},
            {0, 1, 5, 1, 5},
            {0, 600, 5, 600, 5},
            {0, 2, 6, 2, 6},
            {0, 600, 6, 600, 6}};
        for (int name = 0; name < 10; name += 3) {
            World w = new World();
            World.Unit a = w.unit();
            World.Unit s = w.unit();
            int n = w.seal(a.node, s.node);
            for (int first : World.WAYS) {
                for (int second : World.WAYS) {
                    a.in(first, name);
                    s.in(second, name);
                    table("SEAL of " + World.WORDS[first] + " by " + World.WORDS[second], w, n, name,
                        due[first][second]);
                }
            }
        }
    }

    /** Types by a name in both: none, a hole, an INT, a PAIR. */
    private static void sealedTypes() {
        int[][] due = {{0, 5, 5, 5}, {0, 1, 2, 2}, {0, 3, 0, 2}, {0, 3, 2, 0}};
        for (int name = 0; name < 6; name++) {
            World w = new World();
            World.Unit a = w.unit();
            World.Unit s = w.unit();
            int n = w.seal(a.node, s.node);
            int[] types = {-2, -1, w.integer(), w.pairOfIntegers()};
            for (int first = 0; first < 4; first++) {
                for (int second = 0; second < 4; second++) {
                    a.type(name, types[first]);
                    s.type(name, types[second]);
                    boolean isWrong = second > 0 && (first == 0 || second > 1 && first != second);
                    String what = "types " + first + " and " + second;
                    DUE.is(what, w.error(n), isWrong ? 100 * due[first][second] + 50 + name : 0);
                    if (!isWrong) {
                        DUE.is(what, w.typeOf(n, name), second > 1 ? 2 : due[first][second]);
                    }
                }
            }
        }
    }

    /** "The signature shows what is kept." */
    private static void sealKeepsWhatTheSignatureShows() {
        World w = new World();
        World.Unit a = w.unit();
        World.Unit s = w.unit();
        for (int name = 0; name < 6; name++) {
            a.type(name, w.integer());
        }
        for (int name = 0; name < 10; name++) {
            a.value(name, w.number(name));
        }
        int n = w.seal(a.node, s.node);
        for (int shown = 0; shown < 6; shown++) {
            s.typeHole(shown);
            for (int name = 0; name < 6; name++) {
                DUE.is("type " + name + " by " + shown, w.typeOf(n, name), name == shown ? 3 : 0);
            }
            s.noType(shown);
        }
        for (int shown = 0; shown < 10; shown++) {
            s.hole(shown);
            for (int name = 0; name < 10; name++) {
                DUE.is("value " + name + " by " + shown, w.valueOf(n, name), name == shown ? 2 : 0);
            }
            s.remove(shown);
        }
    }

    private static void sealTypesOf200Parts() {
        World w = new World();
        World.Unit a = w.unit().type(0, w.tree(w.named(1), 5)).type(1, w.tree(w.integer(), 5))
            .type(2, w.tree(w.named(0), 4)).hole(0, w.named(2));
        World.Unit s = w.unit().typeHole(0).type(2, w.tree(w.named(0), 4)).hole(0, w.named(2));
        int n = w.seal(a.node, s.node);
        DUE.is("199 parts", w.error(n), 0);
        DUE.is("with stamps they are 7", w.size(n, 0), 7);
        s.type(2, w.pairOf(w.tree(w.named(0), 4), w.integer()));
        DUE.is("201 parts", w.error(n), 752);
        a.type(2, w.integer());
        DUE.is("7 ahead of 2", w.error(n), 752);
        a.typeHole(2);
        DUE.is("but a hole is never so", w.error(n), 252);
        a.noType(2).remove(0);
        DUE.is("5 ahead of 7", w.error(n), 552);
        s.typeHole(2).remove(0);
        a.type(2, w.integer());
        DUE.is("a hole of the signature is of any", w.typeOf(n, 2), 3);
    }

    private static void sealTypesByRisingNames() {
        World w = new World();
        World.Unit a = w.unit().type(1, w.integer()).typeHole(3).type(5, w.integer());
        World.Unit s = w.unit().type(1, w.pairOfIntegers()).typeHole(2).type(3, w.integer()).typeHole(4)
            .type(5, w.pairOfIntegers());
        int n = w.seal(a.node, s.node);
        int[] due = {251, 552, 253, 554, 255, 0};
        for (int i = 0; i < 6; i++) {
            DUE.is("the lowest one that is wrong", w.error(n), due[i]);
            s.noType(i + 1 > 5 ? 5 : i + 1);
        }
    }

    private static void sealValueErrors() {
        World w = new World();
        World.Unit a = w.unit().type(0, w.pairOfIntegers());
        World.Unit s = w.unit().typeHole(0).hole(9);
        int n = w.seal(a.node, s.node);
        DUE.is("5 of a value", w.error(n), 509);
        s.typeHole(5);
        DUE.is("5 of a type ahead of that", w.error(n), 555);
        s.noType(5).hole(2);
        a.ghost(2, w.number(1));
        DUE.is("6", w.error(n), 602);
        s.hole(2, w.pairOfIntegers());
        DUE.is("2 ahead of 6", w.error(n), 202);
        s.hole(2, w.named(0));
        DUE.is("2 with the type put in", w.error(n), 202);
        a.set(2, w.pairOfIntegers(), w.pair(w.number(1), w.number(1)), 4);
        DUE.is("the same, with the type put in, so 6", w.error(n), 602);
        s.set(2, w.named(0), -1, 4);
        DUE.is("a ghost, as the signature's is", w.error(n), 509);
        a.hole(9);
        DUE.is("all are there", w.error(n), 0);
    }

    private static void sealValuesOf200Parts() {
        for (int name = 0; name < 10; name += 3) {
            World w = new World();
            World.Unit a = w.unit().type(0, w.tree(w.named(1), 5)).type(1, w.tree(w.named(2), 5))
                .type(2, w.tree(w.integer(), 4)).hole(name, w.named(0));
            World.Unit s = w.unit().typeHole(0).hole(name, w.named(0));
            int n = w.seal(a.node, s.node);
            DUE.is("199 parts", w.size(n, name), 1);
            s.hole(name, w.pairOf(w.named(0), w.integer()));
            DUE.is("201 parts, ahead of 2", w.error(n), 700 + name);
            a.set(name, w.named(0), -1, 4);
            DUE.is("201 parts, ahead of 6", w.error(n), 700 + name);
            a.remove(name);
            DUE.is("5 ahead of 7", w.error(n), 500 + name);
        }
    }

    /** "It has the signature's type made full with stamps." */
    private static void sealMadeFullWithStamps() {
        World w = new World();
        World.Unit a = w.unit().type(0, w.integer()).type(1, w.integer()).type(2, w.pairOfIntegers()).typeHole(3)
            .type(4, w.pairOf(w.integer(), w.named(3))).hole(5, w.pairOf(w.integer(), w.named(3)));
        World.Unit s = w.unit().typeHole(0).type(1, w.named(0)).type(2, w.pairOf(w.named(0), w.named(1))).typeHole(3)
            .type(4, w.pairOf(w.named(0), w.named(3))).hole(5, w.named(4));
        int n = w.seal(a.node, s.node);
        DUE.is("no error", w.error(n), 0);
        DUE.is("0 is a stamp", w.typeOf(n, 0), 3);
        DUE.is("1 is defined as the stamp", w.typeOf(n, 1), 3);
        DUE.is("1 is 0", w.same(n, 0, n, 1), true);
        DUE.is("2 is a pair of stamps", w.typeOf(n, 2), 2);
        DUE.is("not of INTs", w.same(n, 2, a.node, 2), false);
        DUE.is("3 stays a hole", w.typeOf(n, 3), 1);
        World.Unit around = w.unit().type(3, w.pairOfIntegers()).typeHole(0).hole(5, w.pairOf(w.named(0), w.named(3)));
        int linked = w.link(n, around.node);
        DUE.is("the value is of the stamp, and of the hole", w.error(linked), 0);
        DUE.is("that is filled here", w.size(linked, 5), 5);
        around.hole(5, w.pairOf(w.integer(), w.named(3)));
        DUE.is("it is not of the INT", w.error(linked), 205);
    }

    /** A stamp is one part, of whatever it is a stamp. */
    private static void sealMadeFullWithStampsOfPairs() {
        World w = new World();
        World.Unit a = w.unit().hole(9);
        World.Unit s = w.unit().hole(9);
        int n = w.seal(a.node, s.node);
        for (int leaves = 1; leaves < 7; leaves++) {
            int type = w.tree(w.integer(), leaves);
            a.type(0, type).type(1, type).type(2, w.pairOf(w.named(1), w.integer()))
                .hole(9, w.pairOf(w.named(1), w.named(0)));
            s.typeHole(0).type(1, w.named(0)).type(2, w.pairOf(w.named(0), w.integer()))
                .hole(9, w.pairOf(w.named(0), w.named(1)));
            DUE.is("of " + leaves, w.typeOf(n, 1), 3);
            DUE.is("of " + leaves, w.same(n, 0, n, 1), true);
            DUE.is("a pair with one of " + leaves, w.typeOf(n, 2), 2);
            DUE.is("a value of " + leaves, w.size(n, 9), 3);
            a.hole(8, w.named(2));
            s.hole(8, w.named(2));
            DUE.is("a value of the pair with one of " + leaves, w.size(n, 8), 3);
        }
    }

    /** What was put for names when another face was found is not put any more. */
    private static void sealAfterALink() {
        World w = new World();
        World.Unit a = w.unit().typeHole(1).hole(2, w.named(1));
        World.Unit s = w.unit().typeHole(1).hole(2, w.named(1));
        World.Unit b = w.unit().type(1, w.pairOfIntegers());
        int linked = w.link(a.node, b.node);
        int sealed = w.seal(a.node, s.node);
        int top = w.link(linked, sealed);
        DUE.is("a hole of both", w.error(top), 0);
        DUE.is("a hole of both", w.typeOf(sealed, 1), 1);
        DUE.is("a hole of both", w.size(sealed, 2), 1);
        DUE.is("filled in the LINK", w.size(top, 2), 3);
    }

    // ---- APPLY

    private static void appliedValues() {
        int[][] due = {
            {0, 0, 0, 0, 0},
            {500, 500, 500, 2, 600},
            {500, 500, 500, 2, 6},
            {2, 2, 2, 400, 400},
            {6, 600, 6, 400, 400}};
        for (int name = 0; name < 10; name += 3) {
            World w = new World();
            World.Unit f = w.unit();
            World.Unit a = w.unit();
            int n = w.apply(f.node, a.node);
            for (int first : World.WAYS) {
                for (int second : World.WAYS) {
                    f.in(first, name);
                    a.in(second, name);
                    table("APPLY of " + World.WORDS[first] + " to " + World.WORDS[second], w, n, name,
                        due[first][second]);
                }
            }
        }
    }

    private static void appliedTypes() {
        int[][] due = {{0, 0, 0, 0}, {5, 5, 2, 2}, {2, 2, 2, 4}, {2, 2, 4, 2}};
        for (int name = 0; name < 6; name++) {
            World w = new World();
            World.Unit f = w.unit();
            World.Unit a = w.unit();
            int n = w.apply(f.node, a.node);
            int[] types = {-2, -1, w.integer(), w.pairOfIntegers()};
            for (int first = 0; first < 4; first++) {
                for (int second = 0; second < 4; second++) {
                    f.type(name, types[first]);
                    a.type(name, types[second]);
                    int told = due[first][second];
                    DUE.is("types " + first + " and " + second, w.error(n), told > 2 ? 100 * told + 50 + name : 0);
                    if (told <= 2) {
                        DUE.is("types " + first + " and " + second, w.typeOf(n, name), told);
                    }
                }
            }
        }
    }

    /** "Then as LINK of both ..., with its errors; then each hole of the functor": 5. */
    private static void applyErrorsOfALinkComeFirst() {
        World w = new World();
        World.Unit f = w.unit().typeHole(0).value(9, w.number(1)).type(4, w.named(5)).typeHole(5);
        World.Unit a = w.unit().value(9, w.number(2)).type(5, w.named(4)).typeHole(4);
        int n = w.apply(f.node, a.node);
        DUE.is("3 of a LINK", w.error(n), 354);
        a.type(5, w.integer());
        DUE.is("4 of a LINK, of a value, ahead of 5 of a type", w.error(n), 409);
        a.hole(9, w.pairOfIntegers());
        DUE.is("2 of a LINK ahead of 5 of a type", w.error(n), 209);
        a.remove(9);
        DUE.is("5 of a type", w.error(n), 550);
    }

    private static void applyHolesByRisingNames() {
        World w = new World();
        World.Unit f = w.unit();
        World.Unit a = w.unit();
        int n = w.apply(f.node, a.node);
        for (int name = 9; name >= 0; name--) {
            f.hole(name);
            DUE.is("the lowest value", w.error(n), 500 + name);
        }
        for (int name = 5; name >= 0; name--) {
            f.typeHole(name);
            DUE.is("types first, the lowest", w.error(n), 550 + name);
        }
        for (int name = 0; name < 6; name++) {
            DUE.is("types, rising", w.error(n), 550 + name);
            a.type(name, w.integer());
        }
        for (int name = 0; name < 10; name++) {
            DUE.is("values, rising", w.error(n), 500 + name);
            a.value(name, w.number(1));
        }
        DUE.is("all are filled", w.error(n), 0);
    }

    /** "Only the components of the functor are shown." */
    private static void applyShowsTheFunctorsAlone() {
        World w = new World();
        World.Unit f = w.unit();
        World.Unit a = w.unit();
        int n = w.apply(f.node, a.node);
        for (int name = 0; name < 6; name++) {
            a.type(name, w.integer());
            DUE.is("type " + name, w.typeOf(n, name), 0);
            f.typeHole(name);
            DUE.is("type " + name, w.typeOf(n, name), 2);
        }
        for (int name = 0; name < 10; name++) {
            a.value(name, w.number(1));
            DUE.is("value " + name, w.valueOf(n, name), 0);
            DUE.is("size " + name, w.size(n, name), 0);
            f.hole(name);
            DUE.is("value " + name, w.valueOf(n, name), 2);
            DUE.is("size " + name, w.size(n, name), 1);
        }
    }

    private static void applyLooksAtAllTypes() {
        World w = new World();
        World.Unit f = w.unit().type(0, w.tree(w.named(1), 5)).typeHole(1);
        World.Unit a = w.unit().type(1, w.tree(w.named(2), 5)).type(2, w.tree(w.integer(), 4)).typeHole(0)
            .hole(3, w.tree(w.named(0), 2));
        int n = w.apply(f.node, a.node);
        DUE.is("199 parts; of a value that the functor has not, 399 are not looked at", w.error(n), 0);
        f.hole(3, w.tree(w.named(0), 2));
        DUE.is("7 of one that it has", w.error(n), 703);
        f.remove(3).type(0, w.pairOf(w.tree(w.named(1), 5), w.integer()));
        DUE.is("7 of a type", w.error(n), 750);
        f.type(0, w.named(1));
        a.type(5, w.named(0));
        DUE.is("a type that the functor has not, of what it has", w.error(n), 0);
        a.type(5, w.tree(w.named(0), 6));
        DUE.is("7 of a type that the functor has not", w.error(n), 755);
    }

    // ---- CHOOSE

    /** "No value that is a hole, but a ghost: 8 for the lowest." */
    private static void thirdParts() {
        World w = new World();
        World.Unit t = w.unit().value(0, w.number(1));
        int empty = w.unit().node;
        int n = w.choose(empty, empty, t.node);
        for (int name = 1; name < 10; name++) {
            for (int way : World.WAYS) {
                t.in(way, name);
                DUE.is(World.WORDS[way] + " by " + name, w.error(n), way == HOLE ? 800 + name : 0);
            }
        }
        for (int name = 9; name > 0; name--) {
            t.hole(name);
            DUE.is("the lowest hole", w.error(n), 800 + name);
        }
        for (int name = 0; name < 6; name++) {
            t.typeHole(name);
        }
        DUE.is("type holes do not count", w.error(n), 801);
    }

    /** "The value name 0, a definition that is no ghost, of the type INT: 5 for that name." */
    private static void thirdPartsZero() {
        World w = new World();
        World.Unit t = w.unit().typeHole(0).type(1, w.integer()).type(2, w.pairOfIntegers());
        int empty = w.unit().node;
        int n = w.choose(empty, empty, t.node);
        int[] due = {500, 500, 500, 0, 500};
        for (int way : World.WAYS) {
            t.in(way, 0);
            DUE.is(World.WORDS[way], w.error(n), due[way]);
        }
        t.value(0, w.named(1), w.number(1));
        DUE.is("a name that is INT", w.error(n), 0);
        t.value(0, w.named(2), w.pair(w.number(1), w.number(1)));
        DUE.is("a pair", w.error(n), 500);
        t.value(0, w.named(0), w.ref(0));
        DUE.is("an open name", w.error(n), 500);
        t.hole(1);
        DUE.is("5 ahead of 8", w.error(n), 500);
        t.value(0, w.number(1));
        DUE.is("8", w.error(n), 801);
        World.Unit s = w.unit().typeHole(0).hole(0, w.named(0));
        World.Unit a = w.unit().type(0, w.integer()).value(0, w.number(1));
        DUE.is("a stamp, though it is an INT behind it", w.error(w.choose(empty, empty, w.seal(a.node, s.node))), 500);
        for (int flags = 1; flags < 4; flags++) {
            t.remove(1).set(0, w.integer(), w.number(1), flags);
            DUE.is("lazy, an effect", w.error(n), 0);
        }
    }

    private static void chosenValues() {
        int[][] due = {
            {0, 500, 500, 500, 500},
            {500, 800, 800, 800, 800},
            {500, 800, 800, 800, 800},
            {500, 800, 800, 2, 6},
            {500, 800, 800, 6, 6}};
        for (int name = 0; name < 10; name += 3) {
            World w = new World();
            World.Unit a = w.unit();
            World.Unit b = w.unit();
            int n = w.choose(a.node, b.node, w.unit().value(0, w.number(1)).node);
            for (int first : World.WAYS) {
                for (int second : World.WAYS) {
                    a.in(first, name);
                    b.in(second, name);
                    table("CHOOSE of " + World.WORDS[first] + " and " + World.WORDS[second], w, n, name,
                        due[first][second]);
                }
            }
        }
    }

    private static void chosenTypes() {
        int[][] due = {{0, 5, 5, 5}, {5, 8, 8, 8}, {5, 8, 2, 3}, {5, 8, 3, 2}};
        for (int name = 0; name < 6; name++) {
            World w = new World();
            World.Unit a = w.unit();
            World.Unit b = w.unit();
            int n = w.choose(a.node, b.node, w.unit().value(0, w.number(1)).node);
            int[] types = {-2, -1, w.integer(), w.pairOfIntegers()};
            for (int first = 0; first < 4; first++) {
                for (int second = 0; second < 4; second++) {
                    a.type(name, types[first]);
                    b.type(name, types[second]);
                    int told = due[first][second];
                    DUE.is("types " + first + " and " + second, w.error(n), told > 3 ? 100 * told + 50 + name : 0);
                    if (told <= 3) {
                        DUE.is("types " + first + " and " + second, w.typeOf(n, name), told);
                    }
                }
            }
            DUE.is("PAIRs in both", w.same(n, name, a.node, name), true);
        }
    }

    private static void chooseErrorsInOrder() {
        World w = new World();
        World.Unit a = w.unit().typeHole(0).hole(0).type(5, w.integer()).hole(9);
        World.Unit b = w.unit().typeHole(0).hole(0);
        World.Unit t = w.unit().hole(1);
        int n = w.choose(a.node, b.node, t.node);
        DUE.is("5 of the third part", w.error(n), 500);
        t.value(0, w.number(1));
        DUE.is("8 of the third part", w.error(n), 801);
        t.remove(1);
        DUE.is("5 of a type name", w.error(n), 555);
        b.type(5, w.integer());
        DUE.is("5 of a value name", w.error(n), 509);
        b.hole(9);
        DUE.is("8 of a type", w.error(n), 850);
        a.type(0, w.integer());
        DUE.is("8 of a type, of one of both", w.error(n), 850);
        b.type(0, w.integer());
        DUE.is("8 of a value", w.error(n), 800);
        a.value(0, w.number(1));
        b.value(0, w.pairOfIntegers(), w.pair(w.number(1), w.number(1)));
        DUE.is("8 of a higher value ahead of 2", w.error(n), 809);
        a.value(9, w.number(1));
        b.value(9, w.number(1));
        DUE.is("2", w.error(n), 200);
    }

    private static void chooseByRisingNames() {
        World w = new World();
        World.Unit a = w.unit();
        World.Unit b = w.unit();
        int n = w.choose(a.node, b.node, w.unit().value(0, w.number(1)).node);
        for (int name = 9; name >= 0; name--) {
            (name % 2 == 0 ? a : b).hole(name);
            DUE.is("a value name that one lacks", w.error(n), 500 + name);
        }
        for (int name = 5; name >= 0; name--) {
            (name % 2 == 0 ? a : b).typeHole(name);
            DUE.is("a type name that one lacks", w.error(n), 550 + name);
        }
        for (int name = 0; name < 6; name++) {
            DUE.is("the lowest is left", w.error(n), 550 + name);
            (name % 2 == 0 ? b : a).type(name, w.integer());
        }
        for (int name = 0; name < 10; name++) {
            DUE.is("the lowest is left", w.error(n), 500 + name);
            (name % 2 == 0 ? b : a).value(name, w.number(1));
        }
        for (int name = 0; name < 6; name++) {
            DUE.is("the lowest type hole", w.error(n), 850 + name);
            (name % 2 == 0 ? a : b).type(name, w.integer());
        }
        for (int name = 0; name < 10; name++) {
            DUE.is("the lowest value hole", w.error(n), 800 + name);
            (name % 2 == 0 ? a : b).value(name, w.number(1));
        }
        DUE.is("none", w.error(n), 0);
    }

    /** "For a type name that has the same type in both, that is it; otherwise it is a new stamp." */
    private static void chooseStampsForUnlikeTypes() {
        World w = new World();
        World.Unit a = w.unit().type(0, w.integer());
        World.Unit s = w.unit().typeHole(0);
        int t = w.unit().value(0, w.number(1)).node;
        int sealed = w.seal(a.node, s.node);
        int other = w.sealAnew(a.node, s.node);
        DUE.is("the same stamp in both", w.same(w.choose(sealed, sealed, t), 0, sealed, 0), true);
        int unlike = w.choose(sealed, other, t);
        DUE.is("two stamps", w.typeOf(unlike, 0), 3);
        DUE.is("another one than the first one's", w.same(unlike, 0, sealed, 0), false);
        DUE.is("another one than the second one's", w.same(unlike, 0, other, 0), false);
        DUE.is("a stamp and an INT", w.typeOf(w.choose(sealed, a.node, t), 0), 3);
        DUE.is("an INT and a stamp", w.typeOf(w.choose(a.node, sealed, t), 0), 3);
        World.Unit b = w.unit().type(0, w.pairOfIntegers());
        DUE.is("a PAIR and a stamp", w.typeOf(w.choose(b.node, sealed, t), 0), 3);
        DUE.is("a PAIR and a PAIR that begins alike", w.typeOf(w.choose(b.node,
            w.unit().type(0, w.pairOf(w.pairOfIntegers(), w.integer())).node, t), 0), 3);
    }

    private static void choosePutsStamps() {
        for (int name = 0; name < 6; name++) {
            World w = new World();
            int pair = w.pairOfIntegers();
            World.Unit a = w.unit().type(name, pair).value(0, pair, w.pair(w.number(1), w.number(1)))
                .value(9, w.pairOf(w.integer(), pair), w.pair(w.number(1), w.pair(w.number(1), w.number(1))));
            World.Unit s = w.unit().typeHole(name).hole(0, w.named(name)).hole(9, w.pairOf(w.integer(), w.named(name)));
            int sealed = w.seal(a.node, s.node);
            int n = w.choose(a.node, sealed, w.unit().value(0, w.number(1)).node);
            DUE.is("a PAIR in one, a stamp in the other one", w.error(n), 0);
            DUE.is("it is a stamp", w.size(n, 0), 1);
            DUE.is("a PAIR of an INT and a stamp", w.size(n, 9), 3);
            World.Unit around = w.unit().typeHole(name).hole(0, w.named(name));
            DUE.is("of the new stamp", w.error(w.link(n, around.node)), 0);
            around.hole(0, pair);
            DUE.is("not of the PAIR", w.error(w.link(n, around.node)), 200);
        }
    }

    /** "Outermost ones first." */
    private static void choosePutsOutermostFirst() {
        World w = new World();
        int pair = w.pairOfIntegers();
        int pairs = w.pairOf(pair, pair);
        int two = w.pair(w.number(1), w.number(1));
        World.Unit a = w.unit().type(0, w.integer()).type(5, pair).value(0, pair, two);
        World.Unit b = w.unit().type(0, pair).type(5, pairs).value(0, pairs, w.pair(two, two));
        int n = w.choose(a.node, b.node, w.unit().value(0, w.number(1)).node);
        DUE.is("5, as it is further out, though 0 fits inside", w.size(n, 0), 1);
        World.Unit around = w.unit().typeHole(0).typeHole(5).hole(0, w.named(5));
        DUE.is("it is the stamp 5", w.error(w.link(n, around.node)), 0);
        around.hole(0, w.named(0));
        DUE.is("not 0", w.error(w.link(n, around.node)), 200);
    }

    /** "At each place the lowest name that fits." */
    private static void choosePutsTheLowest() {
        for (int low = 0; low < 5; low++) {
            World w = new World();
            World.Unit a = w.unit().value(0, w.number(1));
            World.Unit b = w.unit().value(0, w.pairOfIntegers(), w.pair(w.number(1), w.number(1)));
            for (int name = low; name < 6; name++) {
                a.type(name, w.integer());
                b.type(name, w.pairOfIntegers());
            }
            int n = w.choose(a.node, b.node, w.unit().value(0, w.number(1)).node);
            World.Unit around = w.unit();
            int linked = w.link(n, around.node);
            for (int name = low; name < 6; name++) {
                around.typeHole(name).hole(0, w.named(name));
                DUE.is("the stamp " + low + " is put, not " + name, w.error(linked), name == low ? 0 : 200);
            }
            a.type(low, w.pairOfIntegers());
            around.hole(0, w.named(low + 1));
            DUE.is("the same in both: the next name is put in one, and in the other one", w.error(linked), 0);
        }
    }

    private static void chooseUnlikeByRisingNames() {
        World w = new World();
        World.Unit a = w.unit();
        World.Unit b = w.unit();
        int n = w.choose(a.node, b.node, w.unit().value(0, w.number(1)).node);
        for (int name = 9; name >= 0; name--) {
            a.value(name, w.number(1));
            b.value(name, w.pairOfIntegers(), w.pair(w.number(1), w.number(1)));
            DUE.is("the lowest one", w.error(n), 200 + name);
        }
        for (int name = 0; name < 10; name++) {
            DUE.is("the lowest one that is left", w.error(n), 200 + name);
            b.value(name, w.number(2));
        }
        DUE.is("none", w.error(n), 0);
    }

    // ---- RENAME, HIDE

    private static void renamedValues() {
        int[] due = {500, 1, 5, 2, 6};
        for (int name = 0; name < 10; name += 3) {
            World w = new World();
            World.Unit a = w.unit();
            int to = (name + 4) % 10;
            int n = w.rename(a.node, name, to);
            for (int way : World.WAYS) {
                a.in(way, name);
                DUE.is(World.WORDS[way], w.error(n), way == NO ? 500 + name : 0);
                if (way != NO) {
                    DUE.is(World.WORDS[way] + " has come", w.valueOf(n, to), due[way]);
                    DUE.is(World.WORDS[way] + " has come, with its size", w.size(n, to), 1);
                    DUE.is(World.WORDS[way] + " has gone", w.valueOf(n, name), 0);
                    DUE.is(World.WORDS[way] + " has gone, and its size", w.size(n, name), 0);
                }
            }
        }
    }

    private static void renameToWhatIsThere() {
        for (int to = 1; to < 10; to += 4) {
            World w = new World();
            World.Unit a = w.unit();
            int n = w.rename(a.node, 0, to);
            for (int way : World.WAYS) {
                a.in(way, to).in(HOLE, 0);
                DUE.is(World.WORDS[way] + " is there: 4, for that other one", w.error(n), way == NO ? 0 : 400 + to);
                a.in(NO, 0);
                DUE.is("5 ahead of 4", w.error(n), 500);
            }
        }
    }

    private static void hiddenValues() {
        int[] due = {500, 800, 800, 0, 0};
        for (int name = 0; name < 10; name += 3) {
            World w = new World();
            World.Unit a = w.unit();
            int other = (name + 1) % 10;
            a.hole(other);
            int n = w.hide(a.node, name);
            for (int way : World.WAYS) {
                a.in(way, name);
                DUE.is(World.WORDS[way], w.error(n), due[way] == 0 ? 0 : due[way] + name);
                if (due[way] == 0) {
                    DUE.is(World.WORDS[way] + " is not shown", w.valueOf(n, name), 0);
                    DUE.is(World.WORDS[way] + " has no size", w.size(n, name), 0);
                    DUE.is("another one is shown", w.valueOf(n, other), 1);
                }
            }
        }
    }

    private static void typeNamesStay() {
        World w = new World();
        World.Unit a = w.unit().value(0, w.number(1)).hole(1, w.pairOfIntegers());
        for (int name = 0; name < 6; name++) {
            a.type(name, name % 2 == 0 ? w.integer() : -1);
        }
        int[] nodes = {w.rename(a.node, 0, 5), w.hide(a.node, 0), w.rename(a.node, 1, 0)};
        for (int i = 0; i < 2; i++) {
            for (int name = 0; name < 6; name++) {
                DUE.is("type " + name, w.typeOf(nodes[i], name), name % 2 == 0 ? 2 : 1);
            }
            DUE.is("other values stay", w.valueOf(nodes[i], 1), 1);
            DUE.is("other values stay", w.size(nodes[i], 1), 3);
        }
        DUE.is("0 is there", w.error(nodes[2]), 400);
    }
}
