/**
 * Each sentence of "Faces" in the document that is of a UNIT and names a boundary: each error by each name, for the
 * lowest one, which one is told where two hold, and the last input that has none.
 */
public final class UnitFacesTest {
    private static final Due DUE = new Due("UnitFacesTest");

    public static void main(String[] args) {
        typesUseComponents();
        typesUseComponentsWherever();
        typesUseComponentsByRisingNames();
        lackingComesAheadOfKnots();
        lackingComesAheadOfLarge();
        knotsOfEachLength();
        knotsTheOtherWayRound();
        knotsInPairs();
        knotsForTheLowestThatComesIntoItsOwn();
        holesAreNoKnots();
        knotsComeAheadOfLarge();
        typesOf200Parts();
        theLowestTypeOfMore();
        farMoreThan200Parts();
        openNamesArePartsToo();
        typesAreMadeFull();
        valuesUseComponents();
        valuesUseComponentsWherever();
        valuesOf200Parts();
        valueTypesByRisingNames();
        oneOfAValueComesAheadOf7();
        typesComeAheadOfValues();
        typesOfValuesComeAheadOfDefinitions();
        aNumberIsInt();
        aRefIsOfItsComponent();
        aRefToNone();
        addNeedsTwoInts();
        aPairIsOfBoth();
        firstAndSecondNeedAPair();
        firstAndSecondOfPairs();
        whenNeedsAnIntFirst();
        whenNeedsTheOthersTheSame();
        partsFromLeftToRight();
        theWholeBehindItsParts();
        expressionsLargerThanAType();
        definitionsByRisingNames();
        noGhostHasARefToAGhost();
        noGhostHasARefToAGhostWherever();
        ghostsAreLookedAtBehindAll();
        ghostsMayHaveRefsToGhosts();
        ghostsAndHolesAreLookedAt();
        whatAFaceTells();
        allNamesAtOnce();
        DUE.end();
    }

    // ---- "For each type name that is defined, by rising names, each name that is used in it has to be a component: 1"

    private static void typesUseComponents() {
        for (int defined = 0; defined < 6; defined++) {
            World w = new World();
            World.Unit a = w.unit();
            for (int used = 0; used < 6; used++) {
                if (used != defined) {
                    a.type(defined, w.named(used));
                    DUE.is(defined + " uses " + used, w.error(a.node), 150 + defined);
                    a.typeHole(used);
                    DUE.is("a hole is a component", w.error(a.node), 0);
                    a.type(used, w.integer());
                    DUE.is("a definition is one", w.error(a.node), 0);
                    a.noType(used);
                    DUE.is("none is one any more", w.error(a.node), 150 + defined);
                }
            }
        }
    }

    private static void typesUseComponentsWherever() {
        World w = new World();
        World.Unit a = w.unit();
        int none = w.named(4);
        int integer = w.integer();
        int[] types = {none, w.pairOf(none, integer), w.pairOf(integer, none), w.pairOf(none, none),
            w.pairOf(w.pairOf(integer, none), integer), w.pairOf(integer, w.pairOf(none, integer))};
        for (int i = 0; i < types.length; i++) {
            a.noType(4).type(2, types[i]);
            DUE.is("place " + i, w.error(a.node), 152);
            a.typeHole(4);
            DUE.is("place " + i, w.error(a.node), 0);
        }
    }

    private static void typesUseComponentsByRisingNames() {
        World w = new World();
        World.Unit a = w.unit();
        for (int name = 5; name > 0; name--) {
            a.type(name, w.named(0));
            DUE.is("the lowest one that is defined", w.error(a.node), 150 + name);
        }
        a.typeHole(0);
        DUE.is("0 is a component", w.error(a.node), 0);
        a.type(3, w.pairOf(w.named(5), w.named(4))).noType(4).noType(5);
        DUE.is("told by the name that is defined, not by the one that is used", w.error(a.node), 153);
    }

    private static void lackingComesAheadOfKnots() {
        World w = new World();
        World.Unit a = w.unit().type(0, w.named(0)).type(5, w.named(4));
        DUE.is("1 of a higher name ahead of 3", w.error(a.node), 155);
        a.typeHole(4);
        DUE.is("3", w.error(a.node), 350);
    }

    private static void lackingComesAheadOfLarge() {
        World w = new World();
        World.Unit a = large(w, 0).type(5, w.named(3));
        DUE.is("1 of a higher name ahead of 7", w.error(a.node), 155);
        a.typeHole(3);
        DUE.is("7", w.error(a.node), 750);
    }

    // ---- "The error is 3, a knot, for the lowest name that comes into its own by that"

    private static void knotsOfEachLength() {
        for (int low = 0; low < 6; low++) {
            for (int high = low; high < 6; high++) {
                World w = new World();
                World.Unit a = w.unit();
                for (int name = low; name < high; name++) {
                    a.type(name, w.named(name + 1));
                }
                a.typeHole(high);
                DUE.is("no knot from " + low + " to " + high, w.error(a.node), 0);
                a.type(high, w.named(low));
                DUE.is("a knot from " + low + " to " + high, w.error(a.node), 350 + low);
                a.type(high, w.integer());
                DUE.is("no knot from " + low + " to " + high, w.error(a.node), 0);
            }
        }
    }

    private static void knotsTheOtherWayRound() {
        for (int low = 0; low < 5; low++) {
            World w = new World();
            World.Unit a = w.unit();
            for (int name = low + 1; name < 6; name++) {
                a.type(name, w.pairOf(w.named(name - 1), w.integer()));
            }
            a.type(low, w.named(5));
            DUE.is("from 5 down to " + low, w.error(a.node), 350 + low);
        }
    }

    private static void knotsInPairs() {
        World w = new World();
        World.Unit a = w.unit().typeHole(1).typeHole(4);
        int integer = w.integer();
        a.type(1, w.pairOf(w.named(4), integer));
        int[] types = {w.pairOf(w.named(1), integer), w.pairOf(integer, w.named(1)),
            w.pairOf(w.pairOf(integer, w.named(1)), integer)};
        for (int type : types) {
            a.type(4, type);
            DUE.is("a knot through a pair", w.error(a.node), 351);
        }
        a.type(4, w.pairOf(integer, integer));
        DUE.is("no knot", w.error(a.node), 0);
    }

    private static void knotsForTheLowestThatComesIntoItsOwn() {
        World w = new World();
        World.Unit a = w.unit().type(0, w.named(2)).type(2, w.named(4)).type(4, w.named(2));
        DUE.is("0 leads in, but does not come into its own", w.error(a.node), 352);
        a.type(4, w.named(4));
        DUE.is("nor does 2", w.error(a.node), 354);
        a.type(1, w.named(3)).type(3, w.named(1));
        DUE.is("of two knots the lowest name", w.error(a.node), 351);
        a.type(3, w.pairOf(w.named(4), w.named(4)));
        DUE.is("the other one is left", w.error(a.node), 354);
    }

    private static void holesAreNoKnots() {
        World w = new World();
        World.Unit a = w.unit().typeHole(0).type(1, w.named(0)).type(2, w.pairOf(w.named(1), w.named(0)));
        DUE.is("a hole has no equation", w.error(a.node), 0);
        DUE.is("what uses one twice is no knot", w.typeOf(a.node, 2), 2);
    }

    private static void knotsComeAheadOfLarge() {
        World w = new World();
        World.Unit a = large(w, 0);
        DUE.is("7", w.error(a.node), 750);
        a.type(5, w.named(5));
        DUE.is("3 of a higher name ahead of 7", w.error(a.node), 355);
    }

    // ---- "Else 7 for the lowest one that would have more than 200 parts"

    /** A unit with a type of 199 parts by a name: 100 INTs, by 5 times 5 times 4; the two next names are used. */
    private static World.Unit full(World w, int name) {
        int second = (name + 1) % 6;
        int third = (name + 2) % 6;
        return w.unit().type(name, w.tree(w.named(second), 5)).type(second, w.tree(w.named(third), 5))
            .type(third, w.tree(w.integer(), 4));
    }

    /** A unit with a type of 201 parts by a name. */
    private static World.Unit large(World w, int name) {
        World.Unit a = full(w, name);
        int second = w.tree(w.named((name + 1) % 6), 5);
        return a.type(name, w.pairOf(second, w.integer()));
    }

    private static void typesOf200Parts() {
        for (int name = 0; name < 6; name++) {
            World w = new World();
            World.Unit a = full(w, name);
            DUE.is("199 parts by " + name, w.error(a.node), 0);
            DUE.is("199 parts by " + name, w.typeOf(a.node, name), 2);
            a.hole(0, w.named(name));
            DUE.is("199 parts by " + name, w.size(a.node, 0), 199);
            World.Unit b = large(w, name);
            DUE.is("201 parts by " + name, w.error(b.node), 750 + name);
            b.typeHole((name + 2) % 6);
            DUE.is("51 parts by " + name, w.error(b.node), 0);
        }
    }

    private static void theLowestTypeOfMore() {
        World w = new World();
        World.Unit a = large(w, 2);
        DUE.is("201 parts", w.error(a.node), 752);
        a.type(5, w.named(2));
        DUE.is("5 is of as many", w.error(a.node), 752);
        a.type(1, w.pairOf(w.integer(), w.named(2)));
        DUE.is("1 would be of more", w.error(a.node), 751);
        a.type(0, w.tree(w.named(3), 5));
        DUE.is("0 is of fewer", w.error(a.node), 751);
    }

    private static void farMoreThan200Parts() {
        World w = new World();
        World.Unit a = w.unit();
        for (int name = 0; name < 5; name++) {
            a.type(name, w.tree(w.named(name + 1), 6));
        }
        a.type(5, w.tree(w.integer(), 6));
        DUE.is("6 to the power of 6 INTs", w.error(a.node), 750);
        a.typeHole(1);
        DUE.is("0 is small: 2 is the lowest one", w.error(a.node), 752);
        a.typeHole(3);
        DUE.is("all are small", w.error(a.node), 0);
    }

    /** "A type in full has at most 200 parts (INTs, PAIRs, stamps and names)." */
    private static void openNamesArePartsToo() {
        World w = new World();
        World.Unit a = full(w, 0).type(2, w.tree(w.named(3), 4)).typeHole(3).hole(0, w.named(0)).hole(1, w.named(3));
        DUE.is("100 names and 99 PAIRs", w.size(a.node, 0), 199);
        DUE.is("one name", w.size(a.node, 1), 1);
        a.type(0, w.pairOf(w.tree(w.named(1), 5), w.named(3)));
        DUE.is("101 names", w.error(a.node), 750);
    }

    /** "Made full by putting for each open name that has an equation what that tells, again and again." */
    private static void typesAreMadeFull() {
        World w = new World();
        World.Unit a = w.unit().type(5, w.named(0)).type(0, w.named(4)).type(4, w.named(1)).type(1, w.named(3))
            .type(3, w.named(2)).type(2, w.pairOfIntegers());
        for (int name = 0; name < 6; name++) {
            DUE.is(name + " is what 2 is", w.same(a.node, name, a.node, 2), true);
            a.hole(name, w.pairOf(w.named(name), w.named(5 - name)));
            DUE.is("a pair of two of " + name, w.size(a.node, name), 7);
        }
        a.typeHole(2);
        DUE.is("5 is the name 2", w.same(a.node, 5, a.node, 3), true);
        DUE.is("a pair of names", w.size(a.node, 5), 3);
    }

    // ---- "Then for each value name, rising: its type has to use components alone: 1"

    private static void valuesUseComponents() {
        for (int name = 0; name < 10; name++) {
            World w = new World();
            World.Unit a = w.unit();
            for (int used = 0; used < 6; used++) {
                a.hole(name, w.named(used));
                DUE.is("value " + name + " uses " + used, w.error(a.node), 100 + name);
                a.typeHole(used);
                DUE.is("a hole is a component", w.error(a.node), 0);
                a.noType(used);
            }
        }
    }

    private static void valuesUseComponentsWherever() {
        World w = new World();
        World.Unit a = w.unit();
        int none = w.named(0);
        int integer = w.integer();
        int[] types = {none, w.pairOf(none, integer), w.pairOf(integer, none),
            w.pairOf(w.pairOf(integer, none), integer)};
        for (int type : types) {
            a.hole(3, type);
            DUE.is("of a hole", w.error(a.node), 103);
            a.set(3, type, -1, 4);
            DUE.is("of a ghost hole", w.error(a.node), 103);
            a.set(3, type, w.number(1), 4);
            DUE.is("of a ghost", w.error(a.node), 103);
            a.value(3, type, w.number(1));
            DUE.is("of a definition, ahead of 2", w.error(a.node), 103);
        }
    }

    // ---- "The type made full is to have at most 200 parts: 7"

    private static void valuesOf200Parts() {
        for (int name = 0; name < 10; name++) {
            World w = new World();
            World.Unit a = full(w, 0).hole(name, w.named(0));
            DUE.is("199 parts by " + name, w.error(a.node), 0);
            DUE.is("199 parts by " + name, w.size(a.node, name), 199);
            a.hole(name, w.pairOf(w.named(0), w.integer()));
            DUE.is("201 parts by " + name, w.error(a.node), 700 + name);
            a.hole(name, w.pairOf(w.integer(), w.named(0)));
            DUE.is("201 parts by " + name, w.error(a.node), 700 + name);
            a.hole(name, w.tree(w.named(0), 6));
            DUE.is("1199 parts by " + name, w.error(a.node), 700 + name);
            a.ghost(name, w.number(1)).hole(name, w.tree(w.named(1), 5));
            DUE.is("199 parts by " + name, w.size(a.node, name), 199);
        }
    }

    private static void valueTypesByRisingNames() {
        World w = new World();
        World.Unit a = full(w, 0);
        int large = w.pairOf(w.named(0), w.integer());
        int none = w.named(5);
        a.hole(9, none).hole(8, large);
        DUE.is("7 of 8 ahead of 1 of 9", w.error(a.node), 708);
        a.hole(3, none);
        DUE.is("1 of 3 ahead of 7 of 8", w.error(a.node), 103);
        a.hole(0, large);
        DUE.is("7 of 0 ahead of 1 of 3", w.error(a.node), 700);
    }

    private static void oneOfAValueComesAheadOf7() {
        World w = new World();
        World.Unit a = full(w, 0).hole(4, w.pairOf(w.named(0), w.named(5)));
        DUE.is("1 ahead of 7 for one", w.error(a.node), 104);
        a.typeHole(5);
        DUE.is("7", w.error(a.node), 704);
    }

    private static void typesComeAheadOfValues() {
        World w = new World();
        World.Unit a = w.unit().hole(0, w.named(3));
        a.type(5, w.named(4));
        DUE.is("1 of a type ahead of 1 of a value", w.error(a.node), 155);
        a.type(5, w.named(5));
        DUE.is("3 of a type", w.error(a.node), 355);
        World.Unit b = large(w, 5).hole(0, w.named(3));
        DUE.is("7 of a type", w.error(b.node), 755);
        b.typeHole(0);
        DUE.is("1 of a value", w.error(b.node), 100);
    }

    private static void typesOfValuesComeAheadOfDefinitions() {
        World w = new World();
        World.Unit a = full(w, 0).value(0, w.pairOfIntegers(), w.number(1));
        DUE.is("2", w.error(a.node), 200);
        a.hole(9, w.named(5));
        DUE.is("1 of a higher name's type ahead of 2", w.error(a.node), 109);
        a.hole(9, w.pairOf(w.named(0), w.integer()));
        DUE.is("7 of a higher name's type ahead of 2", w.error(a.node), 709);
        a.value(0, w.ref(8));
        DUE.is("7 of a higher name's type ahead of 1 of a definition", w.error(a.node), 709);
        a.remove(9);
        DUE.is("1 of a definition", w.error(a.node), 100);
    }

    // ---- "Its expression's type has to be found, and to be the same as the component's"

    private static void aNumberIsInt() {
        for (int name = 0; name < 10; name++) {
            World w = new World();
            World.Unit a = w.unit().typeHole(0).type(1, w.pairOfIntegers()).type(2, w.integer());
            a.value(name, w.number(5));
            DUE.is("an INT by " + name, w.error(a.node), 0);
            a.value(name, w.named(2), w.number(5));
            DUE.is("INT made full by " + name, w.error(a.node), 0);
            a.value(name, w.pairOfIntegers(), w.number(5));
            DUE.is("no PAIR by " + name, w.error(a.node), 200 + name);
            a.value(name, w.named(1), w.number(5));
            DUE.is("nor a name that is one", w.error(a.node), 200 + name);
            a.value(name, w.named(0), w.number(5));
            DUE.is("nor an open name", w.error(a.node), 200 + name);
        }
    }

    private static void aRefIsOfItsComponent() {
        World w = new World();
        World.Unit a = w.unit().typeHole(0).typeHole(1).type(2, w.pairOf(w.named(0), w.named(1)));
        a.hole(9, w.named(2)).value(0, w.pairOf(w.named(0), w.named(1)), w.ref(9));
        DUE.is("the same in full", w.error(a.node), 0);
        a.value(0, w.pairOf(w.named(1), w.named(0)), w.ref(9));
        DUE.is("not the same", w.error(a.node), 200);
        a.value(0, w.integer(), w.ref(9));
        DUE.is("no INT", w.error(a.node), 200);
        a.value(0, w.named(0), w.ref(0));
        DUE.is("to itself", w.error(a.node), 0);
        a.value(0, w.named(1), w.ref(8)).value(8, w.named(1), w.ref(0));
        DUE.is("to each other", w.error(a.node), 0);
        a.hole(8, w.named(0));
        DUE.is("an open name is no other one", w.error(a.node), 200);
    }

    /** "A REF has the type of that component, 1 if there is none." */
    private static void aRefToNone() {
        for (int name = 0; name < 10; name++) {
            World w = new World();
            World.Unit a = w.unit();
            int other = (name + 3) % 10;
            a.value(name, w.ref(other));
            DUE.is("none for " + name, w.error(a.node), 100 + name);
            a.hole(other);
            DUE.is("a hole for " + name, w.error(a.node), 0);
            a.value(other, w.number(2));
            DUE.is("a definition for " + name, w.error(a.node), 0);
            a.remove(other);
            DUE.is("none any more for " + name, w.error(a.node), 100 + name);
        }
    }

    /** A unit with holes of unlike types: 5 INT, 6 an open name, 7 a PAIR of INTs, 8 another open name. */
    private static World.Unit holes(World w) {
        return w.unit().typeHole(0).typeHole(1).hole(5).hole(6, w.named(0)).hole(7, w.pairOfIntegers())
            .hole(8, w.named(1));
    }

    /** The error of an expression that is an INT, or has an error: by itself, and behind others in a larger one. */
    private static void told(World w, World.Unit a, String what, int expression, int due) {
        a.value(0, expression);
        DUE.is(what, w.error(a.node), due);
        a.value(0, w.pairOfIntegers(), w.pair(w.number(1), expression));
        DUE.is(what + ", in a pair", w.error(a.node), due);
        a.value(0, w.second(w.pair(w.ref(7), expression)));
        DUE.is(what + ", out of a pair", w.error(a.node), due);
        a.value(0, w.add(w.number(1), expression));
        DUE.is(what + ", in an ADD", w.error(a.node), due);
        a.value(0, w.when(w.number(1), w.number(1), expression));
        DUE.is(what + ", in a WHEN", w.error(a.node), due);
    }

    private static void addNeedsTwoInts() {
        World w = new World();
        World.Unit a = holes(w);
        for (int first = 5; first < 9; first++) {
            for (int second = 5; second < 9; second++) {
                told(w, a, "ADD of " + first + " and " + second, w.add(w.ref(first), w.ref(second)),
                    first + second == 10 ? 0 : 200);
            }
        }
        a.value(0, w.pairOfIntegers(), w.add(w.ref(5), w.ref(5)));
        DUE.is("ADD is an INT", w.error(a.node), 200);
        a.value(0, w.add(w.number(1), w.add(w.ref(5), w.number(2))));
        DUE.is("of an ADD", w.error(a.node), 0);
    }

    /** "A PAIR is one of both types." */
    private static void aPairIsOfBoth() {
        World w = new World();
        World.Unit a = holes(w);
        int[] types = {w.integer(), w.named(0), w.pairOfIntegers(), w.named(1)};
        for (int first = 0; first < 4; first++) {
            for (int second = 0; second < 4; second++) {
                a.value(0, w.pairOf(types[first], types[second]), w.pair(w.ref(5 + first), w.ref(5 + second)));
                DUE.is("PAIR of " + first + " and " + second, w.error(a.node), 0);
                a.value(0, w.pairOf(types[second], types[first]), w.pair(w.ref(5 + first), w.ref(5 + second)));
                DUE.is("the other way round", w.error(a.node), first == second ? 0 : 200);
            }
        }
    }

    private static void firstAndSecondNeedAPair() {
        World w = new World();
        World.Unit a = holes(w);
        for (int name = 5; name < 9; name++) {
            told(w, a, "FIRST of " + name, w.first(w.ref(name)), name == 7 ? 0 : 200);
            told(w, a, "SECOND of " + name, w.second(w.ref(name)), name == 7 ? 0 : 200);
        }
        a.value(0, w.first(w.number(1)));
        DUE.is("FIRST of a NUMBER", w.error(a.node), 200);
        a.value(0, w.second(w.first(w.ref(7))));
        DUE.is("SECOND of an INT", w.error(a.node), 200);
    }

    private static void firstAndSecondOfPairs() {
        World w = new World();
        World.Unit a = holes(w);
        int pair = w.pair(w.pair(w.ref(6), w.ref(7)), w.pair(w.ref(8), w.ref(5)));
        a.value(0, w.pairOf(w.named(0), w.pairOfIntegers()), w.first(pair));
        DUE.is("FIRST", w.error(a.node), 0);
        a.value(0, w.pairOf(w.named(1), w.integer()), w.second(pair));
        DUE.is("SECOND", w.error(a.node), 0);
        a.value(0, w.named(0), w.first(w.first(pair)));
        DUE.is("FIRST of FIRST", w.error(a.node), 0);
        a.value(0, w.pairOfIntegers(), w.second(w.first(pair)));
        DUE.is("SECOND of FIRST", w.error(a.node), 0);
        a.value(0, w.named(1), w.first(w.second(pair)));
        DUE.is("FIRST of SECOND", w.error(a.node), 0);
        a.value(0, w.integer(), w.second(w.second(pair)));
        DUE.is("SECOND of SECOND", w.error(a.node), 0);
        a.value(0, w.named(1), w.second(w.second(pair)));
        DUE.is("no other one", w.error(a.node), 200);
    }

    private static void whenNeedsAnIntFirst() {
        World w = new World();
        World.Unit a = holes(w);
        for (int name = 5; name < 9; name++) {
            told(w, a, "by " + name, w.when(w.ref(name), w.number(1), w.number(2)), name == 5 ? 0 : 200);
        }
    }

    private static void whenNeedsTheOthersTheSame() {
        World w = new World();
        World.Unit a = holes(w);
        int[] types = {w.integer(), w.named(0), w.pairOfIntegers(), w.named(1)};
        for (int second = 0; second < 4; second++) {
            for (int third = 0; third < 4; third++) {
                int when = w.when(w.number(1), w.ref(5 + second), w.ref(5 + third));
                a.value(0, types[second], when);
                DUE.is("others " + second + " and " + third, w.error(a.node), second == third ? 0 : 200);
                a.value(0, w.pairOf(w.pairOfIntegers(), types[second]), w.pair(w.ref(7), when));
                DUE.is("in a pair, " + second + " and " + third, w.error(a.node), second == third ? 0 : 200);
            }
            a.value(0, types[second], w.when(w.number(1), w.ref(8 - second), w.ref(8 - second)));
            DUE.is("it is of their type", w.error(a.node), 200);
        }
        int one = w.pair(w.ref(5), w.ref(6));
        int other = w.pair(w.ref(5), w.ref(8));
        a.value(0, w.pairOf(w.integer(), w.named(0)), w.when(w.number(1), one, one));
        DUE.is("pairs that are the same", w.error(a.node), 0);
        a.value(0, w.pairOf(w.integer(), w.named(0)), w.when(w.number(1), one, other));
        DUE.is("pairs that are as large, but unlike in their second", w.error(a.node), 200);
        a.value(0, w.pairOf(w.integer(), w.named(0)), w.when(w.number(1), w.pair(w.ref(8), w.ref(6)), one));
        DUE.is("pairs that are as large, but unlike in their first", w.error(a.node), 200);
    }

    // ---- "What is made of others is looked at behind them, from left to right"

    private static void partsFromLeftToRight() {
        World w = new World();
        World.Unit a = w.unit();
        int one = w.ref(9);
        int two = w.first(w.number(1));
        int fine = w.number(1);
        int[][] orders = {{one, two, 100}, {two, one, 200}, {one, fine, 100}, {fine, one, 100}, {two, fine, 200},
            {fine, two, 200}};
        for (int[] order : orders) {
            a.value(0, w.add(order[0], order[1]));
            DUE.is("ADD", w.error(a.node), order[2]);
            a.value(0, w.pair(order[0], order[1]));
            DUE.is("PAIR", w.error(a.node), order[2]);
            a.value(0, w.when(order[0], order[1], fine));
            DUE.is("WHEN, first and second", w.error(a.node), order[2]);
            a.value(0, w.when(order[0], fine, order[1]));
            DUE.is("WHEN, first and third", w.error(a.node), order[2]);
            a.value(0, w.when(fine, order[0], order[1]));
            DUE.is("WHEN, second and third", w.error(a.node), order[2]);
        }
        a.value(0, w.first(one));
        DUE.is("FIRST", w.error(a.node), 100);
        a.value(0, w.second(one));
        DUE.is("SECOND", w.error(a.node), 100);
    }

    private static void theWholeBehindItsParts() {
        World w = new World();
        World.Unit a = w.unit();
        int none = w.ref(9);
        int pair = w.pair(w.number(1), w.number(1));
        a.value(0, w.add(pair, none));
        DUE.is("ADD", w.error(a.node), 100);
        a.value(0, w.when(pair, w.number(1), none));
        DUE.is("WHEN, as to its first", w.error(a.node), 100);
        a.value(0, w.when(pair, none, w.number(1)));
        DUE.is("WHEN, as to its first", w.error(a.node), 100);
        a.value(0, w.first(w.add(w.number(1), none)));
        DUE.is("FIRST", w.error(a.node), 100);
        a.value(0, w.pairOfIntegers(), w.add(w.number(1), none));
        DUE.is("and the component's type behind all", w.error(a.node), 100);
    }

    /** A component has 200 parts at most, but what an expression is made of can have more. */
    private static void expressionsLargerThanAType() {
        World w = new World();
        World.Unit a = full(w, 0).hole(9, w.named(0));
        int twice = w.pair(w.ref(9), w.ref(9));
        int often = w.pair(w.pair(twice, w.ref(9)), twice);
        a.value(0, w.named(0), w.first(twice));
        DUE.is("FIRST of 399 parts", w.error(a.node), 0);
        a.value(0, w.named(0), w.second(w.second(often)));
        DUE.is("SECOND of SECOND of 999 parts", w.error(a.node), 0);
        a.value(0, w.named(0), twice);
        DUE.is("399 parts are no component's", w.error(a.node), 200);
        a.value(0, w.named(0), w.first(w.when(w.number(1), twice, twice)));
        DUE.is("a WHEN of two of 399 parts", w.error(a.node), 0);
    }

    private static void definitionsByRisingNames() {
        World w = new World();
        World.Unit a = w.unit().ghostHole(5);
        int[] wrong = {w.ref(9), w.first(w.number(1)), w.ref(5)};
        int[] kinds = {100, 200, 600};
        for (int i = 0; i < 3; i++) {
            for (int j = 0; j < 3; j++) {
                a.value(2, wrong[i]).value(3, wrong[j]);
                DUE.is("the lower one", w.error(a.node), kinds[i] + 2);
                a.remove(2);
                DUE.is("the higher one", w.error(a.node), kinds[j] + 3);
            }
        }
    }

    // ---- "A definition that is no ghost may not have a REF to a ghost: 6"

    private static void noGhostHasARefToAGhost() {
        for (int name = 0; name < 10; name++) {
            World w = new World();
            World.Unit a = w.unit();
            int other = (name + 7) % 10;
            for (int flags = 0; flags < 4; flags++) {
                a.set(name, w.integer(), w.ref(other), flags);
                for (int way : World.WAYS) {
                    a.in(way, other);
                    boolean isGhost = way == World.GHOST || way == World.GHOST_HOLE;
                    DUE.is(World.WORDS[way] + " " + other + " for " + name, w.error(a.node),
                        isGhost ? 600 + name : way == World.NONE ? 100 + name : 0);
                }
            }
        }
    }

    private static void noGhostHasARefToAGhostWherever() {
        World w = new World();
        int ghost = w.ref(1);
        int fine = w.ref(2);
        World.Unit a = w.unit().ghostHole(1).hole(2);
        int[] expressions = {ghost, w.add(ghost, fine), w.add(fine, ghost), w.first(w.pair(fine, ghost)),
            w.second(w.pair(ghost, fine)), w.when(ghost, fine, fine), w.when(fine, ghost, fine),
            w.when(fine, fine, ghost), w.add(w.number(1), w.add(fine, ghost)), w.when(w.number(1), fine, ghost)};
        for (int i = 0; i < expressions.length; i++) {
            a.value(3, expressions[i]);
            DUE.is("expression " + i, w.error(a.node), 603);
        }
        a.value(3, w.add(fine, fine));
        DUE.is("no ghost", w.error(a.node), 0);
    }

    private static void ghostsAreLookedAtBehindAll() {
        World w = new World();
        World.Unit a = w.unit().ghostHole(1);
        a.value(0, w.add(w.ref(1), w.ref(9)));
        DUE.is("1 ahead of 6 for one", w.error(a.node), 100);
        a.value(0, w.first(w.ref(1)));
        DUE.is("2 ahead of 6 for one", w.error(a.node), 200);
        a.value(0, w.pairOfIntegers(), w.ref(1));
        DUE.is("2 as to the component ahead of 6", w.error(a.node), 200);
        a.value(0, w.ref(1)).value(2, w.ref(9));
        DUE.is("6 of a lower name ahead of 1", w.error(a.node), 600);
        a.value(2, w.first(w.number(1)));
        DUE.is("6 of a lower name ahead of 2", w.error(a.node), 600);
    }

    private static void ghostsMayHaveRefsToGhosts() {
        World w = new World();
        World.Unit a = w.unit().ghostHole(1).ghost(2, w.ref(1)).ghost(3, w.add(w.ref(2), w.ref(3)));
        DUE.is("ghosts of ghosts", w.error(a.node), 0);
        for (int flags = 4; flags < 8; flags++) {
            a.set(4, w.integer(), w.ref(3), flags);
            DUE.is("flags " + flags, w.error(a.node), 0);
        }
        a.hole(5).ghost(6, w.ref(5));
        DUE.is("and to what is none", w.error(a.node), 0);
    }

    private static void ghostsAndHolesAreLookedAt() {
        World w = new World();
        World.Unit a = w.unit().ghost(0, w.ref(9));
        DUE.is("1 of a ghost", w.error(a.node), 100);
        a.ghost(0, w.pair(w.number(1), w.number(2)));
        DUE.is("2 of a ghost", w.error(a.node), 200);
        a.hole(0, w.pairOfIntegers());
        DUE.is("a hole has no expression", w.error(a.node), 0);
    }

    // ---- promises 14 to 18, of a UNIT

    private static void whatAFaceTells() {
        World w = new World();
        World.Unit a = w.unit();
        for (int name = 0; name < 10; name++) {
            for (int way : World.WAYS) {
                a.in(way, name);
                DUE.is(World.WORDS[way] + " by " + name, w.valueOf(a.node, name), new int[] {0, 1, 5, 2, 6}[way]);
                DUE.is(World.WORDS[way] + " by " + name + ", size", w.size(a.node, name), way == World.NONE ? 0 : 1);
            }
            a.hole(name, w.pairOfIntegers()).remove(name);
            DUE.is("the size of what has gone", w.size(a.node, name), 0);
        }
        for (int name = 0; name < 6; name++) {
            a.type(name, w.pairOfIntegers()).noType(name);
            DUE.is("a type that has gone", w.typeOf(a.node, name), 0);
        }
    }

    private static void allNamesAtOnce() {
        World w = new World();
        World.Unit a = w.unit();
        for (int name = 0; name < 6; name++) {
            a.type(name, name == 5 ? w.integer() : w.pairOf(w.integer(), w.named(name + 1)));
        }
        for (int name = 0; name < 10; name++) {
            a.hole(name, w.named(name % 6));
        }
        DUE.is("no error", w.error(a.node), 0);
        for (int name = 0; name < 6; name++) {
            DUE.is("type " + name, w.typeOf(a.node, name), 2);
            for (int other = 0; other < 6; other++) {
                DUE.is(name + " and " + other, w.same(a.node, name, a.node, other), name == other);
            }
        }
        for (int name = 0; name < 10; name++) {
            DUE.is("value " + name, w.size(a.node, name), 11 - 2 * (name % 6));
        }
    }
}
