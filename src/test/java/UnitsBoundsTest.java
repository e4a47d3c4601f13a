/**
 * Each sentence of "Units" in the document, and of promises 1 to 9, that names a boundary: the last input that is
 * taken and the first one that is refused, on both sides; nothing there at all, and full.
 */
public final class UnitsBoundsTest {
    private static final Due DUE = new Due("UnitsBoundsTest");
    private static final int MIN = Integer.MIN_VALUE;
    private static final int MAX = Integer.MAX_VALUE;

    public static void main(String[] args) {
        beginsWithNothing();
        objectsHaveNothingInCommon();
        fiveHundredAndTwelveCalls();
        typeKinds();
        typeNamed();
        typePairOfWhatThereIs();
        typeIntCountsForNothing();
        typeNamedSecondCountsForNothing();
        typeWeight();
        typeWeightOfUneven();
        sixtyTypes();
        leafNames();
        leafNumbers();
        expressionKinds();
        expressionOfWhatThereIs();
        expressionPartsThatCountForNothing();
        weightOfAdd();
        weightOfPair();
        weightOfFirst();
        weightOfSecond();
        weightOfWhen();
        partsThatCountForNothingWeighNothing();
        hundredAndTwentyByLeaves();
        hundredAndTwentyByExpressions();
        eightUnits();
        unitsBeginEmpty();
        versionOfWhatThereIs();
        fiveVersions();
        fiveVersionsOfEachUnit();
        aNewVersionBeginsAsTheLatest();
        aNewVersionKeepsFlags();
        theLatestIsEdited();
        setTypeUnits();
        setTypeTypes();
        setTypeNames();
        setTypeHoleAndNone();
        setValueUnits();
        setValueTypes();
        setValueExpressions();
        setValueNames();
        setValueFlags();
        setValueFlagsOfHoles();
        setValueTakesThePlace();
        removeUnits();
        removeNames();
        removeTellsWhetherThereWasOne();
        removeOfTheLatest();
        DUE.end();
    }

    private static int[] outside(int most) {
        return new int[] {-1, most, MIN, MAX};
    }

    // ---- promise 1: "Begins with nothing."

    private static void beginsWithNothing() {
        MixinUnits x = new MixinUnits();
        DUE.index("no type", () -> x.type(1, 0, 0));
        DUE.index("no expression", () -> x.expression(2, 0, 0, 0));
        DUE.index("no unit to have a version", () -> x.version(0));
        DUE.index("no unit to set", () -> x.setType(0, 0, -1));
        DUE.index("no unit to set", () -> x.setValue(0, 0, 0, -1, 0));
        DUE.index("no unit to remove from", () -> x.remove(0, 0));
        DUE.index("no unit of a node", () -> x.unitNode(0, 0));
        DUE.index("nor its latest version", () -> x.unitNode(0, -1));
        DUE.index("no node", () -> x.node(0, 0, 0, false));
        DUE.index("no node", () -> x.choose(0, 0, 0));
        DUE.index("no node", () -> x.rename(0, 0, 1));
        DUE.index("no node", () -> x.error(0));
        DUE.index("no node", () -> x.typeOf(0, 0));
        DUE.index("no node", () -> x.isSameType(0, 0, 0, 0));
        DUE.index("no node", () -> x.valueOf(0, 0));
        DUE.index("no node", () -> x.size(0, 0));
        DUE.index("no node", () -> x.run(0));
        DUE.state("nothing ran", () -> x.result(0, 0));
        DUE.is("no log", x.logged(), 0);
        DUE.index("no log", () -> x.log(0));
        DUE.is("no cells", x.total(), 0);
        DUE.is("none dropped", x.dropped(), 0);
        DUE.index("no node", () -> x.build(0));
        DUE.index("no node", () -> x.compiled(0));
        DUE.index("no node", () -> x.isFresh(0));
        DUE.is("numbered from 0: types", x.type(0, 0, 0), 0);
        DUE.is("numbered from 0: expressions", x.leaf(true, 0), 0);
        DUE.is("numbered from 0: units", x.unit(), 0);
        DUE.is("numbered from 0: nodes", x.unitNode(0, -1), 0);
        DUE.is("numbered from 0: version 0 is there", x.version(0), 1);
    }

    private static void objectsHaveNothingInCommon() {
        World full = new World();
        for (int i = 0; i < 8; i++) {
            full.unit().value(0, full.number(3));
        }
        full.run(0);
        MixinUnits x = new MixinUnits();
        DUE.index("no type of another object", () -> x.type(1, 0, 0));
        DUE.is("no unit of another object", x.unit(), 0);
        DUE.index("no node of another object", () -> x.error(0));
        DUE.state("no run of another object", () -> x.result(0, 0));
        DUE.is("the other one has its own", full.result(0), 3);
    }

    /** "An object is used for at most 512 calls after it has been made." */
    private static void fiveHundredAndTwelveCalls() {
        World w = new World();
        World.Unit a = w.unit().effect(0, w.number(1));
        while (w.calls() < 508) {
            a.effect(0, w.calls() % 2 == 0 ? w.number(1) : w.number(2));
        }
        a.effect(0, w.number(2));
        DUE.is("call 510", w.run(a.node), 0);
        DUE.is("call 511", w.result(0), 2);
        DUE.is("call 512", w.x().log(0), 2);
        DUE.is("calls", w.calls(), 512);
    }

    // ---- promise 2: type

    private static void typeKinds() {
        MixinUnits x = new MixinUnits();
        for (int kind : outside(3)) {
            DUE.argument("kind " + kind, () -> x.type(kind, 0, 0));
        }
        DUE.is("kind 0", x.type(0, 0, 0), 0);
        DUE.is("kind 1", x.type(1, 0, 0), 1);
        DUE.is("kind 2", x.type(2, 0, 0), 2);
    }

    private static void typeNamed() {
        MixinUnits x = new MixinUnits();
        for (int name : outside(6)) {
            DUE.argument("NAMED " + name, () -> x.type(2, name, 0));
        }
        DUE.is("NAMED 0", x.type(2, 0, 0), 0);
        DUE.is("NAMED 5", x.type(2, 5, 0), 1);
    }

    private static void typePairOfWhatThereIs() {
        MixinUnits x = new MixinUnits();
        x.type(0, 0, 0);
        x.type(0, 0, 0);
        for (int type : outside(2)) {
            DUE.index("first " + type, () -> x.type(1, type, 0));
            DUE.index("second " + type, () -> x.type(1, 0, type));
            DUE.index("both " + type, () -> x.type(1, type, type));
        }
        DUE.is("of the first and the last one", x.type(1, 0, 1), 2);
        DUE.index("not of itself", () -> x.type(1, 3, 0));
        DUE.is("of the one just made", x.type(1, 2, 2), 3);
    }

    private static void typeIntCountsForNothing() {
        MixinUnits x = new MixinUnits();
        DUE.is("neither first nor second counts", x.type(0, MIN, MAX), 0);
        DUE.is("neither first nor second counts", x.type(0, MAX, MIN), 1);
        DUE.is("neither first nor second counts", x.type(0, -1, 60), 2);
    }

    private static void typeNamedSecondCountsForNothing() {
        MixinUnits x = new MixinUnits();
        DUE.is("second does not count", x.type(2, 0, MIN), 0);
        DUE.is("second does not count", x.type(2, 0, MAX), 1);
    }

    /** "The weight of one is 1 more than the weights of what it is made of together, at most 12": 11 and 13 here. */
    private static void typeWeight() {
        MixinUnits x = new MixinUnits();
        x.type(0, 0, 0);
        for (int weight = 3; weight <= 11; weight += 2) {
            DUE.is("weight " + weight, x.type(1, (weight - 3) / 2, 0), (weight - 1) / 2);
        }
        DUE.state("weight 13", () -> x.type(1, 5, 0));
        DUE.state("weight 13, the other way round", () -> x.type(1, 0, 5));
        DUE.state("weight 23", () -> x.type(1, 5, 5));
        DUE.is("one that is light is taken still", x.type(1, 4, 0), 6);
    }

    private static void typeWeightOfUneven() {
        MixinUnits x = new MixinUnits();
        x.type(2, 3, 0);
        x.type(1, 0, 0);
        x.type(1, 1, 0);
        DUE.is("5 and 5 are 11", x.type(1, 2, 2), 3);
        x.type(1, 2, 0);
        DUE.state("7 and 5 are 13", () -> x.type(1, 4, 2));
        DUE.is("7 and 3 are 11", x.type(1, 4, 1), 5);
        DUE.is("3 and 7 are 11", x.type(1, 1, 4), 6);
    }

    /** "Types are numbered from 0 as they are made, at most 60." */
    private static void sixtyTypes() {
        MixinUnits x = new MixinUnits();
        for (int i = 0; i < 59; i++) {
            DUE.is("type " + i, x.type(i % 3 == 1 ? 1 : i % 3, 0, 0), i);
        }
        DUE.is("type 59, of 5 parts", x.type(1, 58, 0), 59);
        DUE.state("a 61st INT", () -> x.type(0, 0, 0));
        DUE.state("a 61st PAIR", () -> x.type(1, 0, 0));
        DUE.state("a 61st NAMED", () -> x.type(2, 0, 0));
        DUE.index("there is no 61st", () -> x.type(1, 60, 0));
        x.unit();
        x.unitNode(0, -1);
        x.setType(0, 0, -1);
        x.setValue(0, 0, 59, -1, 0);
        DUE.is("the 60th can be used", x.size(0, 0), 5);
        x.setType(0, 1, 59);
        DUE.is("the 60th can be used", x.typeOf(0, 1), 2);
        DUE.index("there is no 61st", () -> x.setType(0, 0, 60));
        DUE.index("there is no 61st", () -> x.setValue(0, 0, 60, -1, 0));
    }

    // ---- promise 3: leaf

    private static void leafNames() {
        MixinUnits x = new MixinUnits();
        for (int name : outside(10)) {
            DUE.argument("REF " + name, () -> x.leaf(true, name));
        }
        DUE.is("REF 0", x.leaf(true, 0), 0);
        DUE.is("REF 9", x.leaf(true, 9), 1);
    }

    private static void leafNumbers() {
        World w = new World();
        int[] numbers = {MIN, -1, 0, 9, 10, MAX};
        World.Unit a = w.unit();
        for (int i = 0; i < numbers.length; i++) {
            a.value(i, w.number(numbers[i]));
        }
        w.run(a.node);
        for (int i = 0; i < numbers.length; i++) {
            DUE.is("each number is taken", w.result(i), numbers[i]);
        }
    }

    // ---- promise 4: expression

    private static void expressionKinds() {
        MixinUnits x = new MixinUnits();
        x.leaf(false, 1);
        for (int kind : outside(5)) {
            DUE.argument("kind " + kind, () -> x.expression(kind, 0, 0, 0));
        }
        for (int kind = 0; kind < 5; kind++) {
            DUE.is("kind " + kind, x.expression(kind, 0, 0, 0), kind + 1);
        }
    }

    private static void expressionOfWhatThereIs() {
        MixinUnits x = new MixinUnits();
        x.leaf(false, 1);
        x.leaf(false, 2);
        for (int part : outside(2)) {
            for (int kind = 0; kind < 5; kind++) {
                int told = kind;
                DUE.index("first " + part + " of kind " + kind, () -> x.expression(told, part, 0, 0));
                if (kind < 2 || kind == 4) {
                    DUE.index("second " + part + " of kind " + kind, () -> x.expression(told, 0, part, 0));
                }
            }
            DUE.index("third " + part + " of WHEN", () -> x.expression(4, 0, 0, part));
        }
        DUE.is("of the first and the last one", x.expression(4, 0, 1, 1), 2);
        DUE.index("not of itself", () -> x.expression(2, 3, 0, 0));
    }

    private static void expressionPartsThatCountForNothing() {
        MixinUnits x = new MixinUnits();
        x.leaf(false, 1);
        DUE.is("third of ADD", x.expression(0, 0, 0, MIN), 1);
        DUE.is("third of PAIR", x.expression(1, 0, 0, MAX), 2);
        DUE.is("second and third of FIRST", x.expression(2, 2, MAX, MIN), 3);
        DUE.is("second and third of SECOND", x.expression(3, 2, -1, 120), 4);
    }

    /** Expressions 0 to 11, of the weights 1 to 12. */
    private static MixinUnits weights() {
        MixinUnits x = new MixinUnits();
        x.leaf(false, 1);
        for (int weight = 2; weight <= 12; weight++) {
            DUE.is("weight " + weight, x.expression(2, weight - 2, 0, 0), weight - 1);
        }
        return x;
    }

    private static void weightOfAdd() {
        MixinUnits x = weights();
        DUE.is("10 and 1 are 12", x.expression(0, 9, 0, 0), 12);
        DUE.is("1 and 10 are 12", x.expression(0, 0, 9, 0), 13);
        DUE.is("5 and 6 are 12", x.expression(0, 4, 5, 0), 14);
        DUE.state("11 and 1 are 13", () -> x.expression(0, 10, 0, 0));
        DUE.state("1 and 11 are 13", () -> x.expression(0, 0, 10, 0));
        DUE.state("6 and 6 are 13", () -> x.expression(0, 5, 5, 0));
        DUE.state("12 and 12 are 25", () -> x.expression(0, 11, 11, 0));
    }

    private static void weightOfPair() {
        MixinUnits x = weights();
        DUE.is("10 and 1 are 12", x.expression(1, 9, 0, 0), 12);
        DUE.is("1 and 10 are 12", x.expression(1, 0, 9, 0), 13);
        DUE.state("11 and 1 are 13", () -> x.expression(1, 10, 0, 0));
        DUE.state("1 and 11 are 13", () -> x.expression(1, 0, 10, 0));
    }

    private static void weightOfFirst() {
        MixinUnits x = weights();
        DUE.is("11 and 1 are 12", x.expression(2, 10, 0, 0), 12);
        DUE.state("12 and 1 are 13", () -> x.expression(2, 11, 0, 0));
    }

    private static void weightOfSecond() {
        MixinUnits x = weights();
        DUE.is("11 and 1 are 12", x.expression(3, 10, 0, 0), 12);
        DUE.state("12 and 1 are 13", () -> x.expression(3, 11, 0, 0));
    }

    private static void weightOfWhen() {
        MixinUnits x = weights();
        DUE.is("9, 1 and 1 are 12", x.expression(4, 8, 0, 0), 12);
        DUE.is("1, 9 and 1 are 12", x.expression(4, 0, 8, 0), 13);
        DUE.is("1, 1 and 9 are 12", x.expression(4, 0, 0, 8), 14);
        DUE.is("2, 3 and 6 are 12", x.expression(4, 1, 2, 5), 15);
        DUE.state("10, 1 and 1 are 13", () -> x.expression(4, 9, 0, 0));
        DUE.state("1, 10 and 1 are 13", () -> x.expression(4, 0, 9, 0));
        DUE.state("1, 1 and 10 are 13", () -> x.expression(4, 0, 0, 9));
        DUE.state("2, 4 and 6 are 13", () -> x.expression(4, 1, 3, 5));
    }

    private static void partsThatCountForNothingWeighNothing() {
        MixinUnits x = weights();
        DUE.is("second and third of FIRST", x.expression(2, 0, 11, 11), 12);
        DUE.is("second and third of SECOND", x.expression(3, 0, 11, 11), 13);
        DUE.is("third of ADD", x.expression(0, 0, 0, 11), 14);
        DUE.is("third of PAIR", x.expression(1, 0, 0, 11), 15);
    }

    /** "Expressions are numbered from 0 as they are made, at most 120." */
    private static void hundredAndTwentyByLeaves() {
        MixinUnits x = new MixinUnits();
        for (int i = 0; i < 119; i++) {
            x.leaf(i % 2 == 0, 5);
        }
        DUE.is("the 120th is a leaf", x.leaf(false, 7), 119);
        full(x);
        x.type(0, 0, 0);
        x.unit();
        x.unitNode(0, -1);
        x.setValue(0, 0, 0, 119, 0);
        DUE.is("it can be used", x.run(0), 0);
        DUE.is("it can be used", x.result(0, 0), 7);
        DUE.index("there is no 121st", () -> x.setValue(0, 0, 0, 120, 0));
    }

    private static void hundredAndTwentyByExpressions() {
        MixinUnits x = new MixinUnits();
        for (int i = 0; i < 119; i++) {
            x.leaf(false, i);
        }
        DUE.is("the 120th is an ADD", x.expression(0, 118, 117, 0), 119);
        full(x);
        x.type(0, 0, 0);
        x.unit();
        x.unitNode(0, -1);
        x.setValue(0, 0, 0, 119, 0);
        DUE.is("it can be used", x.run(0), 0);
        DUE.is("it can be used", x.result(0, 0), 235);
    }

    private static void full(MixinUnits x) {
        DUE.state("a 121st NUMBER", () -> x.leaf(false, 0));
        DUE.state("a 121st REF", () -> x.leaf(true, 0));
        for (int kind = 0; kind < 5; kind++) {
            int told = kind;
            DUE.state("a 121st of kind " + kind, () -> x.expression(told, 0, 0, 0));
        }
        DUE.index("there is no 121st", () -> x.expression(0, 120, 0, 0));
    }

    // ---- promise 5: unit

    private static void eightUnits() {
        MixinUnits x = new MixinUnits();
        for (int i = 0; i < 8; i++) {
            int told = i;
            DUE.index("there is none yet", () -> x.unitNode(told, 0));
            DUE.is("unit " + i, x.unit(), i);
        }
        DUE.state("a 9th", x::unit);
        DUE.index("there is no 9th", () -> x.unitNode(8, 0));
        DUE.is("but an 8th", x.unitNode(7, 0), 0);
    }

    /** "Makes a unit, with an empty version 0." */
    private static void unitsBeginEmpty() {
        World w = new World();
        w.unit().typeHole(3).hole(4);
        World.Unit a = w.unit();
        DUE.is("no error", w.error(a.node), 0);
        for (int name = 0; name < 6; name++) {
            DUE.is("no type " + name, w.typeOf(a.node, name), 0);
        }
        for (int name = 0; name < 10; name++) {
            DUE.is("no value " + name, w.valueOf(a.node, name), 0);
        }
        DUE.is("it runs", w.run(a.node), 0);
        DUE.is("without cells", w.x().total(), 0);
        DUE.is("version 0", w.x().unitNode(a.number, 0), 2);
        DUE.index("no version 1", () -> w.x().unitNode(a.number, 1));
    }

    // ---- promise 6: version

    private static void versionOfWhatThereIs() {
        MixinUnits x = new MixinUnits();
        x.unit();
        for (int unit : outside(1)) {
            DUE.index("unit " + unit, () -> x.version(unit));
        }
        DUE.is("unit 0", x.version(0), 1);
    }

    private static void fiveVersions() {
        MixinUnits x = new MixinUnits();
        x.unit();
        for (int version = 1; version < 5; version++) {
            int told = version;
            DUE.index("there is none yet", () -> x.unitNode(0, told));
            DUE.is("version " + version, x.version(0), version);
        }
        DUE.state("a 6th", () -> x.version(0));
        DUE.index("there is no 6th", () -> x.unitNode(0, 5));
        DUE.is("but a 5th", x.unitNode(0, 4), 0);
    }

    private static void fiveVersionsOfEachUnit() {
        World w = new World();
        World.Unit[] units = new World.Unit[8];
        for (int i = 0; i < 8; i++) {
            units[i] = w.unit();
        }
        for (int version = 0; version < 5; version++) {
            for (int i = 0; i < 8; i++) {
                if (version > 0) {
                    DUE.is("each unit has its own", units[i].version(), version);
                }
                units[i].value(0, w.number(10 * i + version));
            }
        }
        for (int i = 0; i < 8; i++) {
            World.Unit told = units[i];
            DUE.state("a 6th version", told::version);
            DUE.is("version 4", w.run(told.node), 0);
            DUE.is("version 4", w.result(0), 10 * i + 4);
            DUE.is("version 3", w.run(told.nodeOf(3)), 0);
            DUE.is("version 3", w.result(0), 10 * i + 3);
            DUE.is("version 0", w.run(told.nodeOf(0)), 0);
            DUE.is("version 0", w.result(0), 10 * i);
        }
    }

    /** "A new version begins as the latest one is." */
    private static void aNewVersionBeginsAsTheLatest() {
        World w = new World();
        World.Unit a = w.unit();
        for (int name = 0; name < 6; name++) {
            a.typeHole(name);
        }
        a.version();
        for (int name = 0; name < 6; name++) {
            a.type(name, name % 2 == 0 ? w.integer() : w.pairOfIntegers());
        }
        for (int name = 0; name < 10; name++) {
            a.in(World.WAYS[1 + name % 4], name);
        }
        int second = a.nodeOf(1);
        a.version();
        int third = a.nodeOf(2);
        for (int name = 0; name < 6; name++) {
            DUE.is("type " + name, w.same(third, name, second, name), true);
            DUE.is("type " + name, w.same(third, name, third, name % 2), true);
        }
        for (int name = 0; name < 10; name++) {
            DUE.is("value " + name, w.valueOf(third, name), new int[] {1, 5, 2, 6}[name % 4]);
        }
        a.noType(5).remove(9);
        DUE.is("the latest one has been edited", w.typeOf(third, 5) + w.valueOf(third, 9), 0);
        DUE.is("the one before has not: type", w.typeOf(second, 5), 2);
        DUE.is("the one before has not: value", w.valueOf(second, 9), 5);
        DUE.is("nor has the first one", w.typeOf(a.nodeOf(0), 5), 1);
    }

    private static void aNewVersionKeepsFlags() {
        World w = new World();
        World.Unit a = w.unit();
        for (int name = 0; name < 10; name++) {
            a.set(name, w.integer(), w.number(name), name % 4);
        }
        a.version();
        int last = a.nodeOf(1);
        DUE.is("it runs", w.run(last), 0);
        DUE.is("effects", w.x().logged(), 4);
        int[] due = {2, 6, 3, 7};
        for (int i = 0; i < due.length; i++) {
            DUE.is("the lazy ones behind the others", w.x().log(i), due[i]);
        }
        for (int name = 0; name < 10; name++) {
            DUE.is("expressions", w.result(name), name);
        }
    }

    /** "The latest of which is edited." */
    private static void theLatestIsEdited() {
        World w = new World();
        World.Unit a = w.unit().value(0, w.number(1));
        int first = a.nodeOf(0);
        a.version();
        a.value(0, w.number(2)).typeHole(0).value(1, w.number(3));
        DUE.is("version 0 stays: type", w.typeOf(first, 0), 0);
        DUE.is("version 0 stays: value", w.valueOf(first, 1), 0);
        w.run(first);
        DUE.is("version 0 stays: expression", w.result(0), 1);
        w.run(a.node);
        DUE.is("the latest one is another", w.result(0), 2);
    }

    // ---- promise 7: setType

    private static void setTypeUnits() {
        World w = new World();
        w.unit();
        w.unit();
        for (int unit : outside(2)) {
            DUE.index("unit " + unit, () -> w.x().setType(unit, 0, -1));
        }
        w.x().setType(1, 0, -1);
        DUE.is("unit 1", w.typeOf(1, 0), 1);
        DUE.is("unit 0 has none", w.typeOf(0, 0), 0);
    }

    private static void setTypeTypes() {
        World w = new World();
        w.unit();
        for (int type : new int[] {0, -3, MIN, MAX}) {
            DUE.index("no type yet: " + type, () -> w.x().setType(0, 0, type));
        }
        w.x().setType(0, 1, -1);
        w.x().setType(0, 2, -2);
        int type = w.integer();
        w.x().setType(0, 0, type);
        for (int none : new int[] {1, -3, MIN, MAX}) {
            DUE.index("no type: " + none, () -> w.x().setType(0, 0, none));
        }
        DUE.is("a type", w.typeOf(0, 0), 2);
        DUE.is("a hole", w.typeOf(0, 1), 1);
        DUE.is("no component", w.typeOf(0, 2), 0);
    }

    private static void setTypeNames() {
        World w = new World();
        World.Unit a = w.unit();
        for (int name : outside(6)) {
            DUE.argument("name " + name, () -> a.typeHole(name));
            DUE.argument("name " + name, () -> a.noType(name));
        }
        a.typeHole(0).typeHole(5);
        for (int name = 0; name < 6; name++) {
            DUE.is("type " + name, w.typeOf(a.node, name), name % 5 == 0 ? 1 : 0);
        }
    }

    /** "A type; -1 for a hole; -2 for no component." */
    private static void setTypeHoleAndNone() {
        World w = new World();
        World.Unit a = w.unit();
        int type = w.integer();
        for (int name = 0; name < 6; name++) {
            a.noType(name);
            DUE.is("none stays none", w.typeOf(a.node, name), 0);
            a.typeHole(name);
            DUE.is("a hole", w.typeOf(a.node, name), 1);
            a.type(name, type);
            DUE.is("a definition", w.typeOf(a.node, name), 2);
            a.noType(name);
            DUE.is("no component any more", w.typeOf(a.node, name), 0);
        }
    }

    // ---- promise 8: setValue

    private static void setValueUnits() {
        World w = new World();
        int type = w.integer();
        w.unit();
        w.unit();
        for (int unit : outside(2)) {
            DUE.index("unit " + unit, () -> w.x().setValue(unit, 0, type, -1, 0));
        }
        w.x().setValue(1, 0, type, -1, 0);
        DUE.is("unit 1", w.valueOf(1, 0), 1);
        DUE.is("unit 0 has none", w.valueOf(0, 0), 0);
    }

    private static void setValueTypes() {
        World w = new World();
        World.Unit a = w.unit();
        DUE.index("no type yet", () -> a.hole(0, 0));
        int last = w.pairOfIntegers();
        for (int type : new int[] {-1, -2, last + 1, MIN, MAX}) {
            DUE.index("type " + type, () -> a.hole(0, type));
        }
        a.hole(0, 0).hole(1, last);
        DUE.is("the first type", w.size(a.node, 0), 1);
        DUE.is("the last type", w.size(a.node, 1), 3);
    }

    private static void setValueExpressions() {
        World w = new World();
        World.Unit a = w.unit();
        int type = w.integer();
        DUE.index("no expression yet", () -> a.value(0, type, 0));
        a.value(0, type, -1);
        DUE.is("a hole", w.valueOf(a.node, 0), 1);
        w.number(4);
        int last = w.number(5);
        for (int expression : new int[] {-2, last + 1, MIN, MAX}) {
            DUE.index("expression " + expression, () -> a.value(0, type, expression));
        }
        a.value(0, type, 0).value(1, type, last);
        w.run(a.node);
        DUE.is("the first one", w.result(0), 4);
        DUE.is("the last one", w.result(1), 5);
    }

    private static void setValueNames() {
        World w = new World();
        World.Unit a = w.unit();
        int type = w.integer();
        for (int name : outside(10)) {
            DUE.argument("name " + name, () -> a.hole(name, type));
        }
        a.hole(0, type).hole(9, type);
        for (int name = 0; name < 10; name++) {
            DUE.is("value " + name, w.valueOf(a.node, name), name % 9 == 0 ? 1 : 0);
        }
    }

    /** "0 to 7: 1 lazy, 2 an effect, 4 a ghost, added." */
    private static void setValueFlags() {
        World w = new World();
        World.Unit a = w.unit();
        int type = w.integer();
        int number = w.number(6);
        for (int flags : outside(8)) {
            DUE.argument("flags " + flags, () -> a.set(0, type, number, flags));
        }
        for (int flags = 0; flags < 8; flags++) {
            a.set(0, type, number, flags);
            DUE.is("flags " + flags, w.valueOf(a.node, 0), flags < 4 ? 2 : 6);
            DUE.is("flags " + flags + " run", w.run(a.node), 0);
            DUE.is("flags " + flags + ": a cell", w.x().total(), flags < 4 ? 1 : 0);
            DUE.is("flags " + flags + ": an effect", w.x().logged(), flags == 2 || flags == 3 ? 1 : 0);
        }
        // Behind 1 in the log if lazy.
        a.effect(1, w.number(1));
        for (int flags = 2; flags < 4; flags++) {
            a.set(0, type, number, flags);
            w.run(a.node);
            DUE.is("flags " + flags + ": lazy or not", w.x().log(0), flags == 2 ? 6 : 1);
        }
    }

    /** "For a hole 0 or 4." */
    private static void setValueFlagsOfHoles() {
        World w = new World();
        World.Unit a = w.unit();
        int type = w.integer();
        for (int flags : new int[] {-1, 1, 2, 3, 5, 6, 7, 8, MIN, MAX}) {
            DUE.argument("flags " + flags, () -> a.set(0, type, -1, flags));
        }
        a.set(0, type, -1, 0);
        DUE.is("flags 0", w.valueOf(a.node, 0), 1);
        a.set(0, type, -1, 4);
        DUE.is("flags 4", w.valueOf(a.node, 0), 5);
    }

    private static void setValueTakesThePlace() {
        World w = new World();
        World.Unit a = w.unit().lazyEffect(3, w.number(4));
        a.hole(3, w.pairOfIntegers());
        DUE.is("a hole now", w.valueOf(a.node, 3), 1);
        DUE.is("of another type", w.size(a.node, 3), 3);
        a.value(3, w.number(5));
        w.run(a.node);
        DUE.is("no effect any more", w.x().logged(), 0);
        DUE.is("another number", w.result(3), 5);
    }

    // ---- promise 9: remove

    private static void removeUnits() {
        World w = new World();
        w.unit();
        w.unit().hole(0);
        for (int unit : outside(2)) {
            DUE.index("unit " + unit, () -> w.x().remove(unit, 0));
        }
        DUE.is("unit 0 has none", w.x().remove(0, 0), false);
        DUE.is("unit 1 has one", w.x().remove(1, 0), true);
    }

    private static void removeNames() {
        World w = new World();
        World.Unit a = w.unit().hole(0).hole(9);
        for (int name : outside(10)) {
            DUE.argument("name " + name, () -> a.remove(name));
        }
        DUE.is("name 0", w.x().remove(a.number, 0), true);
        DUE.is("name 9", w.x().remove(a.number, 9), true);
        for (int name = 0; name < 10; name++) {
            DUE.is("none is left", w.x().remove(a.number, name), false);
        }
    }

    /** "Returns whether there was one." */
    private static void removeTellsWhetherThereWasOne() {
        World w = new World();
        World.Unit a = w.unit();
        for (int way : World.WAYS) {
            a.in(way, 6);
            DUE.is(World.WORDS[way], w.x().remove(a.number, 6), way != World.NONE);
            DUE.is(World.WORDS[way] + ", again", w.x().remove(a.number, 6), false);
            DUE.is(World.WORDS[way] + ", value", w.valueOf(a.node, 6), 0);
            DUE.is(World.WORDS[way] + ", size", w.size(a.node, 6), 0);
        }
    }

    /** "Removes a value component of the latest version." */
    private static void removeOfTheLatest() {
        World w = new World();
        World.Unit a = w.unit().hole(2).typeHole(2);
        a.version();
        a.hole(1);
        DUE.is("it has come from version 0", w.x().remove(a.number, 2), true);
        DUE.is("version 0 has it still", w.valueOf(a.nodeOf(0), 2), 1);
        DUE.is("the latest one has it not", w.valueOf(a.node, 2), 0);
        DUE.is("another one stays", w.valueOf(a.node, 1), 1);
        DUE.is("a type of that name stays", w.typeOf(a.node, 2), 1);
    }
}
