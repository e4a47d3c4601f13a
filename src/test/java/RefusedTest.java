import java.util.ArrayList;
import java.util.List;

/**
 * "When a call throws, nothing has changed; of several exceptions it is the first one of the throws clause": each call
 * with each mix of wrong arguments, on an object that has room and on one that is full. After each of them all that can
 * be asked of the object, and all numbers that it gives from then on, are as on one on which the call was not made.
 */
public final class RefusedTest {
    private static final Due DUE = new Due("RefusedTest");
    private static final int MIN = Integer.MIN_VALUE;
    private static final int MAX = Integer.MAX_VALUE;

    /** A call that is to be refused. */
    private interface Call {
        void on(MixinUnits x);
    }

    private record Refused(String what, Class<? extends RuntimeException> due, Call call) {
    }

    private static final Class<IllegalArgumentException> ARGUMENT = IllegalArgumentException.class;
    private static final Class<IndexOutOfBoundsException> INDEX = IndexOutOfBoundsException.class;
    private static final Class<IllegalStateException> STATE = IllegalStateException.class;

    private final List<Refused> calls = new ArrayList<>();
    private final boolean isFull;
    private final int types;
    private final int expressions;
    private final int units;
    private final int nodes;

    private RefusedTest(boolean isFull) {
        this.isFull = isFull;
        types = isFull ? 60 : 7;
        expressions = isFull ? 120 : 17;
        units = isFull ? 8 : 4;
        nodes = isFull ? 40 : 19;
    }

    public static void main(String[] args) {
        for (int turn = 0; turn < 2; turn++) {
            RefusedTest test = new RefusedTest(turn == 1);
            test.types();
            test.leaves();
            test.expressions();
            test.units();
            test.edits();
            test.unitNodes();
            test.nodes();
            test.renames();
            test.answers();
            test.runs();
            test.all();
        }
        DUE.end();
    }

    // ---- an object

    /** Types 0 to 6, of the weights 1, 1, 1, 3, 5, 7, 11; expressions 0 to 16; 4 units; 19 nodes; or full. */
    private MixinUnits made() {
        MixinUnits x = new MixinUnits();
        x.type(0, 0, 0);
        x.type(2, 0, 0);
        x.type(2, 5, 0);
        x.type(1, 0, 0);
        x.type(1, 3, 1);
        x.type(1, 3, 3);
        x.type(1, 5, 3);
        x.leaf(false, 1);
        x.leaf(false, 0);
        x.leaf(true, 0);
        x.leaf(true, 9);
        x.expression(0, 2, 0, 0);
        x.expression(1, 0, 1, 0);
        // Of the weights 2 to 12.
        x.expression(2, 0, 0, 0);
        for (int expression = 7; expression < 17; expression++) {
            x.expression(2, expression - 1, 0, 0);
        }
        for (int unit = 0; unit < 4; unit++) {
            x.unit();
        }
        fillUnits(x);
        makeNodes(x);
        if (isFull) {
            fill(x);
        }
        x.build(7);
        x.build(9);
        x.build(13);
        x.setValue(2, 0, 0, 0, 0);
        x.run(5);
        return x;
    }

    private static void fillUnits(MixinUnits x) {
        x.setType(0, 0, 0);
        x.setType(0, 5, -1);
        x.setValue(0, 0, 0, 0, 2);
        x.setValue(0, 1, 0, 4, 0);
        x.setValue(0, 2, 3, 5, 3);
        x.setValue(0, 9, 0, -1, 0);
        x.setValue(1, 9, 0, 1, 0);
        x.setType(1, 5, 0);
        x.setType(2, 0, -1);
        x.setValue(2, 0, 1, -1, 0);
        x.setValue(3, 0, 1, 1, 4);
        x.version(1);
        x.setValue(1, 8, 0, 3, 1);
    }

    private static void makeNodes(MixinUnits x) {
        for (int unit = 0; unit < 4; unit++) {
            x.unitNode(unit, -1);
        }
        x.unitNode(1, 0);
        x.node(0, 0, 1, false);
        x.node(1, 0, 2, false);
        x.node(1, 5, 2, true);
        x.node(2, 2, 0, true);
        x.choose(1, 1, 0);
        x.rename(0, 0, 4);
        x.rename(5, 1, -1);
        x.node(0, 11, 11, false);
        x.choose(4, 4, 5);
        // Of the weights 2 to 6.
        for (int node = 14; node < 19; node++) {
            x.rename(node == 14 ? 4 : node - 1, 9 - node % 2, 8 + node % 2);
        }
    }

    private static void fill(MixinUnits x) {
        for (int type = 7; type < 60; type++) {
            x.type(type % 3 == 1 ? 2 : type % 3, 0, 0);
        }
        for (int expression = 17; expression < 120; expression++) {
            x.leaf(expression % 2 == 0, 3);
        }
        for (int unit = 4; unit < 8; unit++) {
            x.unit();
        }
        for (int unit = 0; unit < 8; unit += 7) {
            for (int version = 1; version < 5; version++) {
                x.version(unit);
            }
        }
        for (int node = 19; node < 40; node++) {
            x.unitNode(node % 8, -1);
        }
    }

    /** All that can be asked; then what is run and compiled from then on; then the numbers of what is made. */
    private List<Object> seen(MixinUnits x) {
        List<Object> seen = new ArrayList<>();
        List<Call> asked = new ArrayList<>();
        asked.add(y -> seen.add(y.total()));
        asked.add(y -> seen.add(y.dropped()));
        asked.add(y -> seen.add(y.logged()));
        for (int i = 0; i < 4; i++) {
            int place = i;
            asked.add(y -> seen.add(y.log(place)));
        }
        for (int i = 0; i < 10; i++) {
            int name = i;
            asked.add(y -> seen.add(y.result(name, 0)));
        }
        asked.add(y -> seen.add(y.result(2, 1)));
        for (int node : new int[] {0, 1, 7, 8, 9, 12}) {
            asked.add(y -> seen.add(y.error(node)));
            asked.add(y -> seen.add(y.compiled(node)));
            asked.add(y -> seen.add(y.isFresh(node)));
        }
        for (int node : new int[] {0, 1, 2, 3, 7}) {
            for (int i = 0; i < 6; i += 5) {
                int name = i;
                asked.add(y -> seen.add(y.typeOf(node, name)));
            }
            for (int i = 0; i < 10; i++) {
                int name = i;
                asked.add(y -> seen.add(y.valueOf(node, name)));
            }
            asked.add(y -> seen.add(y.size(node, 0)));
        }
        asked.add(y -> seen.add(y.isSameType(7, 0, 6, 0)));
        for (int node : new int[] {13, 9, 7}) {
            asked.add(y -> seen.add(y.build(node)));
            asked.add(y -> seen.add(y.run(node)));
        }
        asked.add(y -> seen.add(y.result(0, 0)));
        asked.add(y -> seen.add(y.version(2)));
        asked.add(y -> seen.add(y.type(1, 0, 0)));
        asked.add(y -> seen.add(y.expression(0, 0, 0, 0)));
        asked.add(y -> seen.add(y.unit()));
        asked.add(y -> seen.add(y.node(1, 0, 2, true)));
        asked.add(y -> seen.add(y.isSameType(nodes, 0, 7, 0)));
        for (Call call : asked) {
            try {
                call.on(x);
            } catch (RuntimeException e) {
                seen.add(e.getClass());
            }
        }
        return seen;
    }

    // ---- calls

    private void add(String what, Class<? extends RuntimeException> due, Call call) {
        calls.add(new Refused((isFull ? "full: " : "") + what, due, call));
    }

    private void all() {
        List<Object> due = seen(made());
        DUE.is("much is seen", due.size() > 100, true);
        DUE.is("the same again", seen(made()).equals(due), true);
        for (Refused refused : calls) {
            MixinUnits x = made();
            Class<?> got = null;
            try {
                refused.call.on(x);
            } catch (RuntimeException e) {
                got = Due.isThrown(e) ? e.getClass() : RuntimeException.class;
            }
            DUE.is(refused.what + " throws " + got + ", due is " + refused.due.getSimpleName(), got == refused.due, true);
            DUE.is(refused.what + " has changed nothing", seen(x).equals(due), true);
        }
    }

    private static int[] outside(int most) {
        return new int[] {-1, most, MIN, MAX};
    }

    private void types() {
        for (int kind : outside(3)) {
            add("type of kind " + kind, ARGUMENT, x -> x.type(kind, 0, 0));
            add("type of kind " + kind + " of no types", ARGUMENT, x -> x.type(kind, -1, types));
        }
        for (int name : outside(6)) {
            add("NAMED " + name, ARGUMENT, x -> x.type(2, name, -1));
        }
        for (int type : outside(types)) {
            add("PAIR of " + type, INDEX, x -> x.type(1, type, 0));
            add("PAIR of 6 and " + type, INDEX, x -> x.type(1, 6, type));
        }
        add("PAIR, too heavy", STATE, x -> x.type(1, 6, 0));
        add("PAIR, too heavy", STATE, x -> x.type(1, 5, 4));
        if (isFull) {
            add("INT", STATE, x -> x.type(0, 0, 0));
            add("PAIR", STATE, x -> x.type(1, 0, 0));
            add("NAMED", STATE, x -> x.type(2, 0, 0));
        }
    }

    private void leaves() {
        for (int name : outside(10)) {
            add("REF " + name, ARGUMENT, x -> x.leaf(true, name));
        }
        if (isFull) {
            add("REF", STATE, x -> x.leaf(true, 0));
            add("NUMBER", STATE, x -> x.leaf(false, 0));
        }
    }

    private void expressions() {
        for (int kind : outside(5)) {
            add("expression of kind " + kind, ARGUMENT, x -> x.expression(kind, 0, 0, 0));
            add("expression of kind " + kind + " of none", ARGUMENT, x -> x.expression(kind, -1, expressions, MIN));
        }
        for (int part : outside(expressions)) {
            for (int kind = 0; kind < 5; kind++) {
                int told = kind;
                add("kind " + kind + " of " + part, INDEX, x -> x.expression(told, part, 16, 16));
            }
            add("ADD, second " + part, INDEX, x -> x.expression(0, 16, part, 0));
            add("PAIR, second " + part, INDEX, x -> x.expression(1, 16, part, 0));
            add("WHEN, second " + part, INDEX, x -> x.expression(4, 16, part, 16));
            add("WHEN, third " + part, INDEX, x -> x.expression(4, 16, 16, part));
        }
        for (int kind = 0; kind < 5; kind++) {
            int told = kind;
            add("kind " + kind + ", too heavy", STATE, x -> x.expression(told, 16, 0, 0));
            if (isFull) {
                add("kind " + kind, STATE, x -> x.expression(told, 0, 0, 0));
            }
        }
        add("ADD, too heavy", STATE, x -> x.expression(0, 0, 15, 0));
        add("WHEN, too heavy", STATE, x -> x.expression(4, 0, 0, 14));
    }

    private void units() {
        for (int unit : outside(units)) {
            add("version of " + unit, INDEX, x -> x.version(unit));
        }
        if (isFull) {
            add("unit", STATE, MixinUnits::unit);
            add("version", STATE, x -> x.version(0));
            add("version", STATE, x -> x.version(7));
        }
    }

    private void edits() {
        for (int unit : outside(units)) {
            add("setType of " + unit, INDEX, x -> x.setType(unit, 0, -1));
            add("setType of " + unit + ", no name", INDEX, x -> x.setType(unit, 6, -2));
            add("setValue of " + unit, INDEX, x -> x.setValue(unit, 0, 0, 0, 0));
            add("setValue of " + unit + ", no name", INDEX, x -> x.setValue(unit, -1, 0, 0, 8));
            add("remove of " + unit, INDEX, x -> x.remove(unit, 0));
            add("remove of " + unit + ", no name", INDEX, x -> x.remove(unit, 10));
        }
        for (int type : new int[] {-3, types, MIN, MAX}) {
            add("setType to " + type, INDEX, x -> x.setType(0, 0, type));
            add("setType to " + type + ", no name", INDEX, x -> x.setType(0, 6, type));
        }
        for (int name : outside(6)) {
            add("setType by " + name, ARGUMENT, x -> x.setType(0, name, 3));
            add("setType by " + name + " to none", ARGUMENT, x -> x.setType(0, name, -2));
        }
        for (int type : new int[] {-2, -1, types, MIN, MAX}) {
            add("setValue to type " + type, INDEX, x -> x.setValue(0, 0, type, 1, 1));
            add("setValue to type " + type + ", no name, no flags", INDEX, x -> x.setValue(0, 10, type, 0, 8));
        }
        for (int expression : new int[] {-2, expressions, MIN, MAX}) {
            add("setValue to " + expression, INDEX, x -> x.setValue(0, 0, 3, expression, 1));
            add("setValue to " + expression + ", no name, no flags", INDEX, x -> x.setValue(0, -1, 0, expression, -1));
        }
        for (int name : outside(10)) {
            add("setValue by " + name, ARGUMENT, x -> x.setValue(0, name, 0, 0, 0));
            add("remove of name " + name, ARGUMENT, x -> x.remove(0, name));
        }
        for (int flags : outside(8)) {
            add("setValue with flags " + flags, ARGUMENT, x -> x.setValue(0, 0, 0, 1, flags));
            add("setValue to a pair with flags " + flags, ARGUMENT, x -> x.setValue(0, 0, 3, 5, flags));
        }
        for (int flags : new int[] {-1, 1, 2, 3, 5, 6, 7, 8, MIN, MAX}) {
            add("setValue with flags " + flags + " for a hole", ARGUMENT, x -> x.setValue(0, 0, 3, -1, flags));
        }
    }

    private void unitNodes() {
        for (int unit : outside(units)) {
            add("unitNode of " + unit, INDEX, x -> x.unitNode(unit, 0));
            add("unitNode of " + unit + ", the latest", INDEX, x -> x.unitNode(unit, -1));
        }
        for (int version : new int[] {-2, isFull ? 5 : 2, MIN, MAX}) {
            add("unitNode of version " + version, INDEX, x -> x.unitNode(1, version));
        }
        add("unitNode of another unit's version", INDEX, x -> x.unitNode(3, 1));
        if (isFull) {
            add("unitNode", STATE, x -> x.unitNode(0, 0));
            add("unitNode, the latest", STATE, x -> x.unitNode(0, -1));
        }
    }

    /** Node 12 is of the weight 9. */
    private void nodes() {
        for (int kind : outside(3)) {
            add("node of kind " + kind, ARGUMENT, x -> x.node(kind, 0, 0, true));
            add("node of kind " + kind + " of no nodes", ARGUMENT, x -> x.node(kind, -1, nodes, false));
        }
        for (int node : outside(nodes)) {
            for (int kind = 0; kind < 3; kind++) {
                int told = kind;
                add("kind " + kind + ", first " + node, INDEX, x -> x.node(told, node, 0, true));
                add("kind " + kind + ", second " + node, INDEX, x -> x.node(told, 0, node, true));
            }
            add("choose, first " + node, INDEX, x -> x.choose(node, 0, 0));
            add("choose, second " + node, INDEX, x -> x.choose(0, node, 0));
            add("choose, third " + node, INDEX, x -> x.choose(0, 0, node));
            add("choose, third " + node + ", too heavy", INDEX, x -> x.choose(12, 12, node));
            add("rename of " + node, INDEX, x -> x.rename(node, 0, 1));
            add("rename of " + node + ", no names", INDEX, x -> x.rename(node, 10, 10));
            add("hide of " + node, INDEX, x -> x.rename(node, 0, -1));
        }
        add("choose, too heavy", STATE, x -> x.choose(12, 12, 12));
        add("choose, too heavy", STATE, x -> x.choose(12, 12, 18));
        if (isFull) {
            for (int kind = 0; kind < 3; kind++) {
                int told = kind;
                add("kind " + kind, STATE, x -> x.node(told, 0, 0, false));
            }
            add("choose", STATE, x -> x.choose(0, 0, 0));
            add("rename", STATE, x -> x.rename(0, 0, 1));
            add("hide", STATE, x -> x.rename(0, 0, -1));
        }
    }

    private void renames() {
        for (int name : outside(10)) {
            add("rename of name " + name, ARGUMENT, x -> x.rename(0, name, 1));
            add("hide of name " + name, ARGUMENT, x -> x.rename(0, name, -1));
        }
        for (int to : new int[] {-2, 10, MIN, MAX}) {
            add("rename to " + to, ARGUMENT, x -> x.rename(0, 0, to));
        }
        for (int name = 0; name < 10; name += 9) {
            int told = name;
            add("rename to the same " + name, ARGUMENT, x -> x.rename(0, told, told));
        }
    }

    /** Node 3 has an error. */
    private void answers() {
        for (int node : outside(nodes)) {
            add("error of " + node, INDEX, x -> x.error(node));
            add("typeOf " + node, INDEX, x -> x.typeOf(node, 0));
            add("typeOf " + node + ", no name", INDEX, x -> x.typeOf(node, 6));
            add("isSameType of " + node, INDEX, x -> x.isSameType(node, 0, 0, 0));
            add("isSameType of " + node + ", no names, an error", INDEX, x -> x.isSameType(node, 6, 3, -1));
            add("isSameType, other " + node, INDEX, x -> x.isSameType(0, 0, node, 0));
            add("isSameType, other " + node + ", no names, an error", INDEX, x -> x.isSameType(3, -1, node, 6));
            add("valueOf " + node, INDEX, x -> x.valueOf(node, 0));
            add("valueOf " + node + ", no name", INDEX, x -> x.valueOf(node, 10));
            add("size of " + node, INDEX, x -> x.size(node, 0));
            add("size of " + node + ", no name", INDEX, x -> x.size(node, -1));
            add("run of " + node, INDEX, x -> x.run(node));
            add("build of " + node, INDEX, x -> x.build(node));
            add("compiled of " + node, INDEX, x -> x.compiled(node));
            add("isFresh of " + node, INDEX, x -> x.isFresh(node));
        }
        for (int node = 0; node < 4; node += 3) {
            int told = node;
            for (int name : outside(6)) {
                add("typeOf " + node + " by " + name, ARGUMENT, x -> x.typeOf(told, name));
                add("isSameType of " + node + " by " + name, ARGUMENT, x -> x.isSameType(told, name, 0, 0));
                add("isSameType of " + node + ", other by " + name, ARGUMENT, x -> x.isSameType(0, 0, told, name));
                add("isSameType of " + node + ", both by " + name, ARGUMENT, x -> x.isSameType(told, name, told, name));
            }
            for (int name : outside(10)) {
                add("valueOf " + node + " by " + name, ARGUMENT, x -> x.valueOf(told, name));
                add("size of " + node + " by " + name, ARGUMENT, x -> x.size(told, name));
            }
        }
        add("typeOf one with an error", STATE, x -> x.typeOf(3, 0));
        add("isSameType of one with an error", STATE, x -> x.isSameType(3, 0, 0, 0));
        add("isSameType, other with an error", STATE, x -> x.isSameType(0, 0, 3, 0));
        add("valueOf one with an error", STATE, x -> x.valueOf(3, 0));
        add("size of one with an error", STATE, x -> x.size(3, 0));
    }

    /** What ran has the values 0 to 2 and 8 and 9, and two entries in its log. */
    private void runs() {
        for (int name : outside(10)) {
            add("result of " + name, ARGUMENT, x -> x.result(name, 0));
            add("result of " + name + ", no place", ARGUMENT, x -> x.result(name, -1));
        }
        add("result of none", STATE, x -> x.result(3, 0));
        add("result of none, no place", STATE, x -> x.result(3, -1));
        for (int place : outside(1)) {
            add("result at " + place, INDEX, x -> x.result(0, place));
        }
        for (int place : outside(2)) {
            add("result of a pair at " + place, INDEX, x -> x.result(2, place));
            add("log at " + place, INDEX, x -> x.log(place));
        }
    }
}
