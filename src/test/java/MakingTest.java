/** Promises 1 to 13: what is made, its numbers, its limits, and what throws. */
public final class MakingTest {
    private static final Due DUE = new Due("MakingTest");

    public static void main(String[] args) {
        newObject();
        type();
        leaf();
        expression();
        unit();
        version();
        setType();
        setValue();
        remove();
        unitNode();
        node();
        choose();
        rename();
        DUE.end();
    }

    private static void newObject() {
        MixinUnits x = new MixinUnits();
        DUE.index("a type of a new object", () -> x.type(1, 0, 0));
        DUE.index("an expression of a new object", () -> x.expression(2, 0, 0, 0));
        DUE.index("a unit of a new object", () -> x.version(0));
        DUE.index("a node of a new object", () -> x.error(0));
        DUE.state("a result of a new object", () -> x.result(0, 0));
        DUE.index("a log entry of a new object", () -> x.log(0));
        DUE.is("logged", x.logged(), 0);
        DUE.is("total", x.total(), 0);
        DUE.is("dropped", x.dropped(), 0);
        DUE.is("first type", x.type(0, 7, 7), 0);
        DUE.is("first expression", x.leaf(false, 0), 0);
        DUE.is("first unit", x.unit(), 0);
        DUE.is("first node", x.unitNode(0, 0), 0);
        DUE.is("another object has its own", new MixinUnits().unit(), 0);
    }

    private static void type() {
        MixinUnits x = new MixinUnits();
        DUE.argument("kind -1", () -> x.type(-1, 0, 0));
        DUE.argument("kind 3", () -> x.type(3, 0, 0));
        DUE.argument("name -1", () -> x.type(2, -1, 0));
        DUE.argument("name 6", () -> x.type(2, 6, 0));
        DUE.is("INT, whatever first and second are", x.type(0, -9, 99), 0);
        DUE.is("NAMED 5", x.type(2, 5, -9), 1);
        DUE.index("PAIR of none", () -> x.type(1, 2, 0));
        DUE.index("PAIR of none, second", () -> x.type(1, 0, 2));
        DUE.index("PAIR of -1", () -> x.type(1, -1, 0));
        DUE.is("PAIR, weight 3", x.type(1, 0, 1), 2);
        DUE.is("PAIR, weight 7", x.type(1, 2, 2), 3);
        DUE.is("PAIR, weight 9", x.type(1, 3, 0), 4);
        DUE.is("PAIR, weight 11", x.type(1, 3, 2), 5);
        DUE.state("PAIR, weight 13", () -> x.type(1, 5, 0));
        DUE.state("PAIR, weight 15", () -> x.type(1, 3, 3));
        for (int i = 6; i < 60; i++) {
            DUE.is("type " + i, x.type(2, i % 6, 0), i);
        }
        DUE.state("a 61st", () -> x.type(0, 0, 0));
        DUE.argument("a wrong kind comes ahead of too many", () -> x.type(3, 0, 0));
        DUE.index("no such type comes ahead of too many", () -> x.type(1, 60, 0));
        DUE.index("and -1, too", () -> x.type(1, 0, -1));
    }

    private static void leaf() {
        MixinUnits x = new MixinUnits();
        DUE.argument("REF to 10", () -> x.leaf(true, 10));
        DUE.argument("REF to -1", () -> x.leaf(true, -1));
        DUE.is("NUMBER -1", x.leaf(false, -1), 0);
        DUE.is("the least NUMBER", x.leaf(false, Integer.MIN_VALUE), 1);
        DUE.is("REF to 9", x.leaf(true, 9), 2);
        DUE.is("REF to 0", x.leaf(true, 0), 3);
        for (int i = 4; i < 120; i++) {
            DUE.is("leaf " + i, x.leaf(i % 2 == 0, 1), i);
        }
        DUE.state("a 121st", () -> x.leaf(false, 0));
        DUE.state("a 121st, REF", () -> x.leaf(true, 0));
        DUE.argument("a wrong name comes ahead of too many", () -> x.leaf(true, 10));
    }

    private static void expression() {
        MixinUnits x = new MixinUnits();
        x.leaf(false, 1);
        DUE.argument("kind -1", () -> x.expression(-1, 0, 0, 0));
        DUE.argument("kind 5", () -> x.expression(5, 0, 0, 0));
        DUE.index("ADD of none", () -> x.expression(0, 1, 0, 0));
        DUE.index("PAIR of none", () -> x.expression(1, 0, 1, 0));
        DUE.index("PAIR of -1", () -> x.expression(1, 0, -1, 0));
        DUE.index("FIRST of none", () -> x.expression(2, 1, 0, 0));
        DUE.index("SECOND of -1", () -> x.expression(3, -1, 0, 0));
        DUE.index("WHEN of no third", () -> x.expression(4, 0, 0, 1));
        DUE.index("WHEN of -1", () -> x.expression(4, 0, 0, -1));
        DUE.is("ADD, whatever third is", x.expression(0, 0, 0, -7), 1);
        DUE.is("PAIR", x.expression(1, 0, 0, 99), 2);
        DUE.is("FIRST, whatever the others are", x.expression(2, 2, -7, 99), 3);
        DUE.is("SECOND", x.expression(3, 2, 99, -7), 4);
        DUE.is("WHEN, weight 4", x.expression(4, 0, 0, 0), 5);
        DUE.is("WHEN, weight 9", x.expression(4, 3, 2, 0), 6);
        DUE.is("FIRST, weight 10", x.expression(2, 6, 0, 0), 7);
        DUE.is("SECOND, weight 11", x.expression(3, 7, 0, 0), 8);
        DUE.is("FIRST, weight 12", x.expression(2, 8, 0, 0), 9);
        DUE.state("FIRST, weight 13", () -> x.expression(2, 9, 0, 0));
        DUE.state("ADD, weight 13", () -> x.expression(0, 8, 0, 0));
        DUE.is("ADD, weight 12", x.expression(0, 7, 0, 0), 10);
        DUE.is("WHEN, weight 12", x.expression(4, 3, 2, 5), 11);
        DUE.state("WHEN, weight 13", () -> x.expression(4, 5, 5, 4));
        for (int i = 12; i < 120; i++) {
            DUE.is("expression " + i, x.expression(i % 2, 0, 0, 0), i);
        }
        DUE.state("a 121st", () -> x.expression(1, 0, 0, 0));
        DUE.index("no such expression comes ahead of too many", () -> x.expression(1, 120, 0, 0));
        DUE.argument("a wrong kind comes ahead of that", () -> x.expression(5, 120, 0, 0));
    }

    private static void unit() {
        MixinUnits x = new MixinUnits();
        for (int i = 0; i < 8; i++) {
            DUE.is("unit " + i, x.unit(), i);
        }
        DUE.state("a 9th", x::unit);
        x.unitNode(7, 0);
        for (int name = 0; name < 10; name++) {
            DUE.is("an empty version has no value " + name, x.valueOf(0, name), 0);
        }
        for (int name = 0; name < 6; name++) {
            DUE.is("an empty version has no type " + name, x.typeOf(0, name), 0);
        }
    }

    private static void version() {
        MixinUnits x = new MixinUnits();
        x.type(0, 0, 0);
        x.unit();
        x.unit();
        x.setType(0, 3, 0);
        x.setValue(0, 2, 0, -1, 4);
        DUE.index("no unit", () -> x.version(2));
        DUE.index("unit -1", () -> x.version(-1));
        DUE.is("version 1", x.version(0), 1);
        int first = x.unitNode(0, 0);
        int second = x.unitNode(0, 1);
        int latest = x.unitNode(0, -1);
        DUE.is("it begins as the latest one is: value", x.valueOf(second, 2), 5);
        DUE.is("it begins as the latest one is: type", x.typeOf(second, 3), 2);
        x.setType(0, 3, -1);
        DUE.is("just the latest one is edited", x.typeOf(first, 3), 2);
        DUE.is("the latest one", x.typeOf(second, 3), 1);
        DUE.is("version 2", x.version(0), 2);
        x.setType(0, 3, -2);
        DUE.is("always the latest one", x.typeOf(latest, 3), 0);
        DUE.is("version 1 stays", x.typeOf(second, 3), 1);
        DUE.is("version 3", x.version(0), 3);
        DUE.is("version 4", x.version(0), 4);
        DUE.state("a 6th", () -> x.version(0));
        x.setValue(0, 0, 0, -1, 0);
        DUE.is("a call that threw made none", x.valueOf(x.unitNode(0, 4), 0), 1);
        DUE.is("another unit has its own", x.version(1), 1);
    }

    private static void setType() {
        MixinUnits x = new MixinUnits();
        x.type(0, 0, 0);
        x.unit();
        int n = x.unitNode(0, -1);
        DUE.index("no unit", () -> x.setType(1, 0, 0));
        DUE.index("unit -1", () -> x.setType(-1, 0, 0));
        DUE.index("no type", () -> x.setType(0, 0, 1));
        DUE.index("type -3", () -> x.setType(0, 0, -3));
        DUE.index("no type comes ahead of no name", () -> x.setType(0, 6, 1));
        DUE.argument("name 6", () -> x.setType(0, 6, 0));
        DUE.argument("name -1", () -> x.setType(0, -1, -1));
        for (int name = 0; name < 6; name++) {
            DUE.is("nothing was set", x.typeOf(n, name), 0);
        }
        x.setType(0, 5, -1);
        DUE.is("a hole", x.typeOf(n, 5), 1);
        x.setType(0, 5, 0);
        DUE.is("a definition", x.typeOf(n, 5), 2);
        x.setType(0, 0, 0);
        x.setType(0, 5, -2);
        DUE.is("no component", x.typeOf(n, 5), 0);
        DUE.is("another one stays", x.typeOf(n, 0), 2);
        x.setType(0, 4, -2);
        DUE.is("none stays none", x.typeOf(n, 4), 0);
    }

    private static void setValue() {
        MixinUnits x = new MixinUnits();
        x.type(0, 0, 0);
        x.leaf(false, 3);
        x.unit();
        int n = x.unitNode(0, -1);
        DUE.index("no unit", () -> x.setValue(1, 0, 0, 0, 0));
        DUE.index("unit -1", () -> x.setValue(-1, 0, 0, 0, 0));
        DUE.index("no type", () -> x.setValue(0, 0, 1, 0, 0));
        DUE.index("type -1", () -> x.setValue(0, 0, -1, 0, 0));
        DUE.index("no expression", () -> x.setValue(0, 0, 0, 1, 0));
        DUE.index("expression -2", () -> x.setValue(0, 0, 0, -2, 0));
        DUE.index("no expression comes ahead of no name", () -> x.setValue(0, 10, 0, 1, 8));
        DUE.argument("name 10", () -> x.setValue(0, 10, 0, 0, 0));
        DUE.argument("name -1", () -> x.setValue(0, -1, 0, 0, 0));
        DUE.argument("flags 8", () -> x.setValue(0, 0, 0, 0, 8));
        DUE.argument("flags -1", () -> x.setValue(0, 0, 0, 0, -1));
        for (int flags = 1; flags < 8; flags++) {
            int told = flags;
            if (flags != 4) {
                DUE.argument("flags " + flags + " for a hole", () -> x.setValue(0, 0, 0, -1, told));
            }
        }
        for (int name = 0; name < 10; name++) {
            DUE.is("nothing was set", x.valueOf(n, name), 0);
        }
        for (int flags = 0; flags < 8; flags++) {
            x.setValue(0, 9, 0, 0, flags);
            DUE.is("flags " + flags, x.valueOf(n, 9), flags < 4 ? 2 : 6);
        }
        x.setValue(0, 9, 0, -1, 0);
        DUE.is("a hole", x.valueOf(n, 9), 1);
        x.setValue(0, 0, 0, -1, 4);
        DUE.is("a hole that is a ghost", x.valueOf(n, 0), 5);
        DUE.argument("flags for a hole", () -> x.setValue(0, 0, 0, -1, 2));
        DUE.is("it stays as it was", x.valueOf(n, 0), 5);
    }

    private static void remove() {
        MixinUnits x = new MixinUnits();
        x.type(0, 0, 0);
        x.leaf(false, 3);
        x.unit();
        x.setValue(0, 9, 0, 0, 0);
        x.setValue(0, 8, 0, -1, 0);
        x.version(0);
        int n = x.unitNode(0, -1);
        DUE.index("no unit", () -> x.remove(1, 0));
        DUE.index("no unit comes ahead of no name", () -> x.remove(-1, 10));
        DUE.argument("name 10", () -> x.remove(0, 10));
        DUE.argument("name -1", () -> x.remove(0, -1));
        DUE.is("there was none", x.remove(0, 0), false);
        DUE.is("there was one", x.remove(0, 9), true);
        DUE.is("there is none any more", x.remove(0, 9), false);
        DUE.is("it is gone", x.valueOf(n, 9), 0);
        DUE.is("another one stays", x.valueOf(n, 8), 1);
        DUE.is("it is gone from the latest version alone", x.valueOf(x.unitNode(0, 0), 9), 2);
        DUE.is("a hole", x.remove(0, 8), true);
        x.setValue(0, 9, 0, -1, 4);
        DUE.is("it can be set again", x.valueOf(n, 9), 5);
    }

    private static void unitNode() {
        MixinUnits x = new MixinUnits();
        x.unit();
        DUE.index("no unit", () -> x.unitNode(1, -1));
        DUE.index("unit -1", () -> x.unitNode(-1, -1));
        DUE.index("no version", () -> x.unitNode(0, 1));
        DUE.index("version -2", () -> x.unitNode(0, -2));
        DUE.is("a version", x.unitNode(0, 0), 0);
        DUE.is("the latest one", x.unitNode(0, -1), 1);
        x.version(0);
        DUE.is("a later version", x.unitNode(0, 1), 2);
        for (int i = 3; i < 40; i++) {
            DUE.is("node " + i, x.unitNode(0, 0), i);
        }
        DUE.state("a 41st", () -> x.unitNode(0, 0));
        DUE.index("no version comes ahead of too many", () -> x.unitNode(0, 2));
        DUE.index("there is no 41st", () -> x.error(40));
    }

    private static void node() {
        MixinUnits x = new MixinUnits();
        x.unit();
        x.unitNode(0, 0);
        DUE.argument("kind 3", () -> x.node(3, 0, 0, false));
        DUE.argument("kind -1 comes ahead of no node", () -> x.node(-1, 9, 9, false));
        DUE.index("no first", () -> x.node(0, 1, 0, false));
        DUE.index("no second", () -> x.node(1, 0, 1, true));
        DUE.index("second -1", () -> x.node(2, 0, -1, true));
        DUE.is("LINK, weight 3", x.node(0, 0, 0, true), 1);
        DUE.is("SEAL, weight 7", x.node(1, 1, 1, true), 2);
        DUE.is("APPLY, weight 11", x.node(2, 2, 1, false), 3);
        DUE.is("LINK, weight 23", x.node(0, 3, 3, false), 4);
        DUE.state("LINK, weight 25", () -> x.node(0, 4, 0, false));
        DUE.is("RENAME, weight 24", x.rename(4, 0, 1), 5);
        DUE.is("HIDE, weight 2", x.rename(0, 0, -1), 6);
        DUE.is("LINK, weight 13", x.node(0, 3, 0, false), 7);
        DUE.is("APPLY, weight 16", x.node(2, 7, 6, false), 8);
        DUE.is("SEAL, weight 24", x.node(1, 8, 2, false), 9);
        DUE.state("SEAL, weight 25", () -> x.node(1, 9, 0, false));
        for (int i = 10; i < 40; i++) {
            DUE.is("node " + i, x.node(i % 3, 0, 0, false), i);
        }
        DUE.state("a 41st", () -> x.node(0, 0, 0, false));
        DUE.index("no node comes ahead of too many", () -> x.node(0, 0, 40, false));
    }

    private static void choose() {
        MixinUnits x = new MixinUnits();
        x.unit();
        x.unitNode(0, 0);
        DUE.index("no first", () -> x.choose(1, 0, 0));
        DUE.index("no second", () -> x.choose(0, -1, 0));
        DUE.index("no third", () -> x.choose(0, 0, 1));
        DUE.is("weight 4", x.choose(0, 0, 0), 1);
        DUE.is("weight 13", x.choose(1, 1, 1), 2);
        DUE.is("weight 22", x.choose(2, 1, 1), 3);
        DUE.state("weight 25", () -> x.choose(3, 0, 0));
        DUE.is("weight 23", x.rename(3, 1, 2), 4);
        DUE.state("weight 26", () -> x.choose(0, 4, 0));
        DUE.is("a 6th node", x.choose(0, 0, 1), 5);
        for (int i = 6; i < 40; i++) {
            DUE.is("node " + i, x.choose(0, 0, 0), i);
        }
        DUE.state("a 41st", () -> x.choose(0, 0, 0));
        DUE.index("no node comes ahead of too many", () -> x.choose(0, 0, 40));
    }

    private static void rename() {
        MixinUnits x = new MixinUnits();
        x.unit();
        x.unitNode(0, 0);
        DUE.index("no node", () -> x.rename(1, 0, 1));
        DUE.index("no node comes ahead of no name", () -> x.rename(-1, 10, 10));
        DUE.argument("name 10", () -> x.rename(0, 10, 0));
        DUE.argument("name -1", () -> x.rename(0, -1, -1));
        DUE.argument("to 10", () -> x.rename(0, 0, 10));
        DUE.argument("to -2", () -> x.rename(0, 0, -2));
        DUE.argument("both the same", () -> x.rename(0, 9, 9));
        DUE.is("RENAME", x.rename(0, 9, 0), 1);
        for (int i = 2; i < 24; i++) {
            DUE.is("weight " + (i + 1), x.rename(i - 1, 0, -1), i);
        }
        DUE.state("weight 25", () -> x.rename(23, 0, 1));
        for (int i = 24; i < 40; i++) {
            DUE.is("node " + i, x.rename(0, 0, -1), i);
        }
        DUE.state("a 41st", () -> x.rename(0, 0, 1));
        DUE.argument("a wrong name comes ahead of too many", () -> x.rename(0, 0, 10));
    }
}
