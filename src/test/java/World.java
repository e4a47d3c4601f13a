import java.util.HashMap;
import java.util.List;
import java.util.Map;

/**
 * One object under test, and short words for what the tests of boundaries make of it. Types and expressions that
 * are made in the same way are made once; calls are counted, as an object is promised for 512 of them.
 */
final class World {
    static final int NONE = 0;
    static final int HOLE = 1;
    static final int GHOST_HOLE = 2;
    static final int DEFINED = 3;
    static final int GHOST = 4;
    /** Each way in which a unit can have a value, or have none. */
    static final int[] WAYS = {NONE, HOLE, GHOST_HOLE, DEFINED, GHOST};
    static final String[] WORDS = {"none", "hole", "ghost hole", "defined", "ghost"};

    private final MixinUnits made = new MixinUnits();
    private final Map<List<Integer>, Integer> types = new HashMap<>();
    private final Map<List<Integer>, Integer> expressions = new HashMap<>();
    private int calls;

    /** The object, for one call. */
    MixinUnits x() {
        calls++;
        if (calls > 512) {
            throw new AssertionError("the test has more than 512 calls of one object");
        }
        return made;
    }

    int calls() {
        return calls;
    }

    // ---- types

    private int type(int kind, int first, int second) {
        Integer known = types.get(List.of(kind, first, second));
        if (known == null) {
            known = x().type(kind, first, second);
            types.put(List.of(kind, first, second), known);
        }
        return known;
    }

    int integer() {
        return type(0, 0, 0);
    }

    int named(int name) {
        return type(2, name, 0);
    }

    int pairOf(int first, int second) {
        return type(1, first, second);
    }

    int pairOfIntegers() {
        return pairOf(integer(), integer());
    }

    /** Pairs of a type that stands in them so many times: twice as many parts, less one. */
    int tree(int type, int leaves) {
        return leaves == 1 ? type : pairOf(tree(type, leaves / 2), tree(type, leaves - leaves / 2));
    }

    // ---- expressions

    private int expression(int kind, int first, int second, int third) {
        Integer known = expressions.get(List.of(kind, first, second, third));
        if (known == null) {
            known = x().expression(kind, first, second, third);
            expressions.put(List.of(kind, first, second, third), known);
        }
        return known;
    }

    private int leaf(boolean isRef, int number) {
        Integer known = expressions.get(List.of(isRef ? 6 : 5, number));
        if (known == null) {
            known = x().leaf(isRef, number);
            expressions.put(List.of(isRef ? 6 : 5, number), known);
        }
        return known;
    }

    int number(int number) {
        return leaf(false, number);
    }

    int ref(int name) {
        return leaf(true, name);
    }

    int add(int first, int second) {
        return expression(0, first, second, 0);
    }

    int pair(int first, int second) {
        return expression(1, first, second, 0);
    }

    int first(int pair) {
        return expression(2, pair, 0, 0);
    }

    int second(int pair) {
        return expression(3, pair, 0, 0);
    }

    int when(int first, int second, int third) {
        return expression(4, first, second, third);
    }

    // ---- units

    /** A new unit with a node that is always its latest version. */
    Unit unit() {
        int number = x().unit();
        return new Unit(number, x().unitNode(number, -1));
    }

    final class Unit {
        final int number;
        final int node;

        Unit(int number, int node) {
            this.number = number;
            this.node = node;
        }

        Unit type(int name, int type) {
            x().setType(number, name, type);
            return this;
        }

        Unit typeHole(int name) {
            return type(name, -1);
        }

        Unit noType(int name) {
            return type(name, -2);
        }

        Unit set(int name, int type, int expression, int flags) {
            x().setValue(number, name, type, expression, flags);
            return this;
        }

        Unit value(int name, int type, int expression) {
            return set(name, type, expression, 0);
        }

        /** A value of the type INT. */
        Unit value(int name, int expression) {
            return set(name, integer(), expression, 0);
        }

        Unit lazy(int name, int expression) {
            return set(name, integer(), expression, 1);
        }

        Unit effect(int name, int expression) {
            return set(name, integer(), expression, 2);
        }

        Unit lazyEffect(int name, int expression) {
            return set(name, integer(), expression, 3);
        }

        Unit ghost(int name, int expression) {
            return set(name, integer(), expression, 4);
        }

        Unit hole(int name, int type) {
            return set(name, type, -1, 0);
        }

        Unit hole(int name) {
            return hole(name, integer());
        }

        Unit ghostHole(int name) {
            return set(name, integer(), -1, 4);
        }

        /** A value in one of the five ways; as a definition it is a number. */
        Unit in(int way, int name) {
            if (way == NONE) {
                x().remove(number, name);
                return this;
            }
            boolean isHole = way == HOLE || way == GHOST_HOLE;
            return set(name, integer(), isHole ? -1 : number(7), way == GHOST || way == GHOST_HOLE ? 4 : 0);
        }

        Unit remove(int name) {
            x().remove(number, name);
            return this;
        }

        int version() {
            return x().version(number);
        }

        int nodeOf(int version) {
            return x().unitNode(number, version);
        }
    }

    // ---- nodes

    int link(int first, int second) {
        return x().node(0, first, second, false);
    }

    int seal(int first, int signature) {
        return x().node(1, first, signature, false);
    }

    int apply(int functor, int argument) {
        return x().node(2, functor, argument, false);
    }

    int sealAnew(int first, int signature) {
        return x().node(1, first, signature, true);
    }

    int applyAnew(int functor, int argument) {
        return x().node(2, functor, argument, true);
    }

    int choose(int first, int second, int third) {
        return x().choose(first, second, third);
    }

    int rename(int node, int name, int to) {
        return x().rename(node, name, to);
    }

    int hide(int node, int name) {
        return x().rename(node, name, -1);
    }

    // ---- answers

    int error(int node) {
        return x().error(node);
    }

    int typeOf(int node, int name) {
        return x().typeOf(node, name);
    }

    boolean same(int node, int name, int other, int otherName) {
        return x().isSameType(node, name, other, otherName);
    }

    int valueOf(int node, int name) {
        return x().valueOf(node, name);
    }

    int size(int node, int name) {
        return x().size(node, name);
    }

    int run(int node) {
        return x().run(node);
    }

    int result(int name, int place) {
        return x().result(name, place);
    }

    int result(int name) {
        return result(name, 0);
    }

    int build(int node) {
        return x().build(node);
    }

    int compiled(int node) {
        return x().compiled(node);
    }

    boolean isFresh(int node) {
        return x().isFresh(node);
    }
}
