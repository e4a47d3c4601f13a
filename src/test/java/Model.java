import java.util.ArrayList;
import java.util.Arrays;
import java.util.HashMap;
import java.util.IdentityHashMap;
import java.util.LinkedHashMap;
import java.util.List;
import java.util.Map;
import java.util.TreeMap;
import java.util.function.IntFunction;

/**
 * The document's words once more, in another form: trees, maps, recursion and nothing kept between calls.
 * FuzzTest holds the class against it.
 */
final class Model {
    /** A type in full: kind 'i' INT, 'p' PAIR, 's' a stamp, 'o' an open name. */
    record Full(char kind, Full first, Full second, String stamp, int open) {
        static final Full INT = new Full('i', null, null, "", 0);

        static Full pair(Full a, Full b) {
            return new Full('p', a, b, "", 0);
        }

        static Full stamp(String s) {
            return new Full('s', null, null, s, 0);
        }

        static Full open(int name) {
            return new Full('o', null, null, "", name);
        }

        long parts() {
            return kind == 'p' ? 1 + first.parts() + second.parts() : 1;
        }

        Full map(IntFunction<Full> byOpen) {
            if (kind == 'p') {
                return pair(first.map(byOpen), second.map(byOpen));
            }
            if (kind == 'o') {
                Full put = byOpen.apply(open);
                return put == null ? this : put;
            }
            return this;
        }

        Full restamp(String by) {
            if (kind == 'p') {
                return pair(first.restamp(by), second.restamp(by));
            }
            return kind == 's' ? stamp("{" + by + "|" + stamp + "}") : this;
        }

        void opens(boolean[] found) {
            if (kind == 'p') {
                first.opens(found);
                second.opens(found);
            } else if (kind == 'o') {
                found[open] = true;
            }
        }
    }

    record Value(Full type, boolean hole, boolean ghost, Integer number) {
    }

    /** Type names: null value for a hole. */
    static final class Shape {
        final TreeMap<Integer, Full> types = new TreeMap<>();
        final TreeMap<Integer, Value> values = new TreeMap<>();

        boolean typeHole(int n) {
            return types.containsKey(n) && types.get(n) == null;
        }

        boolean typeDefined(int n) {
            return types.get(n) != null;
        }

        /** Whether there is a cell to be shown: a definition that is no ghost. */
        boolean shows(int n) {
            return values.containsKey(n) && !values.get(n).hole && !values.get(n).ghost;
        }

        Full typeOrOpen(int n) {
            return types.get(n) == null ? Full.open(n) : types.get(n);
        }

        List<Object> told(java.util.Set<Integer> names) {
            List<Object> list = new ArrayList<>();
            list.add(new TreeMap<>(types));
            TreeMap<Integer, Value> seen = new TreeMap<>(values);
            seen.keySet().retainAll(names);
            list.add(seen);
            return list;
        }
    }

    @SuppressWarnings("serial")
    static final class Wrong extends RuntimeException {
        final int code;

        Wrong(int code) {
            super(null, null, false, false);
            this.code = code;
        }
    }

    record Ty(int kind, int first, int second) {
    }

    record Ex(int kind, int a, int b, int c) {
    }

    record Comp(int type, int expression, int flags) {
    }

    static final class Ver {
        final TreeMap<Integer, Integer> types = new TreeMap<>();
        final TreeMap<Integer, Comp> values = new TreeMap<>();
    }

    record Nd(char kind, int[] parts, int a, int b, boolean gen) {
    }

    final List<Ty> types = new ArrayList<>();
    final List<Ex> exprs = new ArrayList<>();
    final List<List<Ver>> units = new ArrayList<>();
    final List<Nd> nodes = new ArrayList<>();
    final Map<Integer, Object> seenAt = new HashMap<>();
    final Map<Integer, Object> ownAt = new HashMap<>();
    final Map<Integer, Integer> times = new HashMap<>();
    Kept kept;

    // ---- making

    static IllegalArgumentException iae() {
        return new IllegalArgumentException();
    }

    static IndexOutOfBoundsException ioobe() {
        return new IndexOutOfBoundsException();
    }

    static IllegalStateException ise() {
        return new IllegalStateException();
    }

    int typeWeight(int t) {
        Ty ty = types.get(t);
        return ty.kind == 1 ? 1 + typeWeight(ty.first) + typeWeight(ty.second) : 1;
    }

    int exprWeight(int e) {
        Ex ex = exprs.get(e);
        return switch (ex.kind) {
            case 0, 1 -> 1 + exprWeight(ex.a) + exprWeight(ex.b);
            case 2, 3 -> 1 + exprWeight(ex.a);
            case 4 -> 1 + exprWeight(ex.a) + exprWeight(ex.b) + exprWeight(ex.c);
            default -> 1;
        };
    }

    int nodeWeight(int n) {
        int w = 1;
        for (int p : nodes.get(n).parts) {
            w += nodeWeight(p);
        }
        return w;
    }

    static boolean in(int i, int size) {
        return i >= 0 && i < size;
    }

    int type(int kind, int first, int second) {
        if (!in(kind, 3) || (kind == 2 && !in(first, 6))) {
            throw iae();
        }
        if (kind == 1 && !(in(first, types.size()) && in(second, types.size()))) {
            throw ioobe();
        }
        if (types.size() == 60 || (kind == 1 && 1 + typeWeight(first) + typeWeight(second) > 12)) {
            throw ise();
        }
        types.add(new Ty(kind, kind == 0 ? 0 : first, kind == 1 ? second : 0));
        return types.size() - 1;
    }

    int leaf(boolean isRef, int number) {
        if (isRef && !in(number, 10)) {
            throw iae();
        }
        if (exprs.size() == 120) {
            throw ise();
        }
        exprs.add(new Ex(isRef ? 6 : 5, number, 0, 0));
        return exprs.size() - 1;
    }

    int expression(int kind, int first, int second, int third) {
        if (!in(kind, 5)) {
            throw iae();
        }
        int arity = kind < 2 ? 2 : kind < 4 ? 1 : 3;
        int[] parts = Arrays.copyOf(new int[] {first, second, third}, arity);
        int weight = 1;
        for (int p : parts) {
            if (!in(p, exprs.size())) {
                throw ioobe();
            }
            weight += exprWeight(p);
        }
        if (exprs.size() == 120 || weight > 12) {
            throw ise();
        }
        exprs.add(new Ex(kind, first, arity > 1 ? second : 0, arity > 2 ? third : 0));
        return exprs.size() - 1;
    }

    int unit() {
        if (units.size() == 8) {
            throw ise();
        }
        units.add(new ArrayList<>(List.of(new Ver())));
        return units.size() - 1;
    }

    List<Ver> versions(int unit) {
        if (!in(unit, units.size())) {
            throw ioobe();
        }
        return units.get(unit);
    }

    Ver latest(int unit) {
        List<Ver> all = versions(unit);
        return all.get(all.size() - 1);
    }

    int version(int unit) {
        Ver last = latest(unit);
        if (units.get(unit).size() == 5) {
            throw ise();
        }
        Ver made = new Ver();
        made.types.putAll(last.types);
        made.values.putAll(last.values);
        units.get(unit).add(made);
        return units.get(unit).size() - 1;
    }

    void setType(int unit, int name, int type) {
        Ver v = latest(unit);
        if (type != -1 && type != -2 && !in(type, types.size())) {
            throw ioobe();
        }
        if (!in(name, 6)) {
            throw iae();
        }
        if (type == -2) {
            v.types.remove(name);
        } else {
            v.types.put(name, type);
        }
    }

    void setValue(int unit, int name, int type, int expression, int flags) {
        Ver v = latest(unit);
        if (!in(type, types.size()) || (expression != -1 && !in(expression, exprs.size()))) {
            throw ioobe();
        }
        if (!in(name, 10) || !in(flags, 8) || (expression == -1 && flags % 4 != 0)) {
            throw iae();
        }
        v.values.put(name, new Comp(type, expression, flags));
    }

    boolean remove(int unit, int name) {
        Ver v = latest(unit);
        if (!in(name, 10)) {
            throw iae();
        }
        return v.values.remove(name) != null;
    }

    int addNode(Nd node) {
        int weight = 1;
        for (int p : node.parts) {
            weight += nodeWeight(p);
        }
        if (nodes.size() == 40 || weight > 24) {
            throw ise();
        }
        nodes.add(node);
        return nodes.size() - 1;
    }

    void need(int... asked) {
        for (int n : asked) {
            if (!in(n, nodes.size())) {
                throw ioobe();
            }
        }
    }

    int unitNode(int unit, int version) {
        if (version != -1 && !in(version, versions(unit).size())) {
            throw ioobe();
        }
        versions(unit);
        return addNode(new Nd('U', new int[0], unit, version, false));
    }

    int node(int kind, int first, int second, boolean gen) {
        if (!in(kind, 3)) {
            throw iae();
        }
        need(first, second);
        return addNode(new Nd("LSA".charAt(kind), new int[] {first, second}, 0, 0, gen && kind > 0));
    }

    int choose(int first, int second, int third) {
        need(first, second, third);
        return addNode(new Nd('C', new int[] {first, second, third}, 0, 0, false));
    }

    int rename(int node, int name, int to) {
        need(node);
        if (!in(name, 10) || !in(to + 1, 11) || to == name) {
            throw iae();
        }
        return addNode(new Nd(to == -1 ? 'H' : 'R', new int[] {node}, name, to, false));
    }

    // ---- faces

    int versionNumber(Nd node) {
        return node.b == -1 ? units.get(node.a).size() - 1 : node.b;
    }

    Ver versionOf(Nd node) {
        return units.get(node.a).get(versionNumber(node));
    }

    String what(int n) {
        Nd node = nodes.get(n);
        if (node.gen || node.kind == 'C') {
            return "N" + n;
        }
        if (node.kind == 'U') {
            return "V" + node.a + "." + versionNumber(node);
        }
        StringBuilder text = new StringBuilder().append(node.kind).append('(');
        for (int p : node.parts) {
            text.append(what(p)).append(',');
        }
        if (node.kind == 'R' || node.kind == 'H') {
            text.append(node.a).append(',').append(node.b);
        }
        return text.append(')').toString();
    }

    String stamp(int n, int name) {
        Nd node = nodes.get(n);
        if (node.gen || node.kind == 'C') {
            return "{N" + n + "/" + name + "}";
        }
        return "{" + what(node.parts[0]) + "&" + what(node.parts[1]) + "/" + name + "}";
    }

    Shape shape(int n) {
        Nd node = nodes.get(n);
        Shape[] parts = new Shape[node.parts.length];
        for (int i = 0; i < parts.length; i++) {
            try {
                parts[i] = shape(node.parts[i]);
            } catch (Wrong w) {
                throw new Wrong(1000 + i);
            }
        }
        return switch (node.kind) {
            case 'U' -> unitShape(versionOf(node));
            case 'L' -> link(parts[0], parts[1]);
            case 'S' -> seal(n, parts[0], parts[1]);
            case 'A' -> apply(n, parts[0], parts[1]);
            case 'C' -> choice(n, parts[0], parts[1], parts[2]);
            default -> renamed(node, parts[0]);
        };
    }

    static Wrong type(int kind, int name) {
        return new Wrong(100 * kind + 50 + name);
    }

    static Wrong value(int kind, int name) {
        return new Wrong(100 * kind + name);
    }

    Full flat(int t) {
        Ty ty = types.get(t);
        return ty.kind == 0 ? Full.INT : ty.kind == 2 ? Full.open(ty.first) : Full.pair(flat(ty.first), flat(ty.second));
    }

    static boolean[] opens(Full f) {
        boolean[] found = new boolean[6];
        f.opens(found);
        return found;
    }

    static long partsOf(Full f, Map<Integer, Full> eq) {
        if (f.kind == 'p') {
            return 1 + partsOf(f.first, eq) + partsOf(f.second, eq);
        }
        return f.kind == 'o' && eq.get(f.open) != null ? partsOf(eq.get(f.open), eq) : 1;
    }

    static boolean comesInto(int name, Full f, Map<Integer, Full> eq, boolean[] passed) {
        boolean[] used = opens(f);
        for (int u = 0; u < 6; u++) {
            if (used[u] && eq.get(u) != null) {
                if (u == name) {
                    return true;
                }
                if (!passed[u]) {
                    passed[u] = true;
                    if (comesInto(name, eq.get(u), eq, passed)) {
                        return true;
                    }
                }
            }
        }
        return false;
    }

    static Full again(Full f, Map<Integer, Full> eq) {
        return f.map(o -> eq.get(o) == null ? null : again(eq.get(o), eq));
    }

    static Map<Integer, Full> makeFull(Map<Integer, Full> eq) {
        for (int name : eq.keySet()) {
            if (comesInto(name, eq.get(name), eq, new boolean[6])) {
                throw type(3, name);
            }
        }
        for (int name : eq.keySet()) {
            if (partsOf(eq.get(name), eq) > 200) {
                throw type(7, name);
            }
        }
        Map<Integer, Full> full = new TreeMap<>();
        for (int name : eq.keySet()) {
            full.put(name, again(eq.get(name), eq));
        }
        return full;
    }

    Shape unitShape(Ver v) {
        Shape shape = new Shape();
        TreeMap<Integer, Full> eq = new TreeMap<>();
        v.types.forEach((name, t) -> {
            if (t >= 0) {
                boolean[] used = opens(flat(t));
                for (int u = 0; u < 6; u++) {
                    if (used[u] && !v.types.containsKey(u)) {
                        throw type(1, name);
                    }
                }
                eq.put(name, flat(t));
            }
        });
        Map<Integer, Full> full = makeFull(eq);
        v.types.forEach((name, t) -> shape.types.put(name, full.get(name)));
        v.values.forEach((name, c) -> {
            boolean[] used = opens(flat(c.type));
            for (int u = 0; u < 6; u++) {
                if (used[u] && !v.types.containsKey(u)) {
                    throw value(1, name);
                }
            }
            Full f = flat(c.type).map(full::get);
            if (f.parts() > 200) {
                throw value(7, name);
            }
            Integer number = c.expression >= 0 && c.flags == 0 && exprs.get(c.expression).kind == 5
                ? Integer.valueOf(exprs.get(c.expression).a) : null;
            shape.values.put(name, new Value(f, c.expression == -1, c.flags >= 4, number));
        });
        v.values.forEach((name, c) -> {
            if (c.expression >= 0) {
                Full found;
                try {
                    found = typeOfExpression(c.expression, shape);
                } catch (Wrong w) {
                    throw value(w.code, name);
                }
                if (!found.equals(shape.values.get(name).type)) {
                    throw value(2, name);
                }
                if (c.flags < 4 && refsGhost(c.expression, v)) {
                    throw value(6, name);
                }
            }
        });
        return shape;
    }

    boolean refsGhost(int e, Ver v) {
        for (int name : refs(e)) {
            if (v.values.get(name).flags >= 4) {
                return true;
            }
        }
        return false;
    }

    java.util.Set<Integer> refs(int e) {
        java.util.Set<Integer> found = new java.util.TreeSet<>();
        Ex ex = exprs.get(e);
        if (ex.kind == 6) {
            found.add(ex.a);
        }
        if (ex.kind <= 4) {
            found.addAll(refs(ex.a));
        }
        if (ex.kind == 0 || ex.kind == 1 || ex.kind == 4) {
            found.addAll(refs(ex.b));
        }
        if (ex.kind == 4) {
            found.addAll(refs(ex.c));
        }
        return found;
    }

    Full typeOfExpression(int e, Shape shape) {
        Ex ex = exprs.get(e);
        if (ex.kind == 5) {
            return Full.INT;
        }
        if (ex.kind == 6) {
            if (!shape.values.containsKey(ex.a)) {
                throw new Wrong(1);
            }
            return shape.values.get(ex.a).type;
        }
        Full a = typeOfExpression(ex.a, shape);
        Full b = ex.kind == 2 || ex.kind == 3 ? null : typeOfExpression(ex.b, shape);
        Full c = ex.kind == 4 ? typeOfExpression(ex.c, shape) : null;
        boolean fine = switch (ex.kind) {
            case 0 -> a.kind == 'i' && b.kind == 'i';
            case 1 -> true;
            case 4 -> a.kind == 'i' && b.equals(c);
            default -> a.kind == 'p';
        };
        if (!fine) {
            throw new Wrong(2);
        }
        return switch (ex.kind) {
            case 0 -> Full.INT;
            case 1 -> Full.pair(a, b);
            case 2 -> a.first;
            case 3 -> a.second;
            default -> b;
        };
    }

    static Shape link(Shape one, Shape two) {
        Shape shape = new Shape();
        TreeMap<Integer, Full> eq = new TreeMap<>();
        for (int name = 0; name < 6; name++) {
            if (one.typeDefined(name)) {
                eq.put(name, one.types.get(name));
            } else if (two.typeDefined(name)) {
                eq.put(name, two.types.get(name));
            }
        }
        Map<Integer, Full> full = makeFull(eq);
        for (int name = 0; name < 6; name++) {
            if (one.types.containsKey(name) || two.types.containsKey(name)) {
                shape.types.put(name, full.get(name));
            }
            if (one.typeDefined(name) && two.typeDefined(name)) {
                Full other = two.types.get(name);
                if (partsOf(other, full) > 200 || !other.map(full::get).equals(full.get(name))) {
                    throw type(4, name);
                }
            }
        }
        for (int name = 0; name < 10; name++) {
            Value a = one.values.get(name);
            Value b = two.values.get(name);
            if ((a != null && partsOf(a.type, full) > 200) || (b != null && partsOf(b.type, full) > 200)) {
                throw value(7, name);
            }
            if (a != null) {
                a = new Value(a.type.map(full::get), a.hole, a.ghost, a.number);
            }
            if (b != null) {
                b = new Value(b.type.map(full::get), b.hole, b.ghost, b.number);
            }
            if (a != null && b != null) {
                if (!a.hole && !b.hole) {
                    throw value(4, name);
                }
                if (!a.type.equals(b.type)) {
                    throw value(2, name);
                }
                Value hole = a.hole ? a : b;
                Value other = a.hole ? b : a;
                if (!other.hole && other.ghost && !hole.ghost) {
                    throw value(6, name);
                }
                boolean ghost = other.hole ? a.ghost && b.ghost : other.ghost;
                shape.values.put(name, new Value(a.type, other.hole, ghost, other.number));
            } else if (a != null || b != null) {
                shape.values.put(name, a != null ? a : b);
            }
        }
        return shape;
    }

    Shape seal(int n, Shape one, Shape sig) {
        Shape shape = new Shape();
        Map<Integer, Full> real = new HashMap<>();
        Map<Integer, Full> stamps = new HashMap<>();
        for (int name = 0; name < 6; name++) {
            if (sig.typeHole(name) && one.typeDefined(name)) {
                real.put(name, one.types.get(name));
                stamps.put(name, Full.stamp(stamp(n, name)));
            }
        }
        for (int name : sig.types.keySet()) {
            if (!one.types.containsKey(name)) {
                throw type(5, name);
            }
            if (sig.typeDefined(name)) {
                Full asked = sig.types.get(name);
                if (one.typeHole(name)) {
                    throw type(2, name);
                }
                if (partsOf(asked, real) > 200 && asked.map(real::get).parts() > 200) {
                    throw type(7, name);
                }
                if (!asked.map(real::get).equals(one.types.get(name))) {
                    throw type(2, name);
                }
                shape.types.put(name, asked.map(stamps::get));
            } else {
                shape.types.put(name, stamps.get(name));
            }
        }
        for (int name : sig.values.keySet()) {
            Value asked = sig.values.get(name);
            Value has = one.values.get(name);
            if (has == null) {
                throw value(5, name);
            }
            Full full = asked.type.map(real::get);
            if (full.parts() > 200) {
                throw value(7, name);
            }
            if (!full.equals(has.type)) {
                throw value(2, name);
            }
            if (has.ghost && !asked.ghost) {
                throw value(6, name);
            }
            shape.values.put(name, new Value(asked.type.map(stamps::get), has.hole, asked.ghost, null));
        }
        return shape;
    }

    Shape apply(int n, Shape functor, Shape argument) {
        Nd node = nodes.get(n);
        String by = node.gen ? "N" + n : what(node.parts[1]);
        Shape anew = new Shape();
        functor.types.forEach((name, f) -> anew.types.put(name, f == null ? null : f.restamp(by)));
        functor.values.forEach((name, v) ->
            anew.values.put(name, new Value(v.type.restamp(by), v.hole, v.ghost, v.number)));
        Shape less = new Shape();
        less.types.putAll(argument.types);
        less.values.putAll(argument.values);
        less.values.keySet().retainAll(functor.values.keySet());
        Shape shape = link(anew, less);
        for (int name = 0; name < 6; name++) {
            if (functor.typeHole(name) && !argument.typeDefined(name)) {
                throw type(5, name);
            }
        }
        functor.values.forEach((name, v) -> {
            if (v.hole && (argument.values.get(name) == null || argument.values.get(name).hole)) {
                throw value(5, name);
            }
        });
        shape.types.keySet().retainAll(functor.types.keySet());
        shape.values.keySet().retainAll(functor.values.keySet());
        return shape;
    }

    Shape choice(int n, Shape one, Shape two, Shape third) {
        Value by = third.values.get(0);
        if (by == null || by.hole || by.ghost || !by.type.equals(Full.INT)) {
            throw value(5, 0);
        }
        third.values.forEach((name, v) -> {
            if (v.hole && !v.ghost) {
                throw value(8, name);
            }
        });
        for (int name = 0; name < 6; name++) {
            if (one.types.containsKey(name) != two.types.containsKey(name)) {
                throw type(5, name);
            }
        }
        for (int name = 0; name < 10; name++) {
            if (one.values.containsKey(name) != two.values.containsKey(name)) {
                throw value(5, name);
            }
        }
        for (int name : one.types.keySet()) {
            if (one.typeHole(name) || two.typeHole(name)) {
                throw type(8, name);
            }
        }
        for (int name : one.values.keySet()) {
            if (one.values.get(name).hole || two.values.get(name).hole) {
                throw value(8, name);
            }
        }
        Shape shape = new Shape();
        LinkedHashMap<Integer, Full> anew = new LinkedHashMap<>();
        for (int name : one.types.keySet()) {
            if (one.types.get(name).equals(two.types.get(name))) {
                shape.types.put(name, one.types.get(name));
            } else {
                anew.put(name, Full.stamp(stamp(n, name)));
                shape.types.put(name, anew.get(name));
            }
        }
        for (int name : one.values.keySet()) {
            Full a = hide(one.values.get(name).type, one, anew);
            Full b = hide(two.values.get(name).type, two, anew);
            if (!a.equals(b)) {
                throw value(2, name);
            }
            shape.values.put(name, new Value(a, false, one.values.get(name).ghost || two.values.get(name).ghost, null));
        }
        return shape;
    }

    static Full hide(Full f, Shape side, Map<Integer, Full> anew) {
        for (int name : anew.keySet()) {
            if (side.types.get(name).equals(f)) {
                return anew.get(name);
            }
        }
        return f.kind == 'p' ? Full.pair(hide(f.first, side, anew), hide(f.second, side, anew)) : f;
    }

    static Shape renamed(Nd node, Shape part) {
        if (!part.values.containsKey(node.a)) {
            throw value(5, node.a);
        }
        if (node.kind == 'H' && part.values.get(node.a).hole) {
            throw value(8, node.a);
        }
        if (node.kind == 'R' && part.values.containsKey(node.b)) {
            throw value(4, node.b);
        }
        Shape shape = new Shape();
        shape.types.putAll(part.types);
        shape.values.putAll(part.values);
        Value moved = shape.values.remove(node.a);
        if (node.kind == 'R') {
            shape.values.put(node.b, moved);
        }
        return shape;
    }

    int error(int n) {
        need(n);
        try {
            shape(n);
            return 0;
        } catch (Wrong w) {
            return w.code;
        }
    }

    Shape faithful(int n) {
        try {
            return shape(n);
        } catch (Wrong w) {
            throw ise();
        }
    }

    void name(int name, int most) {
        if (!in(name, most)) {
            throw iae();
        }
    }

    int typeOf(int n, int name) {
        need(n);
        name(name, 6);
        Shape s = faithful(n);
        return !s.types.containsKey(name) ? 0 : s.typeHole(name) ? 1 : s.types.get(name).kind == 's' ? 3 : 2;
    }

    boolean isSameType(int n, int name, int other, int otherName) {
        need(n, other);
        name(name, 6);
        name(otherName, 6);
        Full a = faithful(n).types.get(name);
        Full b = faithful(other).types.get(otherName);
        return a != null && a.equals(b);
    }

    int valueOf(int n, int name) {
        need(n);
        name(name, 10);
        Value v = faithful(n).values.get(name);
        return v == null ? 0 : (v.hole ? 1 : 2) + (v.ghost ? 4 : 0);
    }

    int size(int n, int name) {
        need(n);
        name(name, 10);
        Value v = faithful(n).values.get(name);
        return v == null ? 0 : (int) v.type.parts();
    }

    // ---- running

    static final class Slot {
        Comp comp;
        Map<Integer, Slot> home;
        Slot fill;
        Object value;
        boolean has;
        boolean none;
        boolean on;
        boolean reached;

        Slot end() {
            return fill == null ? this : fill.end();
        }

        boolean cell() {
            return comp.expression >= 0 && comp.flags < 4;
        }

        boolean lazy() {
            return comp.flags % 2 == 1;
        }

        boolean effect() {
            return comp.flags / 2 % 2 == 1;
        }
    }

    @SuppressWarnings("serial")
    static final class None extends RuntimeException {
        None() {
            super(null, null, false, false);
        }
    }

    static final class Kept {
        Map<Integer, Slot> shown;
        Shape shape;
        List<Slot> cells = new ArrayList<>();
        List<Integer> log = new ArrayList<>();
    }

    int run(int n) {
        need(n);
        if (error(n) != 0) {
            return 10;
        }
        Kept made = new Kept();
        try {
            runAlone(n, made);
        } catch (Wrong w) {
            return w.code;
        }
        kept = made;
        return 0;
    }

    void runAlone(int n, Kept run) {
        run.shape = shape(n);
        run.shown = instance(n, run.cells);
        for (Slot c : run.cells) {
            for (int r : refs(c.comp.expression)) {
                if (!c.home.get(r).end().cell()) {
                    throw new Wrong(8);
                }
            }
        }
        for (Slot c : run.cells) {
            if (!c.lazy() && ringsTo(c, c, new ArrayList<>())) {
                throw new Wrong(9);
            }
        }
        run.shown.forEach((name, s) -> {
            if (run.shape.shows(name)) {
                reach(s.end());
            }
        });
        run.cells.forEach(c -> {
            if (c.effect()) {
                reach(c);
            }
        });
        for (Slot c : run.cells) {
            if (c.reached && !c.lazy()) {
                ask(c, run);
            }
        }
        for (int name : new TreeMap<>(run.shown).keySet()) {
            if (run.shape.shows(name)) {
                ask(run.shown.get(name).end(), run);
            }
        }
    }

    boolean ringsTo(Slot aim, Slot c, List<Slot> passed) {
        for (int r : refs(c.comp.expression)) {
            Slot next = c.home.get(r).end();
            if (!next.lazy()) {
                if (next == aim) {
                    return true;
                }
                if (!passed.contains(next)) {
                    passed.add(next);
                    if (ringsTo(aim, next, passed)) {
                        return true;
                    }
                }
            }
        }
        return false;
    }

    void reach(Slot c) {
        if (c.cell() && !c.reached) {
            c.reached = true;
            for (int r : refs(c.comp.expression)) {
                reach(c.home.get(r).end());
            }
        }
    }

    void ask(Slot c, Kept run) {
        if (c.has || c.none) {
            return;
        }
        if (c.on) {
            throw new None();
        }
        c.on = true;
        try {
            c.value = find(c.comp.expression, c, run);
            c.has = true;
        } catch (None e) {
            c.none = true;
        }
        c.on = false;
        if (c.has && c.effect()) {
            run.log.add(c.value instanceof Integer i ? i : count(c.value, new IdentityHashMap<>()));
        }
    }

    Object find(int e, Slot c, Kept run) {
        Ex ex = exprs.get(e);
        switch (ex.kind) {
            case 5:
                return ex.a;
            case 6:
                Slot target = c.home.get(ex.a).end();
                ask(target, run);
                if (!target.has) {
                    throw new None();
                }
                return target.value;
            case 0: {
                Object a = find(ex.a, c, run);
                Object b = find(ex.b, c, run);
                if (a instanceof Integer i && b instanceof Integer j) {
                    return i + j;
                }
                throw new None();
            }
            case 1:
                return new Object[] {find(ex.a, c, run), find(ex.b, c, run)};
            case 4:
                if (find(ex.a, c, run) instanceof Integer i) {
                    return find(i != 0 ? ex.b : ex.c, c, run);
                }
                throw new None();
            default:
                if (find(ex.a, c, run) instanceof Object[] pair) {
                    return pair[ex.kind - 2];
                }
                throw new None();
        }
    }

    /** How many numbers, gone round to an int; a pair that stands in many places is counted once and added often. */
    static int count(Object value, Map<Object, Integer> known) {
        if (!(value instanceof Object[] pair)) {
            return 1;
        }
        Integer count = known.get(value);
        if (count == null) {
            count = count(pair[0], known) + count(pair[1], known);
            known.put(value, count);
        }
        return count;
    }

    static List<Integer> numbers(Object value) {
        List<Integer> list = new ArrayList<>();
        if (value instanceof Integer i) {
            list.add(i);
        } else if (value instanceof Object[] pair) {
            list.addAll(numbers(pair[0]));
            list.addAll(numbers(pair[1]));
        }
        return list;
    }

    Map<Integer, Slot> instance(int n, List<Slot> cells) {
        Nd node = nodes.get(n);
        Map<Integer, Slot> shown = new TreeMap<>();
        switch (node.kind) {
            case 'U': {
                Map<Integer, Slot> home = new TreeMap<>();
                versionOf(node).values.forEach((name, comp) -> {
                    Slot slot = new Slot();
                    slot.comp = comp;
                    slot.home = home;
                    home.put(name, slot);
                    if (slot.cell()) {
                        cells.add(slot);
                    }
                });
                shown.putAll(home);
                break;
            }
            case 'L':
            case 'A': {
                Map<Integer, Slot> one = instance(node.parts[0], cells);
                Map<Integer, Slot> two = instance(node.parts[1], cells);
                shown.putAll(one);
                two.forEach((name, slot) -> {
                    if (one.containsKey(name)) {
                        Slot a = one.get(name).end();
                        Slot b = slot.end();
                        if (a.comp.expression == -1) {
                            a.fill = b;
                        } else {
                            b.fill = a;
                        }
                    } else if (node.kind == 'L') {
                        shown.put(name, slot);
                    }
                });
                break;
            }
            case 'S':
                shown.putAll(instance(node.parts[0], cells));
                shown.keySet().retainAll(shape(node.parts[1]).values.keySet());
                break;
            case 'C': {
                Kept third = new Kept();
                runAlone(node.parts[2], third);
                Slot by = third.shown.get(0).end();
                if (!by.has || !(by.value instanceof Integer)) {
                    throw new Wrong(11);
                }
                shown.putAll(instance(node.parts[(Integer) by.value != 0 ? 0 : 1], cells));
                break;
            }
            default:
                shown.putAll(instance(node.parts[0], cells));
                Slot moved = shown.remove(node.a);
                if (node.kind == 'R') {
                    shown.put(node.b, moved);
                }
        }
        return shown;
    }

    int result(int name, int place) {
        name(name, 10);
        if (kept == null) {
            throw ise();
        }
        if (!kept.shape.shows(name) || !kept.shown.get(name).end().has) {
            throw ise();
        }
        List<Integer> all = numbers(kept.shown.get(name).end().value);
        if (!in(place, all.size())) {
            throw ioobe();
        }
        return all.get(place);
    }

    int logged() {
        return kept == null ? 0 : kept.log.size();
    }

    int log(int place) {
        if (!in(place, logged())) {
            throw ioobe();
        }
        return kept.log.get(place);
    }

    int total() {
        return kept == null ? 0 : kept.cells.size();
    }

    int dropped() {
        return kept == null ? 0 : (int) kept.cells.stream().filter(c -> !c.reached).count();
    }

    // ---- compiling

    Object ownFace(int n) {
        try {
            return shape(n).told(java.util.Set.of(0, 1, 2, 3, 4, 5, 6, 7, 8, 9));
        } catch (Wrong w) {
            return w.code;
        }
    }

    Object partFace(int n, int by) {
        java.util.Set<Integer> names;
        try {
            names = shape(by).values.keySet();
        } catch (Wrong w) {
            names = java.util.Set.of();
        }
        try {
            return shape(n).told(names);
        } catch (Wrong w) {
            return w.code;
        }
    }

    Object exprTree(int e) {
        if (e == -1) {
            return "hole";
        }
        Ex ex = exprs.get(e);
        return switch (ex.kind) {
            case 5, 6 -> List.of(ex.kind, ex.a);
            case 2, 3 -> List.of(ex.kind, exprTree(ex.a));
            case 4 -> List.of(ex.kind, exprTree(ex.a), exprTree(ex.b), exprTree(ex.c));
            default -> List.of(ex.kind, exprTree(ex.a), exprTree(ex.b));
        };
    }

    Object seen(int n) {
        Nd node = nodes.get(n);
        List<Object> list = new ArrayList<>();
        switch (node.kind) {
            case 'U':
                Ver v = versionOf(node);
                list.add(versionNumber(node));
                v.types.forEach((name, t) -> list.add(List.of(name, t < 0 ? "hole" : flat(t))));
                list.add("values");
                v.values.forEach((name, c) -> list.add(List.of(name, flat(c.type), exprTree(c.expression), c.flags)));
                break;
            case 'S':
                list.addAll(List.of(what(node.parts[0]), what(node.parts[1]),
                    partFace(node.parts[0], node.parts[1]), ownFace(node.parts[1])));
                break;
            case 'A':
                list.addAll(List.of(what(node.parts[0]), what(node.parts[1]),
                    ownFace(node.parts[0]), partFace(node.parts[1], node.parts[0])));
                break;
            default:
                for (int p : node.parts) {
                    list.add(ownFace(p));
                }
        }
        return list;
    }

    void collect(int n, List<Integer> list) {
        for (int p : nodes.get(n).parts) {
            collect(p, list);
        }
        if (!list.contains(n)) {
            list.add(n);
        }
    }

    int build(int n) {
        need(n);
        List<Integer> all = new ArrayList<>();
        collect(n, all);
        int count = 0;
        for (int i : all) {
            Object now = seen(i);
            if (!now.equals(seenAt.get(i))) {
                seenAt.put(i, now);
                ownAt.put(i, ownFace(i));
                times.merge(i, 1, Integer::sum);
                count++;
            }
        }
        return count;
    }

    int compiled(int n) {
        need(n);
        return times.getOrDefault(n, 0);
    }

    boolean isFresh(int n) {
        need(n);
        return !times.containsKey(n) || ownAt.get(n).equals(ownFace(n));
    }
}
