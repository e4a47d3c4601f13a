import java.util.ArrayList;
import java.util.List;
import java.util.Random;
import java.util.TreeMap;
import java.util.function.ToLongFunction;

/** Holds the class against Model on many runs of calls, made by recipes from fixed seeds. */
public final class FuzzTest {
    private static final int CALLS = 512;

    private final Random random;
    private final MixinUnits real = new MixinUnits();
    private final Model model = new Model();
    private final List<String> told = new ArrayList<>();
    private boolean isWrong;
    private int firstBig;

    // What a run is like.
    private final int typeNames;
    private final int valueNames;
    private final int[] typeOfName = new int[10];
    private final int ghosts;
    private final int lazies;
    private final int large;
    private final boolean isCalm;

    static final TreeMap<String, Integer> counted = new TreeMap<>();
    static boolean counts;

    private FuzzTest(long seed) {
        random = new Random(seed);
        large = random.nextInt(5) == 0 ? 60 : 5;
        typeNames = large > 5 ? 4 + random.nextInt(3) : 1 + random.nextInt(random.nextInt(4) == 0 ? 6 : 3);
        valueNames = 2 + random.nextInt(random.nextInt(4) == 0 ? 9 : 4);
        isCalm = random.nextInt(4) != 0;
        ghosts = new int[] {0, 5, 15, 30}[random.nextInt(4)];
        lazies = new int[] {0, 10, 30, 60}[random.nextInt(4)];
    }

    public static void main(String[] args) {
        long from = args.length > 0 ? Long.parseLong(args[0]) : 1;
        long runs = args.length > 1 ? Long.parseLong(args[1]) : 3000;
        counts = args.length > 2;
        int wrong = 0;
        for (long seed = from; seed < from + runs && wrong < 3; seed++) {
            FuzzTest test = new FuzzTest(seed);
            test.go();
            if (test.isWrong) {
                wrong++;
                System.out.println("seed " + seed);
                test.told.forEach(System.out::println);
            }
        }
        counted.forEach((k, v) -> System.out.println(v + " " + k));
        System.out.println(wrong == 0 ? runs + " runs are as the model says" : wrong + " runs are not as the model says");
        if (wrong != 0) {
            System.exit(1);
        }
    }

    private static long outcome(java.util.function.LongSupplier call) {
        try {
            return call.getAsLong();
        } catch (IllegalArgumentException e) {
            return (1L << 40) + 1;
        } catch (IndexOutOfBoundsException e) {
            return (1L << 40) + (Due.isThrown(e) || e.getStackTrace()[0].getClassName().equals("Model") ? 2 : 12);
        } catch (IllegalStateException e) {
            return (1L << 40) + 3;
        }
    }

    private long both(String call, ToLongFunction<MixinUnits> onReal, ToLongFunction<Model> onModel) {
        if (isWrong || told.size() >= CALLS) {
            return -100;
        }
        long due = outcome(() -> onModel.applyAsLong(model));
        long got;
        try {
            got = outcome(() -> onReal.applyAsLong(real));
        } catch (RuntimeException e) {
            e.printStackTrace(System.out);
            got = Long.MIN_VALUE;
        }
        told.add(call + " -> " + got + (got == due ? "" : ", due is " + due));
        isWrong = got != due;
        if (counts) {
            String name = call.substring(0, call.indexOf('('));
            boolean byValue = name.equals("error") || name.equals("run") || due > 1L << 39
                || name.equals("typeOf") || name.equals("isFresh") || name.equals("isSameType") || name.equals("build");
            counted.merge(name + " " + (byValue ? due > 1L << 39 ? "x" + (due & 15)
                : name.equals("error") ? due / 100 + (due < 1000 && due % 100 >= 50 ? "t" : "") : due : "ok"), 1, Integer::sum);
        }
        return due;
    }

    private int type(int kind, int a, int b) {
        return (int) both("type(" + kind + ", " + a + ", " + b + ")", x -> x.type(kind, a, b), m -> m.type(kind, a, b));
    }

    private int leaf(boolean isRef, int n) {
        return (int) both("leaf(" + isRef + ", " + n + ")", x -> x.leaf(isRef, n), m -> m.leaf(isRef, n));
    }

    private int expression(int kind, int a, int b, int c) {
        return (int) both("expression(" + kind + ", " + a + ", " + b + ", " + c + ")",
            x -> x.expression(kind, a, b, c), m -> m.expression(kind, a, b, c));
    }

    private int unit() {
        return (int) both("unit()", x -> x.unit(), m -> m.unit());
    }

    private void version(int u) {
        both("version(" + u + ")", x -> x.version(u), m -> m.version(u));
    }

    private void setType(int u, int n, int t) {
        both("setType(" + u + ", " + n + ", " + t + ")", x -> {
            x.setType(u, n, t);
            return 0;
        }, m -> {
            m.setType(u, n, t);
            return 0;
        });
    }

    private void setValue(int u, int n, int t, int e, int f) {
        both("setValue(" + u + ", " + n + ", " + t + ", " + e + ", " + f + ")", x -> {
            x.setValue(u, n, t, e, f);
            return 0;
        }, m -> {
            m.setValue(u, n, t, e, f);
            return 0;
        });
    }

    private void remove(int u, int n) {
        both("remove(" + u + ", " + n + ")", x -> x.remove(u, n) ? 1 : 0, m -> m.remove(u, n) ? 1 : 0);
    }

    private int unitNode(int u, int v) {
        return (int) both("unitNode(" + u + ", " + v + ")", x -> x.unitNode(u, v), m -> m.unitNode(u, v));
    }

    private int node(int k, int a, int b, boolean g) {
        return (int) both("node(" + k + ", " + a + ", " + b + ", " + g + ")", x -> x.node(k, a, b, g), m -> m.node(k, a, b, g));
    }

    private int choose(int a, int b, int c) {
        return (int) both("choose(" + a + ", " + b + ", " + c + ")", x -> x.choose(a, b, c), m -> m.choose(a, b, c));
    }

    private int rename(int n, int a, int b) {
        return (int) both("rename(" + n + ", " + a + ", " + b + ")", x -> x.rename(n, a, b), m -> m.rename(n, a, b));
    }

    private int error(int n) {
        int due = (int) both("error(" + n + ")", x -> x.error(n), m -> m.error(n));
        if (counts && n >= 0 && n < model.nodes.size()) {
            counted.merge("error of " + model.nodes.get(n).kind() + " " + due / 100
                + (due < 1000 && due % 100 >= 50 ? "t" : ""), 1, Integer::sum);
        }
        return due;
    }

    private void typeOf(int n, int t) {
        both("typeOf(" + n + ", " + t + ")", x -> x.typeOf(n, t), m -> m.typeOf(n, t));
    }

    private void isSameType(int n, int t, int o, int s) {
        both("isSameType(" + n + ", " + t + ", " + o + ", " + s + ")",
            x -> x.isSameType(n, t, o, s) ? 1 : 0, m -> m.isSameType(n, t, o, s) ? 1 : 0);
    }

    private void valueOf(int n, int v) {
        both("valueOf(" + n + ", " + v + ")", x -> x.valueOf(n, v), m -> m.valueOf(n, v));
    }

    private void size(int n, int v) {
        both("size(" + n + ", " + v + ")", x -> x.size(n, v), m -> m.size(n, v));
    }

    private int run(int n) {
        return (int) both("run(" + n + ")", x -> x.run(n), m -> m.run(n));
    }

    private long result(int n, int p) {
        return both("result(" + n + ", " + p + ")", x -> x.result(n, p), m -> m.result(n, p));
    }

    private int logged() {
        return (int) both("logged()", x -> x.logged(), m -> m.logged());
    }

    private void log(int p) {
        both("log(" + p + ")", x -> x.log(p), m -> m.log(p));
    }

    private void build(int n) {
        both("build(" + n + ")", x -> x.build(n), m -> m.build(n));
    }

    private void compiled(int n) {
        both("compiled(" + n + ")", x -> x.compiled(n), m -> m.compiled(n));
    }

    private void isFresh(int n) {
        both("isFresh(" + n + ")", x -> x.isFresh(n) ? 1 : 0, m -> m.isFresh(n) ? 1 : 0);
    }

    // ---- choices

    private boolean chance(int percent) {
        return random.nextInt(100) < percent;
    }

    private int below(int n) {
        return n <= 0 ? 0 : random.nextInt(n);
    }

    private int odd(int n) {
        if (chance(1)) {
            return chance(50) ? Integer.MIN_VALUE + random.nextInt(2) : Integer.MAX_VALUE - random.nextInt(2);
        }
        return chance(2) ? random.nextInt(14) - 2 : below(n);
    }

    private void go() {
        makeTypes();
        makeExpressions();
        for (int i = 2 + random.nextInt(3); i > 0; i--) {
            makeUnit();
        }
        while (told.size() < CALLS && !isWrong) {
            step();
        }
    }

    private void makeTypes() {
        type(0, 0, 0);
        for (int name = 0; name < typeNames; name++) {
            type(2, name, random.nextInt(9));
        }
        for (int i = random.nextInt(5); i > 0; i--) {
            type(1, below(model.types.size()), below(model.types.size()));
        }
        firstBig = model.types.size();
        for (int name = 0; name < typeNames && large > 5; name++) {
            int two = type(1, 1 + name, 1 + name);
            int four = type(1, two, two);
            type(1, two, four);
        }
        for (int name = 0; name < 10; name++) {
            typeOfName[name] = chance(35) ? 0 : below(model.types.size());
        }
    }

    private void makeExpressions() {
        for (int i = 0; i < 3; i++) {
            leaf(false, random.nextInt(4) - 1);
        }
        for (int name = 0; name < valueNames; name++) {
            leaf(true, name);
        }
        for (int i = 5 + random.nextInt(12); i > 0; i--) {
            makeExpression();
        }
    }

    private void makeExpression() {
        int size = model.exprs.size();
        int kind = new int[] {0, 0, 1, 1, 2, 3, 4, 4}[random.nextInt(8)];
        if (chance(2)) {
            kind = random.nextInt(8) - 1;
        }
        expression(kind, below(size), below(size), below(size));
    }

    private int flags(boolean isHole) {
        int flags = chance(ghosts) ? 4 : 0;
        if (!isHole) {
            flags |= (chance(lazies) ? 1 : 0) | (chance(25) ? 2 : 0);
        }
        return flags;
    }

    /** A tree of the next name: so that types grow from name to name. */
    private int bigType(int name) {
        return name + 1 == typeNames ? 0 : Math.min(model.types.size() - 1, firstBig + 3 * (name + 1) + (chance(80) ? 2 : 1));
    }

    private int makeUnit() {
        int u = unit();
        if (u < 0 || u > 7) {
            return below(model.units.size());
        }
        for (int name = 0; name < typeNames; name++) {
            if (chance(large > 5 ? 95 : 75)) {
                setType(u, name, chance(40) ? -1 : large > 5 && chance(90) ? bigType(name) : below(model.types.size()));
                repairType(u, name);
            }
        }
        for (int name = 0; name < valueNames; name++) {
            if (chance(60)) {
                pickValue(u, name, chance(30));
            }
        }
        return u;
    }

    private int errorOf(int u) {
        if (u >= model.units.size()) {
            return 0;
        }
        try {
            model.unitShape(model.latest(u));
            return 0;
        } catch (Model.Wrong w) {
            return w.code;
        }
    }

    private void repairType(int u, int name) {
        if (errorOf(u) != 0 && chance(large > 5 ? 40 : 85)) {
            setType(u, name, chance(70) ? -1 : 0);
            if (errorOf(u) != 0 && chance(80)) {
                setType(u, name, -2);
            }
        }
    }

    /** Sets a value to something that fits, if something is found that does. */
    private void pickValue(int u, int name, boolean isHole) {
        if (u >= model.units.size()) {
            return;
        }
        Model.Ver v = model.latest(u);
        Model.Comp old = v.values.get(name);
        for (int i = 0; i < 25; i++) {
            int t = chance(80) ? typeOfName[name] : below(model.types.size());
            int e = isHole ? -1 : below(model.exprs.size());
            int f = flags(isHole);
            boolean isBack = e >= 0 && e < model.exprs.size() && model.refs(e).stream().anyMatch(r -> r >= name);
            if (isBack && f % 2 == 0 && isCalm) {
                continue;
            }
            v.values.put(name, new Model.Comp(t, e, f));
            boolean isFine = errorOf(u) == 0;
            if (old == null) {
                v.values.remove(name);
            } else {
                v.values.put(name, old);
            }
            if (isFine || chance(2)) {
                setValue(u, name, t, e, f);
                return;
            }
        }
        if (chance(30)) {
            setValue(u, name, typeOfName[name], -1, flags(true));
        }
    }

    /** A unit made after another one: its components as holes, some of them left out. */
    private int makeAfter(int u, int holes) {
        if (model.units.size() >= 8 && chance(90)) {
            return below(8);
        }
        int made = unit();
        if (made < 0 || made > 7) {
            return below(model.units.size());
        }
        Model.Ver v = model.latest(u);
        for (int name : new ArrayList<>(v.types.keySet())) {
            if (chance(85)) {
                setType(made, name, chance(holes) ? -1 : v.types.get(name));
            }
        }
        for (int name : new ArrayList<>(v.values.keySet())) {
            if (chance(85)) {
                Model.Comp c = v.values.get(name);
                boolean isHole = chance(holes + 10);
                setValue(made, name, c.type(), isHole ? -1 : c.expression(),
                    isHole ? c.flags() & 4 | (chance(ghosts / 2) ? 4 : 0) : c.flags());
            }
        }
        for (int i = random.nextInt(3); i > 0; i--) {
            pickValue(made, below(valueNames), chance(20));
        }
        return made;
    }

    private int someNode() {
        for (int i = 0; i < 5; i++) {
            int n = below(model.nodes.size());
            if (n < model.nodes.size() && (model.error(n) == 0 || chance(7))) {
                return n;
            }
        }
        return odd(model.nodes.size());
    }

    private void step() {
        int what = random.nextInt(100);
        if (model.nodes.size() < 3 || what < 14) {
            makeNode();
        } else if (what < 27) {
            editUnit();
        } else if (what < 30) {
            makeAfter(below(model.units.size()), 60);
        } else if (what < 45) {
            lookAt(someNode());
        } else if (what < 60) {
            runNode(someNode());
        } else if (what < 80) {
            compile();
        } else if (what < 83) {
            makeExpression();
        } else if (what < 85) {
            version(odd(model.units.size()));
        } else if (what < 87) {
            oddCall();
        } else {
            recipe();
        }
    }

    private void makeNode() {
        if (model.nodes.size() >= 40 && chance(85)) {
            return;
        }
        if (model.nodes.size() < 2 || chance(20)) {
            int u = odd(model.units.size());
            error(unitNode(u, chance(70) || u < 0 || u >= model.units.size() ? -1 : odd(model.units.get(u).size())));
            return;
        }
        Model.Nd found = null;
        boolean isHard = chance(75);
        for (int i = 0; i < 30 && found == null; i++) {
            Model.Nd node = anyNode(i > 20 ? 'L' : isHard ? "SSAACC".charAt(random.nextInt(6))
                : "LLRH".charAt(random.nextInt(4)));
            if (errorAs(node) == 0 && (node.kind() != 'S' || hasStamp(node) || chance(25)) || chance(2)) {
                found = node;
            }
        }
        add(found == null ? anyNode('S') : found);
    }

    private Model.Nd anyNode(char kind) {
        int a = someNode();
        int b = someNode();
        if (kind == 'R' || kind == 'H') {
            int name = chance(95) ? below(valueNames) : odd(10);
            return new Model.Nd(kind, new int[] {a}, name, kind == 'H' ? -1 : odd(Math.min(10, valueNames + 2)), false);
        }
        return new Model.Nd(kind, kind == 'C' ? new int[] {a, b, someNode()} : new int[] {a, b}, 0, 0,
            kind != 'L' && kind != 'C' && chance(50));
    }

    private boolean hasStamp(Model.Nd node) {
        model.nodes.add(node);
        boolean has = false;
        for (Model.Full f : model.shape(model.nodes.size() - 1).types.values()) {
            has |= f != null && f.kind() == 's';
        }
        model.nodes.remove(model.nodes.size() - 1);
        return has;
    }

    private int errorAs(Model.Nd node) {
        for (int p : node.parts()) {
            if (p < 0 || p >= model.nodes.size()) {
                return -1;
            }
        }
        model.nodes.add(node);
        int code = model.error(model.nodes.size() - 1);
        model.nodes.remove(model.nodes.size() - 1);
        return code;
    }

    private void add(Model.Nd node) {
        int[] p = node.parts();
        if (node.kind() == 'C') {
            error(choose(p[0], p[1], p[2]));
        } else if (p.length == 1) {
            error(rename(p[0], node.a(), node.b()));
        } else {
            error(node("LSA".indexOf(node.kind()), p[0], p[1], node.gen()));
        }
    }

    private void recipe() {
        if (model.units.isEmpty() || model.nodes.size() > 37) {
            return;
        }
        int u = below(model.units.size());
        int n = someUnitNode(u);
        int other;
        switch (random.nextInt(6)) {
            case 0:
                other = someUnitNode(makeAfter(u, 75));
                error(node(1, n, other, chance(50)));
                break;
            case 1:
                other = someUnitNode(makeAfter(u, 60));
                error(node(2, other, chance(50) ? n : someNode(), chance(50)));
                break;
            case 2:
                other = someUnitNode(makeAfter(u, 5));
                error(choose(n, other, someNode()));
                break;
            case 3:
                other = someUnitNode(makeAfter(u, 75));
                int sealed = node(1, n, other, chance(50));
                error(sealed);
                error(choose(sealed, node(1, n, other, chance(50)), someNode()));
                break;
            case 4:
                other = someUnitNode(makeAfter(u, 75));
                int functor = node(1, someNode(), other, chance(50));
                error(functor);
                error(node(2, functor, someNode(), chance(50)));
                break;
            default:
                other = someUnitNode(makeAfter(u, 70));
                error(node(0, n, other, false));
        }
    }

    private int someUnitNode(int u) {
        for (int i = 0; i < model.nodes.size(); i++) {
            if (model.nodes.get(i).kind() == 'U' && model.nodes.get(i).a() == u && chance(60)) {
                return i;
            }
        }
        return unitNode(u, -1);
    }

    private void editUnit() {
        int u = odd(model.units.size());
        if (chance(20)) {
            int name = chance(95) ? below(typeNames) : odd(6);
            setType(u, name, chance(30) ? -1 - random.nextInt(2) : odd(model.types.size()));
            if (u >= 0 && name >= 0 && name < 6) {
                repairType(u, name);
            }
        } else if (chance(15)) {
            remove(u, chance(95) ? below(valueNames) : odd(10));
        } else if (chance(10)) {
            setValue(u, odd(valueNames), odd(model.types.size()), odd(model.exprs.size()), odd(8));
        } else if (u >= 0 && u < model.units.size()) {
            Model.Ver v = model.latest(u);
            List<Integer> names = new ArrayList<>(v.values.keySet());
            if (!names.isEmpty() && chance(50)) {
                // Just the number, the flags or the expression of what there is.
                int name = names.get(below(names.size()));
                Model.Comp c = v.values.get(name);
                if (c.expression() >= 0 && chance(50)) {
                    setValue(u, name, c.type(), c.expression(), flags(false));
                } else {
                    setValue(u, name, c.type(), chance(60) ? below(3) : c.expression(), chance(80) ? 0 : c.flags());
                    if (errorOf(u) != 0) {
                        pickValue(u, name, chance(20));
                    }
                }
            } else {
                pickValue(u, below(valueNames), chance(25));
            }
        }
    }

    private void lookAt(int n) {
        error(n);
        for (int i = random.nextInt(3); i > 0; i--) {
            typeOf(n, chance(95) ? below(typeNames) : odd(6));
            valueOf(n, chance(95) ? below(valueNames) : odd(10));
            size(n, chance(95) ? below(valueNames) : odd(10));
            isSameType(n, below(typeNames), someNode(), chance(95) ? below(typeNames) : odd(6));
        }
    }

    private void runNode(int n) {
        if (run(n) == 0) {
            int entries = logged();
            for (int i = 0; i < entries && i < 4; i++) {
                log(i);
            }
            both("total()", x -> x.total(), m -> m.total());
            both("dropped()", x -> x.dropped(), m -> m.dropped());
            for (int name = 0; name < valueNames && !isWrong; name++) {
                if (result(name, 0) < 1L << 39) {
                    result(name, 1 + random.nextInt(3));
                }
            }
        } else if (chance(10)) {
            result(odd(10), odd(2));
            log(odd(2));
            logged();
        }
    }

    private void compile() {
        int n = someNode();
        switch (random.nextInt(5)) {
            case 0:
            case 3:
                isFresh(n);
                break;
            case 1:
                compiled(n);
                break;
            default:
                build(n);
        }
    }

    private void oddCall() {
        switch (random.nextInt(6)) {
            case 0:
                type(random.nextInt(5) - 1, odd(8), odd(8));
                break;
            case 1:
                leaf(chance(50), odd(12));
                break;
            case 2:
                expression(random.nextInt(7) - 1, odd(125), odd(125), odd(125));
                break;
            case 3:
                node(random.nextInt(5) - 1, odd(42), odd(42), chance(50));
                break;
            case 4:
                isFresh(odd(42));
                compiled(odd(42));
                build(odd(42));
                break;
            default:
                isSameType(odd(42), odd(7), odd(42), odd(7));
        }
    }
}
