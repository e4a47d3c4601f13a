import java.util.ArrayList;
import java.util.Arrays;

/**
 * A language of units with mixins. The document ../shared/DOC.md says what each call does;
 * this class holds the calls of its face, and compiles; the classes inside hold the rest:
 * what has been made (Program), how faces are found (Finder), how nodes are run (Machine).
 */
public final class MixinUnits {

    private static final int TYPE_NAMES = 6;
    private static final int VALUE_NAMES = 10;
    private static final int NAMES = TYPE_NAMES + VALUE_NAMES;

    private static final int MOST_TYPES = 60;
    private static final int MOST_EXPRESSIONS = 120;
    private static final int MOST_WEIGHT = 12;
    private static final int MOST_UNITS = 8;
    private static final int MOST_VERSIONS = 5;
    private static final int MOST_NODES = 40;
    private static final int MOST_NODE_WEIGHT = 24;
    private static final int MOST_PARTS = 200;
    private static final int TOO_LARGE = MOST_PARTS + 1;

    private static final int TYPE_INT = 0;
    private static final int TYPE_PAIR = 1;
    private static final int TYPE_NAMED = 2;

    private static final int ADD = 0;
    private static final int PAIR = 1;
    private static final int FIRST = 2;
    private static final int SECOND = 3;
    private static final int WHEN = 4;
    private static final int NUMBER = 5;
    private static final int REF = 6;

    private static final int LINK = 0;
    private static final int SEAL = 1;
    private static final int APPLY = 2;
    private static final int CHOOSE = 3;
    private static final int RENAME = 4;
    private static final int HIDE = 5;
    private static final int UNIT = 6;
    private static final int ITSELF = 7;
    private static final int STAMP_OF_NODE = 8;
    private static final int STAMP_OF_PARTS = 9;
    private static final int STAMP_OF_STAMP = 10;

    // A type in full is a row of parts, each PAIR_PART ahead of its two: a row is one tree and no other.
    private static final int INT_PART = 0;
    private static final int PAIR_PART = 1;
    private static final int FIRST_OPEN = 2;
    private static final int FIRST_STAMP = FIRST_OPEN + TYPE_NAMES;

    private static final int HOLE_TYPE = -1;
    private static final int NO_TYPE = -2;
    private static final int HOLE_EXPRESSION = -1;

    private static final int LAZY = 1;
    private static final int EFFECT = 2;
    private static final int GHOST = 4;

    private static final int NONE = 0;
    private static final int HOLE = 1;
    private static final int DEFINED = 2;
    private static final int DEFINED_AS_STAMP = 3;

    private static final int NO_COMPONENT = 1;
    private static final int UNLIKE = 2;
    private static final int KNOT = 3;
    private static final int TWICE = 4;
    private static final int LACKING = 5;
    private static final int GHOSTLY = 6;
    private static final int LARGE = 7;
    private static final int HOLLOW = 8;
    private static final int PART_WRONG = 10;

    private static final int RUN_OPEN = 8;
    private static final int RUN_RING = 9;
    private static final int RUN_WRONG = 10;
    private static final int RUN_UNDECIDED = 11;

    private final Program program = new Program();
    private final Finder finder = new Finder(program);
    private final Row sight = new Row();
    private Machine running = new Machine(program);
    private Machine kept = new Machine(program);
    private boolean hasRun;

    public MixinUnits() {
    }

    // ---- types and expressions

    public int type(int kind, int first, int second)
        throws IllegalArgumentException, IndexOutOfBoundsException, IllegalStateException {
        if (kind < TYPE_INT || kind > TYPE_NAMED) {
            throw new IllegalArgumentException("there is no such kind of types");
        }
        if (kind == TYPE_NAMED && !isTypeName(first)) {
            throw new IllegalArgumentException("there is no such type name");
        }
        if (kind == TYPE_PAIR) {
            needType(first);
            needType(second);
        }
        if (program.typeCount >= MOST_TYPES) {
            throw new IllegalStateException("there are 60 types");
        }
        if (kind == TYPE_PAIR && 1 + program.typeSizes[first] + program.typeSizes[second] > MOST_WEIGHT) {
            throw new IllegalStateException("the type would be too heavy");
        }
        return kind == TYPE_PAIR ? program.addPairType(first, second)
            : program.addSmallType(kind == TYPE_INT ? INT_PART : FIRST_OPEN + first);
    }

    public int leaf(boolean isRef, int number) throws IllegalArgumentException, IllegalStateException {
        if (isRef && !isValueName(number)) {
            throw new IllegalArgumentException("there is no such value name");
        }
        if (program.expressionCount >= MOST_EXPRESSIONS) {
            throw new IllegalStateException("there are 120 expressions");
        }
        return program.addLeaf(isRef ? REF : NUMBER, number);
    }

    public int expression(int kind, int first, int second, int third)
        throws IllegalArgumentException, IndexOutOfBoundsException, IllegalStateException {
        if (kind < ADD || kind > WHEN) {
            throw new IllegalArgumentException("there is no such kind of expressions");
        }
        boolean isOfOne = kind == FIRST || kind == SECOND;
        needExpression(first);
        if (!isOfOne) {
            needExpression(second);
        }
        if (kind == WHEN) {
            needExpression(third);
        }
        if (program.expressionCount >= MOST_EXPRESSIONS) {
            throw new IllegalStateException("there are 120 expressions");
        }
        int usedSecond = isOfOne ? -1 : second;
        int usedThird = kind == WHEN ? third : -1;
        if (program.weightOf(first, usedSecond, usedThird) > MOST_WEIGHT) {
            throw new IllegalStateException("the expression would be too heavy");
        }
        return program.addExpression(kind, first, usedSecond, usedThird);
    }

    // ---- units

    public int unit() throws IllegalStateException {
        if (program.unitCount >= MOST_UNITS) {
            throw new IllegalStateException("there are 8 units");
        }
        return program.addUnit();
    }

    public int version(int unit) throws IndexOutOfBoundsException, IllegalStateException {
        needUnit(unit);
        if (program.versionCounts[unit] >= MOST_VERSIONS) {
            throw new IllegalStateException("there are 5 versions");
        }
        return program.addVersion(unit);
    }

    public void setType(int unit, int name, int type) throws IndexOutOfBoundsException, IllegalArgumentException {
        needUnit(unit);
        if (type != HOLE_TYPE && type != NO_TYPE) {
            needType(type);
        }
        needTypeName(name);
        program.latestOf(unit).types[name] = type;
        program.edits++;
    }

    public void setValue(int unit, int name, int type, int expression, int flags)
        throws IndexOutOfBoundsException, IllegalArgumentException {
        needUnit(unit);
        needType(type);
        if (expression != HOLE_EXPRESSION) {
            needExpression(expression);
        }
        needValueName(name);
        boolean isHole = expression == HOLE_EXPRESSION;
        if (flags < 0 || flags > LAZY + EFFECT + GHOST || (isHole && flags != 0 && flags != GHOST)) {
            throw new IllegalArgumentException("there are no such flags");
        }
        Version latest = program.latestOf(unit);
        latest.valueTypes[name] = type;
        latest.expressions[name] = expression;
        latest.flags[name] = flags;
        program.edits++;
    }

    public boolean remove(int unit, int name) throws IndexOutOfBoundsException, IllegalArgumentException {
        needUnit(unit);
        needValueName(name);
        Version latest = program.latestOf(unit);
        boolean wasThere = latest.hasValue(name);
        latest.valueTypes[name] = NO_TYPE;
        program.edits++;
        return wasThere;
    }

    // ---- nodes

    public int unitNode(int unit, int version) throws IndexOutOfBoundsException, IllegalStateException {
        needUnit(unit);
        if (version < -1 || version >= program.versionCounts[unit]) {
            throw new IndexOutOfBoundsException("there is no such version");
        }
        needRoomForNode(1);
        return program.addNode(UNIT, new Node[0], unit, version, false);
    }

    public int node(int kind, int first, int second, boolean isGenerative)
        throws IllegalArgumentException, IndexOutOfBoundsException, IllegalStateException {
        if (kind < LINK || kind > APPLY) {
            throw new IllegalArgumentException("there is no such kind of nodes");
        }
        Node[] parts = {neededNode(first), neededNode(second)};
        needRoomForNode(1 + parts[0].weight + parts[1].weight);
        return program.addNode(kind, parts, 0, 0, kind != LINK && isGenerative);
    }

    public int choose(int first, int second, int third) throws IndexOutOfBoundsException, IllegalStateException {
        Node[] parts = {neededNode(first), neededNode(second), neededNode(third)};
        needRoomForNode(1 + parts[0].weight + parts[1].weight + parts[2].weight);
        return program.addNode(CHOOSE, parts, 0, 0, false);
    }

    public int rename(int node, int name, int to)
        throws IndexOutOfBoundsException, IllegalArgumentException, IllegalStateException {
        Node[] parts = {neededNode(node)};
        needValueName(name);
        if (to < -1 || to >= VALUE_NAMES || to == name) {
            throw new IllegalArgumentException("there is no such other name");
        }
        needRoomForNode(1 + parts[0].weight);
        return program.addNode(to < 0 ? HIDE : RENAME, parts, name, to, false);
    }

    // ---- faces

    public int error(int node) throws IndexOutOfBoundsException {
        return finder.faceOf(neededNode(node)).mistake;
    }

    public int typeOf(int node, int name)
        throws IndexOutOfBoundsException, IllegalArgumentException, IllegalStateException {
        Node asked = neededNode(node);
        needTypeName(name);
        Face face = finder.faceOf(asked);
        needNoMistake(face);
        return face.isStamp(name) ? DEFINED_AS_STAMP : face.types[name];
    }

    public boolean isSameType(int node, int name, int other, int otherName)
        throws IndexOutOfBoundsException, IllegalArgumentException, IllegalStateException {
        Node asked = neededNode(node);
        Node compared = neededNode(other);
        needTypeName(name);
        needTypeName(otherName);
        Face face = finder.faceOf(asked);
        Face otherFace = finder.faceOf(compared);
        needNoMistake(face);
        needNoMistake(otherFace);
        return face.types[name] == DEFINED && otherFace.types[otherName] == DEFINED
            && isSameRow(face.rows[name], face.sizes[name], otherFace.rows[otherName], otherFace.sizes[otherName]);
    }

    public int valueOf(int node, int name)
        throws IndexOutOfBoundsException, IllegalArgumentException, IllegalStateException {
        Node asked = neededNode(node);
        needValueName(name);
        Face face = finder.faceOf(asked);
        needNoMistake(face);
        return face.values[name];
    }

    public int size(int node, int name)
        throws IndexOutOfBoundsException, IllegalArgumentException, IllegalStateException {
        Node asked = neededNode(node);
        needValueName(name);
        Face face = finder.faceOf(asked);
        needNoMistake(face);
        return face.sizes[TYPE_NAMES + name];
    }

    // ---- running

    public int run(int node) throws IndexOutOfBoundsException {
        Node started = neededNode(node);
        if (finder.faceOf(started).mistake != 0) {
            return RUN_WRONG;
        }
        int outcome = running.perform(started);
        if (outcome == 0) {
            // The two machines change places, so that a later run that fails leaves this one as it was.
            Machine older = kept;
            kept = running;
            running = older;
            hasRun = true;
        }
        return outcome;
    }

    public int result(int name, int place)
        throws IllegalArgumentException, IllegalStateException, IndexOutOfBoundsException {
        needValueName(name);
        if (!hasRun || kept.results[name] < 0) {
            throw new IllegalStateException("there is no such value");
        }
        int value = kept.results[name];
        if (place < 0 || place >= kept.values.countOf(value)) {
            throw new IndexOutOfBoundsException("there is no such number");
        }
        return kept.values.numberAt(value, place);
    }

    public int logged() {
        return hasRun ? kept.entryCount : 0;
    }

    public int log(int place) throws IndexOutOfBoundsException {
        if (place < 0 || !hasRun || place >= kept.entryCount) {
            throw new IndexOutOfBoundsException("there is no such entry");
        }
        return kept.entries[place];
    }

    public int total() {
        return hasRun ? kept.cellCount : 0;
    }

    public int dropped() {
        return hasRun ? kept.cellCount - kept.reachedCount : 0;
    }

    // ---- compiling

    public int build(int node) throws IndexOutOfBoundsException {
        Node built = neededNode(node);
        finder.faceOf(built);
        int count = 0;
        for (int i = 0; i <= built.number && i < program.nodes.size(); i++) {
            Node part = program.nodes.get(i);
            if (part.isNeeded && compileIfChanged(part)) {
                count++;
            }
        }
        return count;
    }

    public int compiled(int node) throws IndexOutOfBoundsException {
        return neededNode(node).timesCompiled;
    }

    public boolean isFresh(int node) throws IndexOutOfBoundsException {
        Node asked = neededNode(node);
        if (asked.timesCompiled == 0) {
            return true;
        }
        sight.clear();
        sight.addFace(finder.faceOf(asked), -1);
        return sight.isSameAs(asked.own);
    }

    private boolean compileIfChanged(Node node) {
        sight.clear();
        see(node);
        if (node.timesCompiled > 0 && sight.isSameAs(node.seen)) {
            return false;
        }
        node.seen.keep(sight);
        sight.clear();
        sight.addFace(node.face, -1);
        node.own.keep(sight);
        node.timesCompiled++;
        return true;
    }

    /** Puts into sight all that a node sees of its unit or of its parts. */
    private void see(Node node) {
        if (node.kind == UNIT) {
            sight.add(program.versionNumberOf(node));
            program.addVersionTo(sight, program.versionOf(node));
        } else if (node.kind == SEAL || node.kind == APPLY) {
            // The signature or the functor is seen whole, and of the other part the values that it has, too.
            Face whole = node.parts[node.kind == SEAL ? 1 : 0].face;
            Face other = node.parts[node.kind == SEAL ? 0 : 1].face;
            sight.add(node.parts[0].what);
            sight.add(node.parts[1].what);
            sight.addFace(whole, -1);
            sight.addFace(other, whole.mistake == 0 ? whole.valueNames() : 0);
        } else {
            for (int i = 0; i < node.parts.length; i++) {
                sight.addFace(node.parts[i].face, -1);
            }
        }
    }

    // ---- what calls need

    private void needType(int type) {
        if (type < 0 || type >= program.typeCount) {
            throw new IndexOutOfBoundsException("there is no such type");
        }
    }

    private void needExpression(int expression) {
        if (expression < 0 || expression >= program.expressionCount) {
            throw new IndexOutOfBoundsException("there is no such expression");
        }
    }

    private void needUnit(int unit) {
        if (unit < 0 || unit >= program.unitCount) {
            throw new IndexOutOfBoundsException("there is no such unit");
        }
    }

    private Node neededNode(int node) {
        if (node < 0 || node >= program.nodes.size()) {
            throw new IndexOutOfBoundsException("there is no such node");
        }
        return program.nodes.get(node);
    }

    private void needRoomForNode(int weight) {
        if (program.nodes.size() >= MOST_NODES) {
            throw new IllegalStateException("there are 40 nodes");
        }
        if (weight > MOST_NODE_WEIGHT) {
            throw new IllegalStateException("the node would be too heavy");
        }
    }

    private void needTypeName(int name) {
        if (!isTypeName(name)) {
            throw new IllegalArgumentException("there is no such type name");
        }
    }

    private void needValueName(int name) {
        if (!isValueName(name)) {
            throw new IllegalArgumentException("there is no such value name");
        }
    }

    private static void needNoMistake(Face face) {
        if (face.mistake != 0) {
            throw new IllegalStateException("the node has an error");
        }
    }

    private static boolean isTypeName(int name) {
        return name >= 0 && name < TYPE_NAMES;
    }

    private static boolean isValueName(int name) {
        return name >= 0 && name < VALUE_NAMES;
    }

    private static boolean isIn(int names, int name) {
        return (names >> name & 1) != 0;
    }

    private static int typeMistake(int kind, int name) {
        return 100 * kind + 50 + name;
    }

    private static int valueMistake(int kind, int name) {
        return 100 * kind + name;
    }

    private static boolean isSameRow(int[] row, int size, int[] other, int otherSize) {
        return size == otherSize && startsWith(row, 0, size, other, size);
    }

    /** Tells whether the parts of a row from a place on, up to its end, begin with another row. */
    private static boolean startsWith(int[] row, int from, int end, int[] start, int size) {
        if (from < 0 || end > row.length || size > end - from || size > start.length) {
            return false;
        }
        for (int i = 0; i < size; i++) {
            if (row[from + i] != start[i]) {
                return false;
            }
        }
        return true;
    }

    /** All types, expressions, units and nodes that have been made. */
    private static final class Program {
        final int[][] typeRows = new int[MOST_TYPES][MOST_WEIGHT];
        final int[] typeSizes = new int[MOST_TYPES];
        final int[] typeNames = new int[MOST_TYPES];
        final int[] likeTypes = new int[MOST_TYPES];
        int typeCount;
        final int[] kinds = new int[MOST_EXPRESSIONS];
        final int[] firsts = new int[MOST_EXPRESSIONS];
        final int[] seconds = new int[MOST_EXPRESSIONS];
        final int[] thirds = new int[MOST_EXPRESSIONS];
        final int[] weights = new int[MOST_EXPRESSIONS];
        final int[] refNames = new int[MOST_EXPRESSIONS];
        final int[] likeExpressions = new int[MOST_EXPRESSIONS];
        int expressionCount;
        /** Five for each unit, of which so many count as there are. */
        private final Version[] versions = new Version[MOST_UNITS * MOST_VERSIONS];
        final int[] versionCounts = new int[MOST_UNITS];
        int unitCount;
        final ArrayList<Node> nodes = new ArrayList<Node>();
        int edits;

        Program() {
            for (int i = 0; i < versions.length; i++) {
                versions[i] = new Version();
            }
        }

        int addSmallType(int part) {
            typeRows[typeCount][0] = part;
            typeNames[typeCount] = part == INT_PART ? 0 : 1 << (part - FIRST_OPEN);
            return endType(1);
        }

        int addPairType(int first, int second) {
            int[] row = typeRows[typeCount];
            row[0] = PAIR_PART;
            System.arraycopy(typeRows[first], 0, row, 1, typeSizes[first]);
            System.arraycopy(typeRows[second], 0, row, 1 + typeSizes[first], typeSizes[second]);
            typeNames[typeCount] = typeNames[first] | typeNames[second];
            return endType(1 + typeSizes[first] + typeSizes[second]);
        }

        private int endType(int parts) {
            int made = typeCount;
            typeSizes[made] = parts;
            likeTypes[made] = made;
            for (int i = 0; i < made && likeTypes[made] == made; i++) {
                if (isSameRow(typeRows[i], typeSizes[i], typeRows[made], parts)) {
                    likeTypes[made] = i;
                }
            }
            typeCount++;
            return made;
        }

        int weightOf(int first, int second, int third) {
            return 1 + weights[first] + (second < 0 ? 0 : weights[second]) + (third < 0 ? 0 : weights[third]);
        }

        int addLeaf(int kind, int number) {
            kinds[expressionCount] = kind;
            firsts[expressionCount] = number;
            seconds[expressionCount] = -1;
            thirds[expressionCount] = -1;
            weights[expressionCount] = 1;
            refNames[expressionCount] = kind == REF ? 1 << number : 0;
            return endExpression();
        }

        /** Parts that are not used are told as -1. */
        int addExpression(int kind, int first, int second, int third) {
            int made = expressionCount;
            kinds[made] = kind;
            // Parts are put in by the first expression made in the same way, so that likeness shows at once.
            firsts[made] = likeExpressions[first];
            seconds[made] = second < 0 ? -1 : likeExpressions[second];
            thirds[made] = third < 0 ? -1 : likeExpressions[third];
            weights[made] = weightOf(first, second, third);
            refNames[made] = refNames[first] | (second < 0 ? 0 : refNames[second]) | (third < 0 ? 0 : refNames[third]);
            return endExpression();
        }

        private int endExpression() {
            int made = expressionCount;
            likeExpressions[made] = made;
            for (int i = 0; i < made && likeExpressions[made] == made; i++) {
                if (kinds[i] == kinds[made] && firsts[i] == firsts[made]
                    && seconds[i] == seconds[made] && thirds[i] == thirds[made]) {
                    likeExpressions[made] = i;
                }
            }
            expressionCount++;
            return made;
        }

        int addUnit() {
            unitCount++;
            addVersion(unitCount - 1);
            return unitCount - 1;
        }

        int addVersion(int unit) {
            int number = versionCounts[unit];
            if (number > 0) {
                versions[unit * MOST_VERSIONS + number].copy(latestOf(unit));
            }
            versionCounts[unit]++;
            edits++;
            return number;
        }

        Version latestOf(int unit) {
            return versions[unit * MOST_VERSIONS + versionCounts[unit] - 1];
        }

        int versionNumberOf(Node unitNode) {
            return unitNode.to >= 0 ? unitNode.to : versionCounts[unitNode.name] - 1;
        }

        Version versionOf(Node unitNode) {
            return versions[unitNode.name * MOST_VERSIONS + versionNumberOf(unitNode)];
        }

        int addNode(int kind, Node[] parts, int name, int to, boolean isGenerative) {
            nodes.add(new Node(nodes.size(), kind, parts, name, to, isGenerative));
            return nodes.size() - 1;
        }

        /** Puts all of a version into a row, by what its types and expressions are made of. */
        void addVersionTo(Row row, Version version) {
            for (int name = 0; name < TYPE_NAMES; name++) {
                int made = version.types[name];
                row.add(made < 0 ? made : likeTypes[made]);
            }
            for (int name = 0; name < VALUE_NAMES; name++) {
                if (version.hasValue(name)) {
                    int told = version.expressions[name];
                    row.add(likeTypes[version.valueTypes[name]]);
                    row.add(told < 0 ? told : likeExpressions[told]);
                    row.add(version.flags[name]);
                } else {
                    row.add(NO_TYPE);
                }
            }
        }
    }

    /** A version of a unit: its type components and its value components. */
    private static final class Version {
        final int[] types = new int[TYPE_NAMES];
        final int[] valueTypes = new int[VALUE_NAMES];
        final int[] expressions = new int[VALUE_NAMES];
        final int[] flags = new int[VALUE_NAMES];

        Version() {
            Arrays.fill(types, NO_TYPE);
            Arrays.fill(valueTypes, NO_TYPE);
        }

        void copy(Version other) {
            System.arraycopy(other.types, 0, types, 0, TYPE_NAMES);
            System.arraycopy(other.valueTypes, 0, valueTypes, 0, VALUE_NAMES);
            System.arraycopy(other.expressions, 0, expressions, 0, VALUE_NAMES);
            System.arraycopy(other.flags, 0, flags, 0, VALUE_NAMES);
        }

        boolean hasValue(int name) {
            return valueTypes[name] != NO_TYPE;
        }

        boolean isDefinition(int name) {
            return hasValue(name) && expressions[name] != HOLE_EXPRESSION;
        }

        boolean isGhost(int name) {
            return (flags[name] & GHOST) != 0;
        }

        int typeNames() {
            int names = 0;
            for (int name = 0; name < TYPE_NAMES; name++) {
                names |= types[name] == NO_TYPE ? 0 : 1 << name;
            }
            return names;
        }

        int ghostNames() {
            int names = 0;
            for (int name = 0; name < VALUE_NAMES; name++) {
                names |= hasValue(name) && isGhost(name) ? 1 << name : 0;
            }
            return names;
        }
    }

    /** A node, with its face as it was last found and with what was seen when it was last compiled. */
    private static final class Node {
        final int number;
        final int kind;
        final Node[] parts;
        /** The unit of a UNIT; the name of a RENAME or a HIDE. */
        final int name;
        /** The version of a UNIT, -1 for the latest one; the other name of a RENAME. */
        final int to;
        final boolean isGenerative;
        final int weight;
        final Face face = new Face();
        final Row seen = new Row();
        final Row own = new Row();
        int what;
        int foundAt = -1;
        int timesCompiled;
        boolean isNeeded;

        Node(int number, int kind, Node[] parts, int name, int to, boolean isGenerative) {
            this.number = number;
            this.kind = kind;
            this.parts = parts;
            this.name = name;
            this.to = to;
            this.isGenerative = isGenerative;
            int sum = 1;
            for (int i = 0; i < parts.length; i++) {
                sum += parts[i].weight;
            }
            weight = sum;
        }

        /** Tells whether what the node is is the node itself. */
        boolean isByItself() {
            return isGenerative || kind == CHOOSE;
        }
    }

    /** What a node shows, or its mistake: then all else in it counts for nothing. */
    private static final class Face {
        int mistake;
        final int[] types = new int[TYPE_NAMES];
        final int[] values = new int[VALUE_NAMES];
        /** The types in full of the type names, then those of the value names. */
        final int[][] rows = new int[NAMES][4];
        final int[] sizes = new int[NAMES];
        final boolean[] showsNumber = new boolean[VALUE_NAMES];
        final int[] numbers = new int[VALUE_NAMES];

        void clear() {
            Arrays.fill(types, NONE);
            Arrays.fill(values, NONE);
            Arrays.fill(sizes, 0);
            for (int name = 0; name < VALUE_NAMES; name++) {
                showsNumber[name] = false;
            }
        }

        private void putRow(int place, int[] row, int size) {
            if (size < 0 || size > row.length) {
                return;
            }
            if (rows[place].length < size) {
                rows[place] = new int[Math.max(size, 2 * rows[place].length)];
            }
            System.arraycopy(row, 0, rows[place], 0, size);
            sizes[place] = size;
        }

        void putTypeHole(int name) {
            types[name] = HOLE;
        }

        void putType(int name, int[] row, int size) {
            types[name] = DEFINED;
            putRow(name, row, size);
        }

        void putStamp(int name, int stamp) {
            types[name] = DEFINED;
            rows[name][0] = stamp;
            sizes[name] = 1;
        }

        void putValue(int name, int status, int[] row, int size) {
            values[name] = status;
            showsNumber[name] = false;
            putRow(TYPE_NAMES + name, row, size);
        }

        void putNumber(int name, int number) {
            showsNumber[name] = true;
            numbers[name] = number;
        }

        /** Puts the number that another face shows for a name, if it shows one. */
        void putNumberOf(int name, Face other, int otherName) {
            if (other.showsNumber[otherName]) {
                putNumber(name, other.numbers[otherName]);
            }
        }

        void removeType(int name) {
            types[name] = NONE;
            sizes[name] = 0;
        }

        void removeValue(int name) {
            values[name] = NONE;
            sizes[TYPE_NAMES + name] = 0;
            showsNumber[name] = false;
        }

        void copy(Face other) {
            for (int name = 0; name < TYPE_NAMES; name++) {
                types[name] = other.types[name];
                putRow(name, other.rows[name], other.sizes[name]);
            }
            for (int name = 0; name < VALUE_NAMES; name++) {
                copyValue(name, other, name);
            }
        }

        void copyValue(int name, Face other, int otherName) {
            putValue(name, other.values[otherName], other.rows[TYPE_NAMES + otherName],
                other.sizes[TYPE_NAMES + otherName]);
            putNumberOf(name, other, otherName);
        }

        boolean hasType(int name) {
            return types[name] != NONE;
        }

        boolean hasValue(int name) {
            return values[name] != NONE;
        }

        boolean isValueHole(int name) {
            return (values[name] & HOLE) != 0;
        }

        boolean isGhost(int name) {
            return (values[name] & GHOST) != 0;
        }

        boolean isStamp(int name) {
            return types[name] == DEFINED && sizes[name] == 1 && rows[name][0] >= FIRST_STAMP;
        }

        int valueNames() {
            int names = 0;
            for (int name = 0; name < VALUE_NAMES; name++) {
                names |= hasValue(name) ? 1 << name : 0;
            }
            return names;
        }
    }

    /** A row of numbers that grows as it is told more. */
    private static final class Row {
        private int[] cells = new int[16];
        private int count;

        void clear() {
            count = 0;
        }

        void add(int cell) {
            if (count >= cells.length) {
                cells = Arrays.copyOf(cells, 2 * cells.length);
            }
            cells[count] = cell;
            count++;
        }

        /** Adds a mistake, or a face: its type components, and its value components of some names. */
        void addFace(Face face, int valueNames) {
            add(face.mistake);
            if (face.mistake != 0) {
                return;
            }
            for (int name = 0; name < TYPE_NAMES; name++) {
                add(face.types[name]);
                addParts(face.rows[name], face.sizes[name]);
            }
            for (int name = 0; name < VALUE_NAMES; name++) {
                if (isIn(valueNames, name)) {
                    addValue(face, name);
                }
            }
        }

        private void addValue(Face face, int name) {
            add(face.values[name]);
            addParts(face.rows[TYPE_NAMES + name], face.sizes[TYPE_NAMES + name]);
            add(face.showsNumber[name] ? 1 : 0);
            add(face.showsNumber[name] ? face.numbers[name] : 0);
        }

        private void addParts(int[] row, int size) {
            add(size);
            for (int i = 0; i < size && i < row.length; i++) {
                add(row[i]);
            }
        }

        void keep(Row other) {
            if (cells.length < other.count) {
                cells = new int[Math.max(other.count, 2 * cells.length)];
            }
            System.arraycopy(other.cells, 0, cells, 0, other.count);
            count = other.count;
        }

        boolean isSameAs(Row other) {
            return isSameRow(cells, count, other.cells, other.count);
        }
    }

    /** What nodes are and what stamps are made of: what is made of the same has the same number. */
    private static final class Things {
        private static final int WIDTH = 5;
        /** Of each thing its kind and what it is made of, and the next one in its chain, or -1. */
        private int[] made = new int[WIDTH * 64];
        private int count;
        /** The chains, by a hash of what things are made of. */
        private final int[] heads = new int[64];

        Things() {
            Arrays.fill(heads, -1);
        }

        int numberOf(int kind, int first, int second, int third) {
            int hash = ((kind * 31 + first) * 1009 + second) * 1013 + third;
            int head = (hash ^ hash >>> 15) & heads.length - 1;
            int number = heads[head];
            for (int i = 0; i < count && number >= 0; i++) {
                int at = WIDTH * number;
                if (made[at] == kind && made[at + 1] == first && made[at + 2] == second && made[at + 3] == third) {
                    return number;
                }
                number = made[at + 4];
            }
            int end = WIDTH * count;
            if (end >= made.length) {
                made = Arrays.copyOf(made, 2 * made.length);
            }
            made[end] = kind;
            made[end + 1] = first;
            made[end + 2] = second;
            made[end + 3] = third;
            made[end + 4] = heads[head];
            heads[head] = count;
            count++;
            return count - 1;
        }
    }

    /** Types that are put for open names, some of them found from equations. */
    private static final class Filling {
        private final int[][] told = new int[TYPE_NAMES][MOST_PARTS];
        private final int[] toldSizes = new int[TYPE_NAMES];
        private final int[] uses = new int[TYPE_NAMES];
        /** What is put for each name; of the size 0 where nothing is. */
        final int[][] rows = new int[TYPE_NAMES][MOST_PARTS];
        final int[] sizes = new int[TYPE_NAMES];

        void clear() {
            Arrays.fill(toldSizes, 0);
            Arrays.fill(sizes, 0);
        }

        void tell(int name, int[] row, int size) {
            toldSizes[name] = copied(row, size, told[name]);
        }

        void fill(int name, int[] row, int size) {
            sizes[name] = copied(row, size, rows[name]);
        }

        void fillPart(int name, int part) {
            rows[name][0] = part;
            sizes[name] = 1;
        }

        private static int copied(int[] row, int size, int[] into) {
            if (size < 0 || size > row.length || size > into.length) {
                return 0;
            }
            System.arraycopy(row, 0, into, 0, size);
            return size;
        }

        /** Makes the equations that were told full; gives the mistake, or 0. */
        int makeFull() {
            findUses();
            for (int name = 0; name < TYPE_NAMES; name++) {
                if (isIn(uses[name], name)) {
                    return typeMistake(KNOT, name);
                }
            }
            // Without a knot some equation that uses no other open one is left in each round.
            for (int round = 0; round < TYPE_NAMES; round++) {
                for (int name = 0; name < TYPE_NAMES; name++) {
                    if (toldSizes[name] > 0 && sizes[name] == 0 && isReady(name)) {
                        sizes[name] = put(told[name], toldSizes[name], rows[name]);
                    }
                }
            }
            for (int name = 0; name < TYPE_NAMES; name++) {
                if (sizes[name] > MOST_PARTS) {
                    return typeMistake(LARGE, name);
                }
            }
            return 0;
        }

        /** Finds for each equation the names with equations that come into it, again and again. */
        private void findUses() {
            for (int name = 0; name < TYPE_NAMES; name++) {
                uses[name] = 0;
                for (int i = 0; i < toldSizes[name]; i++) {
                    int used = told[name][i] - FIRST_OPEN;
                    if (isTypeName(used) && toldSizes[used] > 0) {
                        uses[name] |= 1 << used;
                    }
                }
            }
            for (int by = 0; by < TYPE_NAMES; by++) {
                for (int name = 0; name < TYPE_NAMES; name++) {
                    if (isIn(uses[name], by)) {
                        uses[name] |= uses[by];
                    }
                }
            }
        }

        private boolean isReady(int name) {
            for (int used = 0; used < TYPE_NAMES; used++) {
                if (isIn(uses[name], used) && sizes[used] == 0) {
                    return false;
                }
            }
            return true;
        }

        /** Puts for each open name of a row what is put for it; gives the size, or TOO_LARGE. */
        int put(int[] row, int size, int[] into) {
            int count = 0;
            for (int i = 0; i < size && i < row.length; i++) {
                int name = row[i] - FIRST_OPEN;
                boolean isPut = name >= 0 && name < TYPE_NAMES && sizes[name] > 0;
                int more = isPut ? sizes[name] : 1;
                if (count + more > MOST_PARTS || count + more > into.length) {
                    return TOO_LARGE;
                }
                if (isPut) {
                    System.arraycopy(rows[name], 0, into, count, more);
                } else {
                    into[count] = row[i];
                }
                count += more;
            }
            return count;
        }
    }

    /** Finds the face of a UNIT. */
    private static final class UnitFinder {
        /** A part for each of the types on the stack: an expression has eight leaves and five PAIRs at most. */
        private static final int STACK = MOST_WEIGHT * TOO_LARGE;
        private final Program program;
        private final Filling filling;
        private final int[] spare = new int[MOST_PARTS];
        private int[] stack = new int[64];
        private int top;

        UnitFinder(Program program, Filling filling) {
            this.program = program;
            this.filling = filling;
        }

        int findFace(Version version, Face face) {
            int mistake = findTypes(version, face);
            if (mistake == 0) {
                mistake = findValues(version, face);
            }
            for (int name = 0; name < VALUE_NAMES && mistake == 0; name++) {
                if (version.isDefinition(name)) {
                    int kind = checkDefinition(version, name, face);
                    mistake = kind == 0 ? 0 : valueMistake(kind, name);
                }
            }
            return mistake;
        }

        private int findTypes(Version version, Face face) {
            int names = version.typeNames();
            filling.clear();
            for (int name = 0; name < TYPE_NAMES; name++) {
                int made = version.types[name];
                if (made >= 0) {
                    if ((program.typeNames[made] & ~names) != 0) {
                        return typeMistake(NO_COMPONENT, name);
                    }
                    filling.tell(name, program.typeRows[made], program.typeSizes[made]);
                }
            }
            int mistake = filling.makeFull();
            for (int name = 0; name < TYPE_NAMES && mistake == 0; name++) {
                if (version.types[name] == HOLE_TYPE) {
                    face.putTypeHole(name);
                } else if (version.types[name] >= 0) {
                    face.putType(name, filling.rows[name], filling.sizes[name]);
                }
            }
            return mistake;
        }

        private int findValues(Version version, Face face) {
            int names = version.typeNames();
            for (int name = 0; name < VALUE_NAMES; name++) {
                if (version.hasValue(name)) {
                    int made = version.valueTypes[name];
                    if ((program.typeNames[made] & ~names) != 0) {
                        return valueMistake(NO_COMPONENT, name);
                    }
                    int size = filling.put(program.typeRows[made], program.typeSizes[made], spare);
                    if (size > MOST_PARTS) {
                        return valueMistake(LARGE, name);
                    }
                    int told = version.expressions[name];
                    int status = (told == HOLE_EXPRESSION ? HOLE : DEFINED) | version.flags[name] & GHOST;
                    face.putValue(name, status, spare, size);
                    if (told >= 0 && program.kinds[told] == NUMBER && version.flags[name] == 0) {
                        face.putNumber(name, program.firsts[told]);
                    }
                }
            }
            return 0;
        }

        private int checkDefinition(Version version, int name, Face face) {
            int told = version.expressions[name];
            top = 0;
            int kind = check(told, face, 0);
            if (kind == 0 && !isSameRow(stack, top, face.rows[TYPE_NAMES + name], face.sizes[TYPE_NAMES + name])) {
                kind = UNLIKE;
            }
            if (kind == 0 && !version.isGhost(name) && (program.refNames[told] & version.ghostNames()) != 0) {
                kind = GHOSTLY;
            }
            return kind;
        }

        /** Puts the type of an expression on the stack; gives the kind of the mistake, or 0. */
        private int check(int expression, Face face, int depth) {
            if (expression < 0 || depth > MOST_WEIGHT) {
                return UNLIKE;
            }
            switch (program.kinds[expression]) {
                case NUMBER:
                    return push(INT_PART);
                case REF:
                    return checkRef(program.firsts[expression], face);
                case ADD:
                    return checkAdd(expression, face, depth);
                case PAIR:
                    push(PAIR_PART);
                    return checkBoth(expression, face, depth);
                case WHEN:
                    return checkWhen(expression, face, depth);
                default:
                    return checkHalf(expression, face, depth);
            }
        }

        private int push(int part) {
            if (top >= stack.length && top < STACK) {
                stack = Arrays.copyOf(stack, Math.min(2 * stack.length, STACK));
            }
            if (top >= stack.length) {
                return UNLIKE;
            }
            stack[top] = part;
            top++;
            return 0;
        }

        private int checkRef(int name, Face face) {
            if (!face.hasValue(name)) {
                return NO_COMPONENT;
            }
            int[] row = face.rows[TYPE_NAMES + name];
            for (int i = 0; i < face.sizes[TYPE_NAMES + name] && i < row.length; i++) {
                push(row[i]);
            }
            return 0;
        }

        private int checkBoth(int expression, Face face, int depth) {
            int kind = check(program.firsts[expression], face, depth + 1);
            return kind != 0 ? kind : check(program.seconds[expression], face, depth + 1);
        }

        private int checkAdd(int expression, Face face, int depth) {
            int from = top;
            int kind = checkBoth(expression, face, depth);
            if (kind != 0) {
                return kind;
            }
            // Two types are on the stack: they are two INTs if each of the two is of one part.
            boolean isOfInts = top == from + 2 && isIntAt(from) && isIntAt(from + 1);
            top = from + 1;
            return isOfInts ? 0 : UNLIKE;
        }

        private boolean isIntAt(int place) {
            return place < top && stack[place] == INT_PART;
        }

        private int checkWhen(int expression, Face face, int depth) {
            int from = top;
            int kind = check(program.firsts[expression], face, depth + 1);
            if (kind != 0) {
                return kind;
            }
            boolean isByInt = top == from + 1 && isIntAt(from);
            int second = top;
            kind = check(program.seconds[expression], face, depth + 1);
            if (kind != 0) {
                return kind;
            }
            int third = top;
            kind = check(program.thirds[expression], face, depth + 1);
            if (kind != 0) {
                return kind;
            }
            boolean isLike = isSameOnStack(second, third, top);
            cutTo(from, second, third);
            return isByInt && isLike ? 0 : UNLIKE;
        }

        /** Tells whether the type from the first place to the second one is that from there to the end. */
        private boolean isSameOnStack(int first, int second, int end) {
            if (second - first != end - second) {
                return false;
            }
            for (int i = 0; first + i < second; i++) {
                if (stack[first + i] != stack[second + i]) {
                    return false;
                }
            }
            return true;
        }

        private int checkHalf(int expression, Face face, int depth) {
            int from = top;
            int kind = check(program.firsts[expression], face, depth + 1);
            if (kind != 0) {
                return kind;
            }
            if (from >= top || stack[from] != PAIR_PART) {
                return UNLIKE;
            }
            int middle = endOfType(from + 1);
            if (program.kinds[expression] == FIRST) {
                cutTo(from, from + 1, middle);
            } else {
                cutTo(from, middle, top);
            }
            return 0;
        }

        private int endOfType(int from) {
            int due = 1;
            int place = from;
            while (due > 0 && place < top) {
                due += stack[place] == PAIR_PART ? 1 : -1;
                place++;
            }
            return place;
        }

        /** Leaves in place of all from a place on just what stands from start to end. */
        private void cutTo(int place, int start, int end) {
            if (place <= start && start <= end && end <= top) {
                System.arraycopy(stack, start, stack, place, end - start);
                top = place + end - start;
            }
        }
    }

    /** Finds what nodes are, and their faces. */
    private static final class Finder {
        private final Program program;
        private final Things things = new Things();
        private final Filling filling = new Filling();
        private final Filling stamps = new Filling();
        private final UnitFinder unitFinder;
        private final Face functor = new Face();
        private final int[] spare = new int[MOST_PARTS];
        private final int[] otherSpare = new int[MOST_PARTS];

        Finder(Program program) {
            this.program = program;
            this.unitFinder = new UnitFinder(program, filling);
        }

        /** Finds anew what has changed of a node and of all of which it is made, and marks all these as needed. */
        Face faceOf(Node asked) {
            markNeeded(asked);
            for (int i = 0; i <= asked.number && i < program.nodes.size(); i++) {
                Node node = program.nodes.get(i);
                if (node.isNeeded && node.foundAt != program.edits) {
                    node.what = findWhat(node);
                    node.face.clear();
                    node.face.mistake = findMistake(node);
                    node.foundAt = program.edits;
                }
            }
            return asked.face;
        }

        private void markNeeded(Node asked) {
            for (int i = 0; i < program.nodes.size(); i++) {
                program.nodes.get(i).isNeeded = false;
            }
            asked.isNeeded = true;
            // Parts have lower numbers, so one way down meets all of them.
            for (int i = Math.min(asked.number, program.nodes.size() - 1); i >= 0; i--) {
                Node node = program.nodes.get(i);
                for (int part = 0; part < node.parts.length && node.isNeeded; part++) {
                    node.parts[part].isNeeded = true;
                }
            }
        }

        private int findWhat(Node node) {
            if (node.isByItself()) {
                return things.numberOf(ITSELF, node.number, 0, 0);
            }
            if (node.kind == UNIT) {
                return things.numberOf(UNIT, node.name, program.versionNumberOf(node), 0);
            }
            if (node.kind == RENAME || node.kind == HIDE) {
                return things.numberOf(node.kind, node.parts[0].what, node.name, node.to);
            }
            return things.numberOf(node.kind, node.parts[0].what, node.parts[1].what, 0);
        }

        /** The part of a type in full that is the stamp of a node for one of its type names. */
        private int stampOf(Node node, int name) {
            return FIRST_STAMP + (node.isByItself() ? things.numberOf(STAMP_OF_NODE, node.what, name, 0)
                : things.numberOf(STAMP_OF_PARTS, node.parts[0].what, node.parts[1].what, name));
        }

        /** Finds the face of a node of which all parts have been found; gives its mistake, or 0. */
        private int findMistake(Node node) {
            for (int i = 0; i < node.parts.length; i++) {
                if (node.parts[i].face.mistake != 0) {
                    return 100 * PART_WRONG + i;
                }
            }
            Node[] parts = node.parts;
            switch (node.kind) {
                case UNIT:
                    return unitFinder.findFace(program.versionOf(node), node.face);
                case LINK:
                    return link(parts[0].face, parts[1].face, -1, node.face);
                case SEAL:
                    return seal(node, parts[0].face, parts[1].face, node.face);
                case APPLY:
                    restampFunctor(parts[0].face, node.isGenerative ? node.what : parts[1].what);
                    int mistake = link(functor, parts[1].face, functor.valueNames(), node.face);
                    return mistake != 0 ? mistake : applied(parts[1].face, node.face);
                case CHOOSE:
                    return choice(node, parts[0].face, parts[1].face, parts[2].face);
                default:
                    return renamed(node, parts[0].face, node.face);
            }
        }

        /** Of the second face just the values of some names are taken. */
        private int link(Face first, Face second, int names, Face face) {
            filling.clear();
            for (int name = 0; name < TYPE_NAMES; name++) {
                Face by = first.types[name] == DEFINED ? first : second;
                if (by.types[name] == DEFINED) {
                    filling.tell(name, by.rows[name], by.sizes[name]);
                }
            }
            int mistake = filling.makeFull();
            for (int name = 0; name < TYPE_NAMES && mistake == 0; name++) {
                mistake = linkType(name, first, second, face);
            }
            for (int name = 0; name < VALUE_NAMES && mistake == 0; name++) {
                int inSecond = isIn(names, name) ? second.values[name] : NONE;
                if (first.hasValue(name) && inSecond != NONE) {
                    mistake = linkBoth(name, first, second, face);
                } else if (first.hasValue(name) || inSecond != NONE) {
                    mistake = linkOne(name, inSecond == NONE ? first : second, face);
                }
            }
            return mistake;
        }

        private int linkType(int name, Face first, Face second, Face face) {
            if (filling.sizes[name] > 0) {
                face.putType(name, filling.rows[name], filling.sizes[name]);
            } else if (first.hasType(name) || second.hasType(name)) {
                face.putTypeHole(name);
            }
            if (first.types[name] != DEFINED || second.types[name] != DEFINED) {
                return 0;
            }
            int size = filling.put(second.rows[name], second.sizes[name], spare);
            return isSameRow(spare, size, filling.rows[name], filling.sizes[name]) ? 0 : typeMistake(TWICE, name);
        }

        private int linkOne(int name, Face from, Face face) {
            int size = filling.put(from.rows[TYPE_NAMES + name], from.sizes[TYPE_NAMES + name], spare);
            if (size > MOST_PARTS) {
                return valueMistake(LARGE, name);
            }
            face.putValue(name, from.values[name], spare, size);
            face.putNumberOf(name, from, name);
            return 0;
        }

        private int linkBoth(int name, Face first, Face second, Face face) {
            int size = filling.put(first.rows[TYPE_NAMES + name], first.sizes[TYPE_NAMES + name], spare);
            int otherSize = filling.put(second.rows[TYPE_NAMES + name], second.sizes[TYPE_NAMES + name], otherSpare);
            if (size > MOST_PARTS || otherSize > MOST_PARTS) {
                return valueMistake(LARGE, name);
            }
            if (!first.isValueHole(name) && !second.isValueHole(name)) {
                return valueMistake(TWICE, name);
            }
            if (!isSameRow(spare, size, otherSpare, otherSize)) {
                return valueMistake(UNLIKE, name);
            }
            if (first.isValueHole(name) && second.isValueHole(name)) {
                face.putValue(name, HOLE | first.values[name] & second.values[name] & GHOST, spare, size);
                return 0;
            }
            Face definer = first.isValueHole(name) ? second : first;
            Face other = first.isValueHole(name) ? first : second;
            if (definer.isGhost(name) && !other.isGhost(name)) {
                return valueMistake(GHOSTLY, name);
            }
            face.putValue(name, definer.values[name], spare, size);
            face.putNumberOf(name, definer, name);
            return 0;
        }

        private int seal(Node node, Face first, Face signature, Face face) {
            filling.clear();
            stamps.clear();
            for (int name = 0; name < TYPE_NAMES; name++) {
                if (signature.types[name] == HOLE && first.types[name] == DEFINED) {
                    filling.fill(name, first.rows[name], first.sizes[name]);
                    stamps.fillPart(name, stampOf(node, name));
                }
            }
            int mistake = 0;
            for (int name = 0; name < TYPE_NAMES && mistake == 0; name++) {
                if (signature.hasType(name)) {
                    mistake = sealType(name, first, signature, face);
                }
            }
            for (int name = 0; name < VALUE_NAMES && mistake == 0; name++) {
                if (signature.hasValue(name)) {
                    mistake = sealValue(name, first, signature, face);
                }
            }
            return mistake;
        }

        private int sealType(int name, Face first, Face signature, Face face) {
            if (!first.hasType(name)) {
                return typeMistake(LACKING, name);
            }
            if (signature.types[name] == HOLE) {
                if (first.types[name] == DEFINED) {
                    face.putStamp(name, stamps.rows[name][0]);
                } else {
                    face.putTypeHole(name);
                }
                return 0;
            }
            if (first.types[name] == HOLE) {
                return typeMistake(UNLIKE, name);
            }
            int size = filling.put(signature.rows[name], signature.sizes[name], spare);
            if (size > MOST_PARTS) {
                return typeMistake(LARGE, name);
            }
            if (!isSameRow(spare, size, first.rows[name], first.sizes[name])) {
                return typeMistake(UNLIKE, name);
            }
            size = stamps.put(signature.rows[name], signature.sizes[name], spare);
            face.putType(name, spare, size);
            return 0;
        }

        private int sealValue(int name, Face first, Face signature, Face face) {
            if (!first.hasValue(name)) {
                return valueMistake(LACKING, name);
            }
            int size = filling.put(signature.rows[TYPE_NAMES + name], signature.sizes[TYPE_NAMES + name], spare);
            if (size > MOST_PARTS) {
                return valueMistake(LARGE, name);
            }
            if (!isSameRow(spare, size, first.rows[TYPE_NAMES + name], first.sizes[TYPE_NAMES + name])) {
                return valueMistake(UNLIKE, name);
            }
            if (first.isGhost(name) && !signature.isGhost(name)) {
                return valueMistake(GHOSTLY, name);
            }
            size = stamps.put(signature.rows[TYPE_NAMES + name], signature.sizes[TYPE_NAMES + name], spare);
            int status = (first.isValueHole(name) ? HOLE : DEFINED) | signature.values[name] & GHOST;
            face.putValue(name, status, spare, size);
            return 0;
        }

        private void restampFunctor(Face from, int by) {
            functor.copy(from);
            for (int place = 0; place < NAMES; place++) {
                int[] row = functor.rows[place];
                for (int i = 0; i < functor.sizes[place] && i < row.length; i++) {
                    if (row[i] >= FIRST_STAMP) {
                        row[i] = FIRST_STAMP + things.numberOf(STAMP_OF_STAMP, by, row[i] - FIRST_STAMP, 0);
                    }
                }
            }
        }

        /** Looks at an APPLY that has been linked, and leaves in its face just what the functor has. */
        private int applied(Face argument, Face face) {
            for (int name = 0; name < TYPE_NAMES; name++) {
                if (functor.types[name] == HOLE && argument.types[name] != DEFINED) {
                    return typeMistake(LACKING, name);
                }
            }
            for (int name = 0; name < VALUE_NAMES; name++) {
                if (functor.isValueHole(name) && (argument.values[name] & DEFINED) == 0) {
                    return valueMistake(LACKING, name);
                }
            }
            // The values are those of the functor already: of the argument just these were linked.
            for (int name = 0; name < TYPE_NAMES; name++) {
                if (!functor.hasType(name)) {
                    face.removeType(name);
                }
            }
            return 0;
        }

        private int choice(Node node, Face first, Face second, Face third) {
            int mistake = checkThird(third);
            if (mistake == 0) {
                mistake = checkNames(first, second);
            }
            if (mistake == 0) {
                mistake = checkHoles(first, second);
            }
            if (mistake != 0) {
                return mistake;
            }
            int hidden = choiceTypes(node, first, second);
            for (int name = 0; name < VALUE_NAMES && mistake == 0; name++) {
                if (first.hasValue(name)) {
                    mistake = choiceValue(name, first, second, hidden, node.face);
                }
            }
            return mistake;
        }

        private static int checkThird(Face third) {
            boolean isInt = third.sizes[TYPE_NAMES] == 1 && third.rows[TYPE_NAMES][0] == INT_PART;
            if (third.values[0] != DEFINED || !isInt) {
                return valueMistake(LACKING, 0);
            }
            for (int name = 0; name < VALUE_NAMES; name++) {
                if (third.isValueHole(name) && !third.isGhost(name)) {
                    return valueMistake(HOLLOW, name);
                }
            }
            return 0;
        }

        private static int checkNames(Face first, Face second) {
            for (int name = 0; name < TYPE_NAMES; name++) {
                if (first.hasType(name) != second.hasType(name)) {
                    return typeMistake(LACKING, name);
                }
            }
            for (int name = 0; name < VALUE_NAMES; name++) {
                if (first.hasValue(name) != second.hasValue(name)) {
                    return valueMistake(LACKING, name);
                }
            }
            return 0;
        }

        private static int checkHoles(Face first, Face second) {
            for (int name = 0; name < TYPE_NAMES; name++) {
                if (first.types[name] == HOLE || second.types[name] == HOLE) {
                    return typeMistake(HOLLOW, name);
                }
            }
            for (int name = 0; name < VALUE_NAMES; name++) {
                if (first.isValueHole(name) || second.isValueHole(name)) {
                    return valueMistake(HOLLOW, name);
                }
            }
            return 0;
        }

        /** Puts the types of a CHOOSE into its face; gives the names that have new stamps. */
        private int choiceTypes(Node node, Face first, Face second) {
            int hidden = 0;
            for (int name = 0; name < TYPE_NAMES; name++) {
                if (first.hasType(name)) {
                    if (isSameRow(first.rows[name], first.sizes[name], second.rows[name], second.sizes[name])) {
                        node.face.putType(name, first.rows[name], first.sizes[name]);
                    } else {
                        node.face.putStamp(name, stampOf(node, name));
                        hidden |= 1 << name;
                    }
                }
            }
            return hidden;
        }

        private static int hideTypes(Face from, int place, int hidden, Face face, int[] into) {
            int[] row = from.rows[place];
            int count = 0;
            int at = 0;
            while (at < from.sizes[place] && at < row.length && count < into.length) {
                int name = hiddenNameAt(row, at, from.sizes[place], from, hidden);
                into[count] = name < 0 ? row[at] : face.rows[name][0];
                // No type is of size 0, so each round goes on by one at least.
                at += name < 0 ? 1 : Math.max(1, from.sizes[name]);
                count++;
            }
            return count;
        }

        /** The lowest name with a new stamp whose type stands at a place of a row; -1 for none. */
        private static int hiddenNameAt(int[] row, int at, int end, Face from, int hidden) {
            for (int name = 0; name < TYPE_NAMES; name++) {
                if (isIn(hidden, name) && startsWith(row, at, end, from.rows[name], from.sizes[name])) {
                    return name;
                }
            }
            return -1;
        }

        private int choiceValue(int name, Face first, Face second, int hidden, Face face) {
            int size = hideTypes(first, TYPE_NAMES + name, hidden, face, spare);
            int otherSize = hideTypes(second, TYPE_NAMES + name, hidden, face, otherSpare);
            if (!isSameRow(spare, size, otherSpare, otherSize)) {
                return valueMistake(UNLIKE, name);
            }
            face.putValue(name, DEFINED | (first.values[name] | second.values[name]) & GHOST, spare, size);
            return 0;
        }

        private static int renamed(Node node, Face part, Face face) {
            if (!part.hasValue(node.name)) {
                return valueMistake(LACKING, node.name);
            }
            if (node.kind == HIDE && part.isValueHole(node.name)) {
                return valueMistake(HOLLOW, node.name);
            }
            if (node.kind == RENAME && part.hasValue(node.to)) {
                return valueMistake(TWICE, node.to);
            }
            face.copy(part);
            face.removeValue(node.name);
            if (node.kind == RENAME) {
                face.copyValue(node.to, part, node.name);
            }
            return 0;
        }
    }

    /** The values of a run: numbers, and pairs of earlier ones. */
    private static final class Values {
        /** Beyond any place that can be asked for, and far enough from the end of long to add two. */
        private static final long FAR = 1L << 61;
        /** In place of the second one, for a number. */
        static final int ALONE = -1;
        /** The number, or the first one of a pair. */
        private int[] firsts = new int[32];
        /** The second one of a pair, or ALONE. */
        private int[] seconds = new int[32];
        /** How many numbers there are, or FAR. */
        private long[] counts = new long[32];
        /** How many numbers there are, gone round to an int. */
        private int[] rounds = new int[32];
        int count;

        /** Adds a number, with ALONE, or a pair of two earlier values. */
        int add(int first, int second) {
            if (count >= firsts.length) {
                firsts = Arrays.copyOf(firsts, 2 * firsts.length);
                seconds = Arrays.copyOf(seconds, 2 * seconds.length);
                counts = Arrays.copyOf(counts, 2 * counts.length);
                rounds = Arrays.copyOf(rounds, 2 * rounds.length);
            }
            boolean isNumber = second == ALONE;
            firsts[count] = first;
            seconds[count] = second;
            counts[count] = isNumber ? 1 : Math.min(FAR, counts[first] + counts[second]);
            rounds[count] = isNumber ? 1 : rounds[first] + rounds[second];
            count++;
            return count - 1;
        }

        boolean isPair(int value) {
            return seconds[value] != ALONE;
        }

        int firstOf(int value) {
            return firsts[value];
        }

        int secondOf(int value) {
            return seconds[value];
        }

        /** How many numbers a value has, so far as a place can tell. */
        long countOf(int value) {
            return counts[value];
        }

        /** What the log notes of a value: the number itself, or of a pair how many numbers it has. */
        int entryOf(int value) {
            return isPair(value) ? rounds[value] : firsts[value];
        }

        /** The number at a place of a value that has so many, from left to right. */
        int numberAt(int value, int place) {
            int at = value;
            long left = place;
            // Each step goes to an earlier value.
            for (int i = 0; i < count && isPair(at); i++) {
                long inFirst = counts[firsts[at]];
                if (left < inFirst) {
                    at = firsts[at];
                } else {
                    left -= inFirst;
                    at = seconds[at];
                }
            }
            return firsts[at];
        }
    }

    /** Runs a node, and holds what came of that. */
    private static final class Machine {
        private static final int SLOTS = MOST_NODE_WEIGHT * VALUE_NAMES;
        private static final int NO_CELL = -2;
        private static final int UNKNOWN = -1;
        private static final int OPEN = -2;
        private static final int WITHOUT = -3;

        private final Program program;
        /** Each instance of a UNIT has ten slots, by the value names; a cell has its expression there. */
        private final int[] expressions = new int[SLOTS];
        private final int[] flags = new int[SLOTS];
        /** The slot by which a hole is filled, or which is filled along with it; -1 for none. */
        private final int[] fills = new int[SLOTS];
        /** The slots that the names tell, in the row of the first instance of a node; -1 where none is shown. */
        private final int[] shown = new int[SLOTS];
        /** The cell that a slot comes to, or -1. */
        private final int[] cells = new int[SLOTS];
        private final boolean[] isMarked = new boolean[SLOTS];
        /** The value of a cell, or UNKNOWN, OPEN or WITHOUT. */
        private final int[] states = new int[SLOTS];
        private final int[] stack = new int[SLOTS];
        private int instances;
        private int asked;
        private int failure;

        final Values values = new Values();
        final int[] entries = new int[SLOTS];
        int entryCount;
        final int[] results = new int[VALUE_NAMES];
        int cellCount;
        int reachedCount;

        Machine(Program program) {
            this.program = program;
        }

        /** Runs a node that has no mistake; gives what the run is. */
        int perform(Node node) {
            instances = 0;
            int row = runAlone(node, 0);
            if (row < 0) {
                return failure;
            }
            for (int name = 0; name < VALUE_NAMES; name++) {
                int cell = faceCell(node, row, name);
                results[name] = cell < 0 ? WITHOUT : states[cell];
            }
            return 0;
        }

        private int fail(int outcome) {
            failure = outcome;
            return -1;
        }

        /** Runs a node with cells behind those that there are; gives the row of what it shows, or -1. */
        private int runAlone(Node node, int depth) {
            int from = instances;
            int row = instance(node, depth);
            if (row < 0) {
                return -1;
            }
            findCells(from);
            if (hasOpenRef(from)) {
                return fail(RUN_OPEN);
            }
            if (hasRing(from)) {
                return fail(RUN_RING);
            }
            reach(node, from, row);
            giveValues(node, from, row);
            return row;
        }

        /** Makes an instance of a node; gives the row of what it shows, or -1. */
        private int instance(Node node, int depth) {
            if (depth > MOST_NODE_WEIGHT || instances >= MOST_NODE_WEIGHT) {
                return fail(RUN_OPEN);
            }
            switch (node.kind) {
                case UNIT:
                    return unitInstance(program.versionOf(node));
                case CHOOSE:
                    return choiceInstance(node, depth);
                case LINK:
                case APPLY:
                    return linkInstance(node, depth);
                default:
                    return shownInstance(node, depth);
            }
        }

        private int unitInstance(Version version) {
            int from = instances * VALUE_NAMES;
            for (int name = 0; name < VALUE_NAMES; name++) {
                boolean isCell = version.isDefinition(name) && !version.isGhost(name);
                boolean isHole = version.hasValue(name) && !version.isDefinition(name);
                int slot = from + name;
                expressions[slot] = isCell ? version.expressions[name] : isHole ? HOLE_EXPRESSION : NO_CELL;
                flags[slot] = version.flags[name];
                fills[slot] = -1;
                states[slot] = UNKNOWN;
                shown[slot] = version.hasValue(name) ? slot : -1;
            }
            instances++;
            return instances - 1;
        }

        private int choiceInstance(Node node, int depth) {
            int from = instances;
            int row = runAlone(node.parts[2], depth + 1);
            if (row < 0) {
                return -1;
            }
            int cell = faceCell(node.parts[2], row, 0);
            int value = cell < 0 ? WITHOUT : states[cell];
            if (value < 0 || values.isPair(value)) {
                return fail(RUN_UNDECIDED);
            }
            boolean isFirst = values.firstOf(value) != 0;
            // The cells of the third part count for nothing else: the next ones take their places.
            instances = from;
            return instance(node.parts[isFirst ? 0 : 1], depth + 1);
        }

        private int linkInstance(Node node, int depth) {
            int row = instance(node.parts[0], depth + 1);
            int other = row < 0 ? -1 : instance(node.parts[1], depth + 1);
            if (other < 0) {
                return -1;
            }
            for (int name = 0; name < VALUE_NAMES; name++) {
                int at = row * VALUE_NAMES + name;
                int slot = shown[at];
                int otherSlot = shown[other * VALUE_NAMES + name];
                if (slot >= 0 && otherSlot >= 0) {
                    join(endOf(slot), endOf(otherSlot));
                } else if (node.kind == LINK && otherSlot >= 0) {
                    shown[at] = otherSlot;
                }
            }
            return row;
        }

        private int endOf(int slot) {
            int end = slot;
            for (int i = 0; i < SLOTS && fills[end] >= 0; i++) {
                end = fills[end];
            }
            return end;
        }

        private void join(int end, int otherEnd) {
            if (end == otherEnd) {
                return;
            }
            if (expressions[end] == HOLE_EXPRESSION) {
                fills[end] = otherEnd;
            } else if (expressions[otherEnd] == HOLE_EXPRESSION) {
                fills[otherEnd] = end;
            }
        }

        private int shownInstance(Node node, int depth) {
            int row = instance(node.parts[0], depth + 1);
            if (row < 0) {
                return -1;
            }
            int from = row * VALUE_NAMES;
            if (node.kind == SEAL) {
                int names = node.parts[1].face.valueNames();
                for (int name = 0; name < VALUE_NAMES; name++) {
                    shown[from + name] = isIn(names, name) ? shown[from + name] : -1;
                }
                return row;
            }
            if (node.kind == RENAME) {
                shown[from + node.to] = shown[from + node.name];
            }
            shown[from + node.name] = -1;
            return row;
        }

        /** The cell that the face of a node that has been run shows by a name; -1 for none. */
        private int faceCell(Node node, int row, int name) {
            int slot = shown[row * VALUE_NAMES + name];
            // What a signature made a ghost is a cell still, but none that the face shows.
            return slot < 0 || node.face.values[name] != DEFINED ? -1 : cells[slot];
        }

        private boolean isCell(int slot) {
            return expressions[slot] >= 0;
        }

        private int slotCount() {
            return Math.min(SLOTS, instances * VALUE_NAMES);
        }

        private void findCells(int from) {
            for (int slot = from * VALUE_NAMES; slot < slotCount(); slot++) {
                int end = endOf(slot);
                cells[slot] = isCell(end) ? end : -1;
            }
        }

        /** The cell to which a REF of a name in a cell is; -1 for none. */
        private int target(int cell, int name) {
            return cells[cell - cell % VALUE_NAMES + name];
        }

        private int refNames(int cell) {
            return program.refNames[expressions[cell]];
        }

        private boolean hasOpenRef(int from) {
            for (int slot = from * VALUE_NAMES; slot < slotCount(); slot++) {
                for (int name = 0; name < VALUE_NAMES && isCell(slot); name++) {
                    if (isIn(refNames(slot), name) && target(slot, name) < 0) {
                        return true;
                    }
                }
            }
            return false;
        }

        /** Marks again and again what leads into no ring that has not been marked: what is left has a ring. */
        private boolean hasRing(int from) {
            int left = 0;
            for (int slot = from * VALUE_NAMES; slot < slotCount(); slot++) {
                isMarked[slot] = !isCell(slot) || (flags[slot] & LAZY) != 0;
                left += isMarked[slot] ? 0 : 1;
            }
            boolean isOn = true;
            for (int round = 0; round < SLOTS && isOn && left > 0; round++) {
                isOn = false;
                for (int slot = from * VALUE_NAMES; slot < slotCount(); slot++) {
                    if (!isMarked[slot] && leadsToMarked(slot)) {
                        isMarked[slot] = true;
                        left--;
                        isOn = true;
                    }
                }
            }
            return left > 0;
        }

        private boolean leadsToMarked(int cell) {
            for (int name = 0; name < VALUE_NAMES; name++) {
                if (isIn(refNames(cell), name) && !isMarked[target(cell, name)]) {
                    return false;
                }
            }
            return true;
        }

        /** Marks what is reached, and counts it. */
        private void reach(Node node, int from, int row) {
            cellCount = 0;
            reachedCount = 0;
            for (int slot = from * VALUE_NAMES; slot < slotCount(); slot++) {
                isMarked[slot] = false;
                cellCount += isCell(slot) ? 1 : 0;
            }
            for (int name = 0; name < VALUE_NAMES; name++) {
                reachCell(faceCell(node, row, name));
            }
            for (int slot = from * VALUE_NAMES; slot < slotCount(); slot++) {
                if (isCell(slot) && (flags[slot] & EFFECT) != 0) {
                    reachCell(slot);
                }
            }
            // The stack holds all that has been reached, each once, and grows while it is looked through.
            for (int i = 0; i < reachedCount; i++) {
                for (int name = 0; name < VALUE_NAMES; name++) {
                    if (isIn(refNames(stack[i]), name)) {
                        reachCell(target(stack[i], name));
                    }
                }
            }
        }

        private void reachCell(int cell) {
            if (cell >= 0 && !isMarked[cell] && reachedCount < SLOTS) {
                isMarked[cell] = true;
                stack[reachedCount] = cell;
                reachedCount++;
            }
        }

        private void giveValues(Node node, int from, int row) {
            values.count = 0;
            entryCount = 0;
            for (int slot = from * VALUE_NAMES; slot < slotCount(); slot++) {
                if (isCell(slot) && isMarked[slot] && (flags[slot] & LAZY) == 0) {
                    giveValue(slot);
                }
            }
            for (int name = 0; name < VALUE_NAMES; name++) {
                giveValue(faceCell(node, row, name));
            }
        }

        /** Gives a cell its value, if it had none yet, and ahead of it all those for which it asks. */
        private void giveValue(int cell) {
            int depth = open(cell, 0);
            // Each round opens a cell or ends one, each cell once: so there are two for each at most.
            for (int round = 0; round < 2 * SLOTS && depth > 0; round++) {
                int on = stack[depth - 1];
                int before = values.count;
                asked = -1;
                int value = evaluate(expressions[on], on, 0);
                if (asked >= 0) {
                    // What was found so far is found again, when the one that was asked for is known.
                    values.count = before;
                    depth = open(asked, depth);
                } else {
                    close(on, value);
                    depth--;
                }
            }
        }

        private int open(int cell, int depth) {
            if (cell < 0 || states[cell] != UNKNOWN || depth >= SLOTS) {
                return depth;
            }
            states[cell] = OPEN;
            stack[depth] = cell;
            return depth + 1;
        }

        private void close(int cell, int value) {
            states[cell] = value;
            if (value >= 0 && (flags[cell] & EFFECT) != 0 && entryCount < SLOTS) {
                entries[entryCount] = values.entryOf(value);
                entryCount++;
            }
        }

        /** Gives the value of an expression in a cell, or WITHOUT; that counts not, if a cell is asked for. */
        private int evaluate(int expression, int cell, int depth) {
            if (expression < 0 || depth > MOST_WEIGHT) {
                return WITHOUT;
            }
            switch (program.kinds[expression]) {
                case NUMBER:
                    return values.add(program.firsts[expression], Values.ALONE);
                case REF:
                    return evaluateRef(target(cell, program.firsts[expression]));
                case ADD:
                case PAIR:
                    return evaluateBoth(expression, cell, depth);
                case WHEN:
                    return evaluateWhen(expression, cell, depth);
                default:
                    return evaluateHalf(expression, cell, depth);
            }
        }

        private int evaluateRef(int cell) {
            if (cell < 0) {
                return WITHOUT;
            }
            if (states[cell] == UNKNOWN) {
                asked = cell;
            }
            return states[cell] >= 0 ? states[cell] : WITHOUT;
        }

        private int evaluateBoth(int expression, int cell, int depth) {
            int first = evaluate(program.firsts[expression], cell, depth + 1);
            int second = first < 0 ? WITHOUT : evaluate(program.seconds[expression], cell, depth + 1);
            if (second < 0) {
                return WITHOUT;
            }
            if (program.kinds[expression] == PAIR) {
                return values.add(first, second);
            }
            return values.isPair(first) || values.isPair(second) ? WITHOUT
                : values.add(values.firstOf(first) + values.firstOf(second), Values.ALONE);
        }

        private int evaluateWhen(int expression, int cell, int depth) {
            int first = evaluate(program.firsts[expression], cell, depth + 1);
            if (first < 0 || values.isPair(first)) {
                return WITHOUT;
            }
            boolean isSecond = values.firstOf(first) != 0;
            return evaluate(isSecond ? program.seconds[expression] : program.thirds[expression], cell, depth + 1);
        }

        private int evaluateHalf(int expression, int cell, int depth) {
            int pair = evaluate(program.firsts[expression], cell, depth + 1);
            if (pair < 0 || !values.isPair(pair)) {
                return WITHOUT;
            }
            return program.kinds[expression] == FIRST ? values.firstOf(pair) : values.secondOf(pair);
        }
    }
}
