import java.util.NoSuchElementException;

/**
 * Reads loops on arrays from texts, finds their dependences, fuses neighbouring loops into groups
 * with the least shifts, and runs them in the original and in the fused order.
 */
public final class LoopFuser {
    private static final int TEXT_LIMIT = 120;
    /** The shortest loop has 16 characters; the last row takes a loop that the text cannot end. */
    private static final int LOOPS_IN_TEXT = TEXT_LIMIT / 16 + 1;
    private static final int MOST_LOOPS = 6;
    private static final int MOST_STATEMENTS = 4;
    private static final int MOST_READS = 5;
    private static final int MOST_REFERENCES = MOST_STATEMENTS * (MOST_READS + 1);
    private static final int MOST_LINKS = MOST_REFERENCES * MOST_REFERENCES;
    private static final int MOST_OPEN = 3;
    private static final int MOST_INDEX = 30;

    private static final int ARRAYS = 5;
    private static final int CELLS = 49;
    private static final int FIRST_CELL = -9;
    private static final int PLACES = ARRAYS * CELLS;

    private static final int LIMIT = 0;
    private static final int WINDOW = 1;
    private static final int SEED = 2;
    private static final int OPTIONS = 3;

    private static final int ARRANGEMENTS = 3;
    private static final int EACH_ALONE = 0;
    private static final int LONGEST_FIRST = 1;

    /** Kinds of tokens; the operators come first and bear the numbers of the document. */
    private static final int PLUS = 0;
    private static final int MINUS = 1;
    private static final int TIMES = 2;
    private static final int NUMBER = 3;
    private static final int INDEX = 4;
    private static final int CONTENT = 5;

    /** An operand may wait before each operator of a sum and of a product, at each depth. */
    private static final int STACK = 2 * (MOST_OPEN + 1) + 1;

    private static final char END = (char) 0;
    private static final int NO_FAULT = -1;
    private static final int BAD = -1;
    /** So far below every needed shift that a sum with it never counts against 0. */
    private static final int NO_LINK = -1000;
    /** So long before every time step that no window reaches it. */
    private static final int NEVER = -1000;

    private final TextReader text = new TextReader();
    private final Program program = new Program();
    private final Program snapshot = new Program();
    private final Links links = new Links();
    private final Group group = new Group(program, links);
    private final Trace trace = new Trace();
    private final Machine machine = new Machine();
    private final Plan[] plans = new Plan[ARRANGEMENTS];
    private boolean hasSnapshot = false;

    public LoopFuser() {
        for (int kind = 0; kind < plans.length; kind++) {
            plans[kind] = new Plan(kind, program, group, trace);
        }
    }

    public int append(int packed) throws IllegalArgumentException, IllegalStateException {
        int added = 0;
        for (int shift = 24; shift >= 0; shift -= 8) {
            int sign = (packed >>> shift) & 255;
            if (sign != 0 && (sign < 33 || sign > 126)) {
                throw new IllegalArgumentException("a byte is not a character of a text");
            }
            added += sign == 0 ? 0 : 1;
        }
        if (text.length + added > TEXT_LIMIT) {
            throw new IllegalStateException("the buffer would be too long");
        }
        for (int shift = 24; shift >= 0; shift -= 8) {
            text.add((packed >>> shift) & 255);
        }
        return text.length;
    }

    public int read() throws IllegalArgumentException, IllegalStateException {
        text.parse();
        if (text.fault != NO_FAULT) {
            throw new IllegalArgumentException("the text has a fault");
        }
        if (program.count + text.found > MOST_LOOPS) {
            throw new IllegalStateException("there would be too many loops");
        }
        for (int n = 0; n < text.found && n < LOOPS_IN_TEXT; n++) {
            program.add(text.loops[n]);
        }
        return text.found;
    }

    public int faultPosition() {
        return text.fault;
    }

    public int removeLoop(int loop) throws IndexOutOfBoundsException {
        checkLoop(loop);
        program.remove(loop);
        return program.count;
    }

    public int loopCount() {
        return program.count;
    }

    public int bound(int loop, int side) throws IndexOutOfBoundsException, IllegalArgumentException {
        Loop chosen = loopAt(loop);
        checkSide(side);
        return side == 0 ? chosen.first : chosen.last;
    }

    public int setBound(int loop, int side, int value) throws IndexOutOfBoundsException, IllegalArgumentException {
        Loop chosen = loopAt(loop);
        checkSide(side);
        int first = side == 0 ? value : chosen.first;
        int last = side == 1 ? value : chosen.last;
        if (first < 0 || last < first || last > MOST_INDEX) {
            throw new IllegalArgumentException("the bounds would not be allowed");
        }
        int previous = side == 0 ? chosen.first : chosen.last;
        program.replaceBounds(loop, first, last);
        return previous;
    }

    public int statementCount(int loop) throws IndexOutOfBoundsException {
        return loopAt(loop).body.statementTotal;
    }

    public int referenceCount(int loop) throws IndexOutOfBoundsException {
        return loopAt(loop).body.referenceTotal;
    }

    public int reference(int loop, int reference, int what) throws IndexOutOfBoundsException, IllegalArgumentException {
        Body body = loopAt(loop).body;
        if (!body.hasReference(reference)) {
            throw new IndexOutOfBoundsException("there is no such reference");
        }
        switch (what) {
            case 0:
                return body.places[reference] / CELLS;
            case 1:
                return body.places[reference] % CELLS + FIRST_CELL;
            case 2:
                return body.writes[reference] ? 1 : 0;
            case 3:
                return body.owners[reference];
            default:
                throw new IllegalArgumentException("what is not from 0 to 3");
        }
    }

    public int operators(int loop, int statement, int operator)
            throws IndexOutOfBoundsException, IllegalArgumentException {
        Statement chosen = statementAt(loop, statement);
        if (operator < PLUS || operator > TIMES) {
            throw new IllegalArgumentException("there is no such operator");
        }
        return chosen.operators[operator];
    }

    public int height(int loop, int statement) throws IndexOutOfBoundsException {
        return statementAt(loop, statement).height;
    }

    public int value(int loop, int statement, int i) throws IndexOutOfBoundsException, IllegalArgumentException {
        Statement chosen = statementAt(loop, statement);
        Loop owner = loopAt(loop);
        if (!owner.hasIteration(i)) {
            throw new IllegalArgumentException("the loop has no such iteration");
        }
        machine.begin(program.options[SEED]);
        return machine.evaluate(owner.body, chosen, i);
    }

    public int setOption(int option, int value) throws IndexOutOfBoundsException, IllegalArgumentException {
        if (option < 0 || option >= OPTIONS) {
            throw new IndexOutOfBoundsException("there is no such option");
        }
        if (option != SEED && (value < 0 || value > (option == LIMIT ? 20 : 9))) {
            throw new IllegalArgumentException("the value is out of range");
        }
        int previous = program.options[option];
        program.replaceOption(option, value);
        return previous;
    }

    public boolean setBarrier(int loop, boolean barrier) throws IndexOutOfBoundsException {
        boolean previous = loopAt(loop).barrier;
        program.replaceBarrier(loop, barrier);
        return previous;
    }

    public int dependenceCount(int p, int q) throws IndexOutOfBoundsException, IllegalArgumentException {
        checkPair(p, q);
        checkBefore(p, q);
        links.collect(loopAt(p), loopAt(q));
        return links.count;
    }

    public int dependence(int p, int q, int index, int what)
            throws IndexOutOfBoundsException, IllegalArgumentException, NoSuchElementException {
        checkPair(p, q);
        if (what < 0 || what > 2) {
            throw new IndexOutOfBoundsException("what is not from 0 to 2");
        }
        checkBefore(p, q);
        links.collect(loopAt(p), loopAt(q));
        if (index < 0 || index >= links.count) {
            throw new NoSuchElementException("there is no such dependence");
        }
        return what == 0 ? links.arrays[index] : what == 1 ? links.kinds[index] : links.shifts[index];
    }

    public int required(int p, int q)
            throws IndexOutOfBoundsException, IllegalArgumentException, NoSuchElementException {
        checkPair(p, q);
        checkBefore(p, q);
        links.collect(loopAt(p), loopAt(q));
        if (links.count == 0) {
            throw new NoSuchElementException("the loops have no dependence");
        }
        return links.greatest;
    }

    public boolean isAllowed(int first, int last) throws IndexOutOfBoundsException, IllegalArgumentException {
        checkPair(first, last);
        checkGroup(first, last);
        group.refresh();
        return group.longest(first) > last - first;
    }

    public int groupCount(int arrangement) throws IllegalArgumentException {
        return planOf(arrangement).total;
    }

    public int groupOf(int arrangement, int loop) throws IllegalArgumentException, IndexOutOfBoundsException {
        Plan plan = planOf(arrangement);
        checkLoop(loop);
        return plan.groupWith(loop);
    }

    public int shift(int arrangement, int loop) throws IllegalArgumentException, IndexOutOfBoundsException {
        Plan plan = planOf(arrangement);
        checkLoop(loop);
        plan.takeGroup(plan.groupWith(loop));
        return group.shifts[loop];
    }

    public int step(int arrangement, int group, int what)
            throws IllegalArgumentException, IndexOutOfBoundsException, NoSuchElementException {
        Plan plan = planOf(arrangement);
        if (what < 0 || what > 3) {
            throw new IllegalArgumentException("what is not from 0 to 3");
        }
        checkGroupOf(plan, group);
        plan.takeGroup(group);
        if (what < 2) {
            return what == 0 ? this.group.firstStep : this.group.lastStep;
        }
        if (!this.group.hasMainPart()) {
            throw new NoSuchElementException("the main part is empty");
        }
        return what == 2 ? this.group.mainFirst : this.group.mainLast;
    }

    public int peeled(int arrangement, int loop, int side) throws IllegalArgumentException, IndexOutOfBoundsException {
        Plan plan = planOf(arrangement);
        checkSide(side);
        Loop chosen = loopAt(loop);
        plan.takeGroup(plan.groupWith(loop));
        if (!group.hasMainPart()) {
            return side == 0 ? chosen.last - chosen.first + 1 : 0;
        }
        int shift = group.shifts[loop];
        return side == 0 ? group.mainFirst - (chosen.first + shift) : chosen.last + shift - group.mainLast;
    }

    public int carried(int arrangement, int group) throws IllegalArgumentException, IndexOutOfBoundsException {
        Plan plan = planOf(arrangement);
        checkGroupOf(plan, group);
        plan.takeGroup(group);
        return this.group.carriedDistance();
    }

    public int reads(int arrangement, int what) throws IllegalArgumentException {
        Plan plan = planOf(arrangement);
        if (what < 0 || what > 2) {
            throw new IllegalArgumentException("what is not from 0 to 2");
        }
        trace.begin(program.options[WINDOW]);
        for (int n = 0; n < plan.total; n++) {
            plan.takeGroup(n);
            trace.forget();
            group.perform(trace);
        }
        return what == 0 ? trace.reads : what == 1 ? trace.hits : trace.farthest;
    }

    public int hits(int first, int last) throws IndexOutOfBoundsException, IllegalArgumentException {
        checkPair(first, last);
        checkGroup(first, last);
        trace.begin(program.options[WINDOW]);
        group.refresh();
        group.take(first, last);
        group.perform(trace);
        return trace.hits;
    }

    public int run(int arrangement) throws IllegalArgumentException {
        Plan plan = planOf(arrangement);
        plan.execute();
        int h = 7;
        for (int place = 0; place < PLACES; place++) {
            h = 31 * h + plan.machine.cells[place];
        }
        return h;
    }

    public int cell(int arrangement, int array, int cell) throws IllegalArgumentException, IndexOutOfBoundsException {
        Plan plan = planOf(arrangement);
        if (array < 0 || array >= ARRAYS || cell < FIRST_CELL || cell >= FIRST_CELL + CELLS) {
            throw new IndexOutOfBoundsException("there is no such array or cell");
        }
        plan.execute();
        return plan.machine.cells[array * CELLS + cell - FIRST_CELL];
    }

    public int changed(int arrangement) throws IllegalArgumentException {
        Plan plan = planOf(arrangement);
        plan.execute();
        machine.begin(program.options[SEED]);
        int different = 0;
        for (int place = 0; place < PLACES; place++) {
            different += plan.machine.cells[place] == machine.cells[place] ? 0 : 1;
        }
        return different;
    }

    public void save() {
        snapshot.copyFrom(program);
        hasSnapshot = true;
    }

    public void restore() throws IllegalStateException {
        if (!hasSnapshot) {
            throw new IllegalStateException("there is no snapshot");
        }
        program.copyFrom(snapshot);
    }

    private void checkLoop(int loop) {
        if (!program.hasLoop(loop)) {
            throw new IndexOutOfBoundsException("there is no such loop");
        }
    }

    private void checkPair(int p, int q) {
        checkLoop(p);
        checkLoop(q);
    }

    private Loop loopAt(int loop) {
        checkLoop(loop);
        return program.loops[loop];
    }

    private Statement statementAt(int loop, int statement) {
        Body body = loopAt(loop).body;
        if (!body.hasStatement(statement)) {
            throw new IndexOutOfBoundsException("there is no such statement");
        }
        return body.statements[statement];
    }

    private void checkSide(int side) {
        if (side != 0 && side != 1) {
            throw new IllegalArgumentException("side is neither 0 nor 1");
        }
    }

    private void checkBefore(int p, int q) {
        if (p >= q) {
            throw new IllegalArgumentException("p is not before q");
        }
    }

    private void checkGroup(int first, int last) {
        if (last < first) {
            throw new IllegalArgumentException("last is before first");
        }
    }

    private void checkGroupOf(Plan plan, int number) {
        if (number < 0 || number >= plan.total) {
            throw new IndexOutOfBoundsException("there is no such group");
        }
    }

    private Plan planOf(int arrangement) {
        if (arrangement < 0 || arrangement >= ARRANGEMENTS) {
            throw new IllegalArgumentException("there is no such arrangement");
        }
        Plan plan = plans[arrangement];
        group.refresh();
        plan.make();
        return plan;
    }

    /** One assignment; its expression stands as postfix tokens in the body. */
    private static final class Statement {
        final int[] operators = new int[TIMES + 1];
        int firstToken;
        int endToken;
        int readTotal;
        int height;
        int target;
    }

    /**
     * The statements and references of a loop; never changed once a text is read, so that programs
     * may share it. A reference is held as the place of its cell for i = 0 in the row of all cells:
     * places of one array differ as the offsets do.
     */
    private static final class Body {
        final int[] places = new int[MOST_REFERENCES];
        final boolean[] writes = new boolean[MOST_REFERENCES];
        final int[] owners = new int[MOST_REFERENCES];
        final Statement[] statements = new Statement[MOST_STATEMENTS];
        final int[] kinds = new int[TEXT_LIMIT];
        final int[] details = new int[TEXT_LIMIT];
        int referenceTotal;
        int statementTotal;
        int tokenTotal;

        Body() {
            for (int n = 0; n < statements.length; n++) {
                statements[n] = new Statement();
            }
        }

        boolean hasStatement(int statement) {
            return statement >= 0 && statement < statementTotal && statement < MOST_STATEMENTS;
        }

        boolean hasReference(int reference) {
            return reference >= 0 && reference < referenceTotal && reference < MOST_REFERENCES;
        }

        /** The statement that is being read. */
        Statement open() {
            return statements[statementTotal < MOST_STATEMENTS ? statementTotal : MOST_STATEMENTS - 1];
        }

        void addReference(int place, boolean write) {
            if (referenceTotal < MOST_REFERENCES) {
                places[referenceTotal] = place;
                writes[referenceTotal] = write;
                owners[referenceTotal] = statementTotal;
                referenceTotal++;
            }
        }

        void addToken(int kind, int detail) {
            if (tokenTotal < TEXT_LIMIT) {
                kinds[tokenTotal] = kind;
                details[tokenTotal] = detail;
                tokenTotal++;
            }
        }

        void addRead(int place) {
            addReference(place, false);
            addToken(CONTENT, place);
            open().readTotal++;
        }

        void addOperator(int operator) {
            if (operator >= PLUS && operator <= TIMES) {
                addToken(operator, 0);
                open().operators[operator]++;
            }
        }

        void begin() {
            open().firstToken = tokenTotal;
        }

        void close(int target, int height) {
            Statement statement = open();
            statement.target = target;
            statement.height = height;
            statement.endToken = tokenTotal;
            addReference(target, true);
            statementTotal++;
        }
    }

    /** A loop of a program: its body, its bounds and its barrier. */
    private static final class Loop {
        Body body;
        int first;
        int last;
        boolean barrier;

        Loop(Body body) {
            this.body = body;
        }

        boolean hasIteration(int i) {
            return first <= i && i <= last;
        }

        void copyFrom(Loop other) {
            body = other.body;
            first = other.first;
            last = other.last;
            barrier = other.barrier;
        }
    }

    /** The loops and the options; the version tells plans whether they are still up to date. */
    private static final class Program {
        final Loop[] loops = new Loop[MOST_LOOPS];
        final int[] options = new int[OPTIONS];
        int count;
        int version;

        Program() {
            Body none = new Body();
            for (int n = 0; n < loops.length; n++) {
                loops[n] = new Loop(none);
            }
            options[LIMIT] = 9;
            options[WINDOW] = 3;
            options[SEED] = 1;
        }

        boolean hasLoop(int loop) {
            return loop >= 0 && loop < count && loop < MOST_LOOPS;
        }

        void add(Loop loop) {
            if (count < MOST_LOOPS) {
                loops[count].copyFrom(loop);
                count++;
                version++;
            }
        }

        void remove(int loop) {
            if (hasLoop(loop)) {
                for (int n = loop; n + 1 < count && n + 1 < MOST_LOOPS; n++) {
                    loops[n].copyFrom(loops[n + 1]);
                }
                count--;
                version++;
            }
        }

        void replaceBounds(int loop, int first, int last) {
            if (hasLoop(loop)) {
                loops[loop].first = first;
                loops[loop].last = last;
                version++;
            }
        }

        void replaceBarrier(int loop, boolean barrier) {
            if (hasLoop(loop)) {
                loops[loop].barrier = barrier;
                version++;
            }
        }

        void replaceOption(int option, int value) {
            if (option >= 0 && option < OPTIONS) {
                options[option] = value;
                version++;
            }
        }

        void copyFrom(Program other) {
            for (int n = 0; n < MOST_LOOPS; n++) {
                loops[n].copyFrom(other.loops[n]);
            }
            for (int n = 0; n < OPTIONS; n++) {
                options[n] = other.options[n];
            }
            count = other.count;
            version++;
        }
    }

    /**
     * The buffer and the reading of its text. Parsing methods stop at the first fault and answer
     * BAD or false then; the methods of an expression answer its height.
     */
    private static final class TextReader {
        final char[] signs = new char[TEXT_LIMIT];
        final Loop[] loops = new Loop[LOOPS_IN_TEXT];
        int length;
        int position;
        int found;
        int fault = NO_FAULT;

        TextReader() {
            Body none = new Body();
            for (int n = 0; n < loops.length; n++) {
                loops[n] = new Loop(none);
            }
        }

        void add(int sign) {
            if (sign != 0 && length < TEXT_LIMIT) {
                signs[length] = (char) sign;
                length++;
            }
        }

        void parse() {
            position = 0;
            found = 0;
            fault = NO_FAULT;
            boolean more = true;
            for (int n = 0; n < LOOPS_IN_TEXT && more; n++) {
                more = false;
                if (parseLoop(loops[n])) {
                    found++;
                    more = position < length;
                }
            }
            length = 0;
        }

        private boolean parseLoop(Loop loop) {
            Body body = new Body();
            loop.body = body;
            if (!expect("for(")) {
                return false;
            }
            loop.first = parseBound(0);
            if (loop.first == BAD || !expect(",")) {
                return false;
            }
            loop.last = parseBound(loop.first);
            if (loop.last == BAD || !expect("){")) {
                return false;
            }
            boolean more = true;
            for (int n = 1; n <= MOST_STATEMENTS && more; n++) {
                if (!parseStatement(body)) {
                    return false;
                }
                more = n < MOST_STATEMENTS && peek() == ';';
                position += more ? 1 : 0;
            }
            return expect("}");
        }

        private int parseBound(int least) {
            int start = position;
            int number = parseNumber();
            if (number != BAD && (number < least || number > MOST_INDEX)) {
                fault = start;
                return BAD;
            }
            return number;
        }

        private boolean parseStatement(Body body) {
            body.begin();
            int target = parseReference();
            if (target == BAD || !expect("=")) {
                return false;
            }
            int height = parseSum(body, 0);
            if (height == BAD) {
                return false;
            }
            body.close(target, height);
            return true;
        }

        private int parseSum(Body body, int open) {
            int height = parseProduct(body, open);
            for (int n = 0; n < TEXT_LIMIT && height != BAD && (peek() == '+' || peek() == '-'); n++) {
                int operator = peek() == '+' ? PLUS : MINUS;
                position++;
                height = join(body, operator, height, parseProduct(body, open));
            }
            return height;
        }

        private int parseProduct(Body body, int open) {
            int height = parseFactor(body, open);
            for (int n = 0; n < TEXT_LIMIT && height != BAD && peek() == '*'; n++) {
                position++;
                height = join(body, TIMES, height, parseFactor(body, open));
            }
            return height;
        }

        private static int join(Body body, int operator, int left, int right) {
            if (right == BAD) {
                return BAD;
            }
            body.addOperator(operator);
            return Math.max(left, right) + 1;
        }

        private int parseFactor(Body body, int open) {
            char sign = peek();
            if (isDigit(sign)) {
                body.addToken(NUMBER, parseNumber());
                return 1;
            }
            if (sign == 'i') {
                position++;
                body.addToken(INDEX, 0);
                return 1;
            }
            if (sign == '(' && open < MOST_OPEN) {
                position++;
                int height = parseSum(body, open + 1);
                return height != BAD && expect(")") ? height : BAD;
            }
            if (body.open().readTotal >= MOST_READS) {
                fault = position;
                return BAD;
            }
            int place = parseReference();
            if (place != BAD) {
                body.addRead(place);
            }
            return place == BAD ? BAD : 1;
        }

        /** Answers the place of the reference for i = 0. */
        private int parseReference() {
            int array = peek() - 'a';
            if (array < 0 || array >= ARRAYS) {
                fault = position;
                return BAD;
            }
            position++;
            if (!expect("[i")) {
                return BAD;
            }
            char sign = peek();
            int offset = 0;
            if (sign == '+' || sign == '-') {
                position++;
                if (!isDigit(peek())) {
                    fault = position;
                    return BAD;
                }
                offset = sign == '+' ? peek() - '0' : '0' - peek();
                position++;
            }
            return expect("]") ? array * CELLS + offset - FIRST_CELL : BAD;
        }

        private int parseNumber() {
            if (!isDigit(peek())) {
                fault = position;
                return BAD;
            }
            int number = peek() - '0';
            position++;
            if (number != 0 && isDigit(peek())) {
                number = 10 * number + peek() - '0';
                position++;
            }
            return number;
        }

        private boolean expect(String word) {
            for (int n = 0; n < word.length(); n++) {
                if (peek() != word.charAt(n)) {
                    fault = position;
                    return false;
                }
                position++;
            }
            return true;
        }

        private char peek() {
            return position >= 0 && position < length && position < TEXT_LIMIT ? signs[position] : END;
        }

        private static boolean isDigit(char sign) {
            return sign >= '0' && sign <= '9';
        }
    }

    /** The dependences of two loops; the rows are used again for the next two. */
    private static final class Links {
        final int[] arrays = new int[MOST_LINKS];
        final int[] kinds = new int[MOST_LINKS];
        final int[] shifts = new int[MOST_LINKS];
        int count;
        int greatest;

        void collect(Loop p, Loop q) {
            count = 0;
            greatest = NO_LINK;
            for (int u = 0; u < p.body.referenceTotal && u < MOST_REFERENCES; u++) {
                for (int v = 0; v < q.body.referenceTotal && v < MOST_REFERENCES; v++) {
                    boolean earlierWrites = p.body.writes[u];
                    boolean laterWrites = q.body.writes[v];
                    if ((earlierWrites || laterWrites) && meet(p, p.body.places[u], q, q.body.places[v])) {
                        int kind = !earlierWrites ? 1 : laterWrites ? 2 : 0;
                        add(kind, p.body.places[u], q.body.places[v]);
                    }
                }
            }
        }

        /** Whether references with these places for i = 0 refer to the same cell in some iterations. */
        private static boolean meet(Loop p, int from, Loop q, int to) {
            return from / CELLS == to / CELLS && p.first + from <= q.last + to && q.first + to <= p.last + from;
        }

        private void add(int kind, int from, int to) {
            if (count < MOST_LINKS) {
                arrays[count] = from / CELLS;
                kinds[count] = kind;
                shifts[count] = to - from;
                greatest = Math.max(greatest, shifts[count]);
                count++;
            }
        }
    }

    /** What is done in each iteration of a group. */
    private interface Worker {
        void iterate(int time, Body body, int i);
    }

    /** Consecutive loops fused into one group, with their shifts and time steps. */
    private static final class Group {
        final Program program;
        final Links links;
        final int[] shifts = new int[MOST_LOOPS];
        /** The greatest needed shift of each two loops, or NO_LINK. */
        final int[][] needs = new int[MOST_LOOPS][MOST_LOOPS];
        int neededFor = -1;
        int first;
        int last;
        int firstStep;
        int lastStep;
        int mainFirst;
        int mainLast;

        Group(Program program, Links links) {
            this.program = program;
            this.links = links;
        }

        /** Looks at the pairs of loops, once for all groups that are taken from the same program. */
        void refresh() {
            if (neededFor == program.version) {
                return;
            }
            for (int q = 0; q < program.count && q < MOST_LOOPS; q++) {
                for (int p = 0; p < q; p++) {
                    links.collect(program.loops[p], program.loops[q]);
                    needs[p][q] = links.greatest;
                }
            }
            neededFor = program.version;
        }

        void take(int first, int last) {
            this.first = Math.max(first, 0);
            this.last = Math.min(last, program.count - 1);
            for (int q = this.first; q <= this.last && q < MOST_LOOPS; q++) {
                shifts[q] = 0;
                for (int p = this.first; p < q; p++) {
                    shifts[q] = Math.max(shifts[q], shifts[p] + needs[p][q]);
                }
            }
            countSteps();
        }

        private void countSteps() {
            for (int n = first; n <= last && n < MOST_LOOPS; n++) {
                int begin = program.loops[n].first + shifts[n];
                int end = program.loops[n].last + shifts[n];
                firstStep = n == first ? begin : Math.min(firstStep, begin);
                lastStep = n == first ? end : Math.max(lastStep, end);
                mainFirst = n == first ? begin : Math.max(mainFirst, begin);
                mainLast = n == first ? end : Math.min(mainLast, end);
            }
        }

        boolean hasMainPart() {
            return mainFirst <= mainLast;
        }

        /**
         * The number of loops of the longest allowed group that begins with a loop. A shift does
         * not depend on later loops, so the shorter groups are allowed, and the longer ones are not.
         */
        int longest(int first) {
            take(first, program.count - 1);
            int size = 1;
            for (int n = this.first + 1; n <= last && n < MOST_LOOPS; n++) {
                if (program.loops[n].barrier || shifts[n] > program.options[LIMIT]) {
                    return size;
                }
                size++;
            }
            return size;
        }

        void perform(Worker worker) {
            for (int time = firstStep; time <= lastStep; time++) {
                for (int n = first; n <= last && n < MOST_LOOPS; n++) {
                    Loop loop = program.loops[n];
                    int i = time - shifts[n];
                    if (loop.hasIteration(i)) {
                        worker.iterate(time, loop.body, i);
                    }
                }
            }
        }

        /**
         * Two references of the same array meet in all their common cells with the same difference
         * of time steps, so that the pairs of references tell all differences.
         */
        int carriedDistance() {
            int least = 0;
            for (int p = first; p <= last && p < MOST_LOOPS; p++) {
                for (int q = first; q <= last && q < MOST_LOOPS; q++) {
                    links.collect(program.loops[p], program.loops[q]);
                    for (int n = 0; n < links.count; n++) {
                        int distance = shifts[q] - shifts[p] - links.shifts[n];
                        if (distance > 0 && (least == 0 || distance < least)) {
                            least = distance;
                        }
                    }
                }
            }
            return least;
        }
    }

    /** Counts the reads and hits of the groups that are performed with it. */
    private static final class Trace implements Worker {
        /** The latest time step of a reference to each place. */
        final int[] latest = new int[PLACES];
        int window;
        int reads;
        int hits;
        int farthest;

        void begin(int window) {
            this.window = window;
            reads = 0;
            hits = 0;
            farthest = 0;
            forget();
        }

        /** References made in other groups do not count. */
        void forget() {
            for (int place = 0; place < PLACES; place++) {
                latest[place] = NEVER;
            }
        }

        public void iterate(int time, Body body, int i) {
            for (int n = 0; n < body.referenceTotal && n < MOST_REFERENCES; n++) {
                int place = body.places[n] + i;
                if (place >= 0 && place < PLACES) {
                    int distance = time - latest[place];
                    latest[place] = time;
                    reads += body.writes[n] ? 0 : 1;
                    if (!body.writes[n] && distance <= window) {
                        hits++;
                        farthest = Math.max(farthest, distance);
                    }
                }
            }
        }
    }

    /** The cells of all arrays in one row, and the execution of statements on them. */
    private static final class Machine implements Worker {
        final int[] cells = new int[PLACES];
        final int[] stack = new int[STACK];

        void begin(int seed) {
            for (int place = 0; place < PLACES; place++) {
                cells[place] = (place / CELLS + 1) * seed + 7 * (place % CELLS + FIRST_CELL);
            }
        }

        public void iterate(int time, Body body, int i) {
            for (int n = 0; n < body.statementTotal && n < MOST_STATEMENTS; n++) {
                Statement statement = body.statements[n];
                int result = evaluate(body, statement, i);
                int place = statement.target + i;
                if (place >= 0 && place < PLACES) {
                    cells[place] = result;
                }
            }
        }

        int evaluate(Body body, Statement statement, int i) {
            int top = 0;
            int end = Math.min(statement.endToken, TEXT_LIMIT);
            for (int n = Math.max(statement.firstToken, 0); n < end; n++) {
                int kind = body.kinds[n];
                if (kind > TIMES && top < STACK) {
                    stack[top] = operand(kind, body.details[n], i);
                    top++;
                } else if (top >= 2 && top <= STACK) {
                    top--;
                    stack[top - 1] = apply(kind, stack[top - 1], stack[top]);
                }
            }
            return stack[0];
        }

        private int operand(int kind, int detail, int i) {
            if (kind == NUMBER) {
                return detail;
            }
            int place = detail + i;
            return kind == INDEX ? i : place >= 0 && place < PLACES ? cells[place] : 0;
        }

        private static int apply(int operator, int left, int right) {
            return operator == PLUS ? left + right : operator == MINUS ? left - right : left * right;
        }
    }

    /** An arrangement of the loops in groups, and the cells after its run. */
    private static final class Plan {
        final int kind;
        final Program program;
        final Group group;
        final Trace trace;
        final Machine machine = new Machine();
        /** The first loop of each group, and behind them the number of loops. */
        final int[] starts = new int[MOST_LOOPS + 1];
        /** For the loops from each one on: the best sum of hits, the groups for it, the first one's size. */
        final int[] bestHits = new int[MOST_LOOPS + 1];
        final int[] bestGroups = new int[MOST_LOOPS + 1];
        final int[] bestSizes = new int[MOST_LOOPS + 1];
        int total;
        int madeFor = -1;
        int executedFor = -1;

        Plan(int kind, Program program, Group group, Trace trace) {
            this.kind = kind;
            this.program = program;
            this.group = group;
            this.trace = trace;
        }

        void make() {
            if (madeFor == program.version) {
                return;
            }
            if (kind != EACH_ALONE && kind != LONGEST_FIRST) {
                weigh();
            }
            total = 0;
            int next = 0;
            for (int loop = 0; loop < program.count && loop < MOST_LOOPS; loop++) {
                if (loop == next) {
                    starts[total] = loop;
                    total++;
                    next = loop + sizeFrom(loop);
                }
            }
            starts[total] = program.count;
            madeFor = program.version;
        }

        private int sizeFrom(int first) {
            if (kind == EACH_ALONE) {
                return 1;
            }
            return kind == LONGEST_FIRST ? group.longest(first) : bestSizes[first];
        }

        /** Finds the best groups from the end: what is best behind a group does not depend on it. */
        private void weigh() {
            int count = Math.min(program.count, MOST_LOOPS);
            bestHits[count] = 0;
            bestGroups[count] = 0;
            for (int first = count - 1; first >= 0; first--) {
                bestSizes[first] = 0;
                // Longer groups come first, so that of equals the lexicographically greatest stays.
                for (int size = Math.min(group.longest(first), count - first); size >= 1; size--) {
                    group.take(first, first + size - 1);
                    trace.begin(program.options[WINDOW]);
                    group.perform(trace);
                    int hits = trace.hits + bestHits[first + size];
                    int groups = 1 + bestGroups[first + size];
                    if (bestSizes[first] == 0 || hits > bestHits[first]
                            || hits == bestHits[first] && groups < bestGroups[first]) {
                        bestHits[first] = hits;
                        bestGroups[first] = groups;
                        bestSizes[first] = size;
                    }
                }
            }
        }

        int groupWith(int loop) {
            int number = 0;
            for (int n = 1; n < total && n <= MOST_LOOPS; n++) {
                if (starts[n] <= loop) {
                    number = n;
                }
            }
            return number;
        }

        void takeGroup(int number) {
            if (number >= 0 && number < MOST_LOOPS) {
                group.take(starts[number], starts[number + 1] - 1);
            }
        }

        void execute() {
            if (executedFor == program.version) {
                return;
            }
            machine.begin(program.options[SEED]);
            for (int n = 0; n < total; n++) {
                takeGroup(n);
                group.perform(machine);
            }
            executedFor = program.version;
        }
    }
}
