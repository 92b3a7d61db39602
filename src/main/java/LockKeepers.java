/**
 * The book of a ship canal's lock keepers. Duties are read from a tape into one row of orders, and a
 * run does these orders on the canal.
 *
 * The orders are done by a machine with stacks of its own, not by calls within calls: twelve duties
 * under way with fourteen nests each would need more open Java calls than the program may have.
 */
public final class LockKeepers {
    public static final int NONE = -1;

    private static final int MOST_BYTES = 3000;
    private static final int BYTES_FED = 20;
    private static final int MOST_FUEL = 20000;
    private static final int ALL_FUEL = 200000;

    private final byte[] tape;
    private final Statements reader;
    private final Canal canal;
    private final Report report;
    private final Machine machine;
    private Book book;
    private int bytes;
    private int latestFault;
    private int latestPlace;

    public LockKeepers() {
        tape = new byte[MOST_BYTES];
        book = new Book(0);
        reader = new Statements(tape, book);
        canal = new Canal();
        report = new Report();
        machine = new Machine(canal, report, book);
        latestPlace = NONE;
    }

    public boolean feed(int a, int b, int c, int d, int e) {
        if (bytes + BYTES_FED > MOST_BYTES) {
            return false;
        }
        append(a);
        append(b);
        append(c);
        append(d);
        append(e);
        return true;
    }

    private void append(int four) {
        for (int shift = 24; shift >= 0; shift -= 8) {
            int sign = four >>> shift & 255;
            boolean plain = sign == 10 || sign >= 32 && sign <= 126;
            if (bytes >= 0 && bytes < tape.length) {
                tape[bytes] = (byte) (plain ? sign : 32);
                bytes++;
            }
        }
    }

    public boolean end(int n) {
        if (n < 0 || n > bytes) {
            return false;
        }
        bytes = n;
        return true;
    }

    public int read() {
        Book draft = new Book(bytes);
        reader.readText(draft, bytes);
        bytes = 0;
        latestFault = reader.faultKind();
        latestPlace = reader.faultPlace();
        if (latestFault == 0) {
            book = draft;
        }
        return latestFault;
    }

    public int fault(int what) {
        if (what == 0) {
            return latestFault;
        }
        return what == 1 ? latestPlace : NONE;
    }

    public int duty(int d, int what) {
        if (!hasBook()) {
            return NONE;
        }
        if (d == NONE) {
            return what == 0 ? book.duties : NONE;
        }
        return book.dutyFact(d, what);
    }

    /** A text has one duty at least, so a book without any is the one that stands for none. */
    private boolean hasBook() {
        return book.duties > 0;
    }

    public boolean fill(int r, int units) {
        return canal.fillReach(r, units);
    }

    public boolean chamber(int k, int units) {
        return canal.fillChamber(k, units);
    }

    public boolean berth(int s, int p) {
        return canal.layShip(s, p);
    }

    public int run(int d, int a, int b, int fuel) throws IllegalStateException, IllegalArgumentException {
        if (!hasBook() || report.get(Report.FUEL_OF_ALL) >= ALL_FUEL) {
            throw new IllegalStateException();
        }
        if (d < 0 || d >= book.duties || fuel < 0 || fuel > MOST_FUEL) {
            throw new IllegalArgumentException();
        }
        return machine.perform(book, d, a, b, fuel);
    }

    public int told(int what) {
        return report.get(what);
    }

    public int log(int i, int what) {
        return report.entry(i, what);
    }

    public int look(int what, int k) {
        return canal.fact(what, k);
    }

    /** The tokens of a text, one of them at hand, and the first fault (1 to 3) that a token has. */
    private static final class Tokens {
        static final int SAME = 256;
        static final int DIFFERENT = 257;
        static final int AT_MOST = 258;
        static final int NAME = 259;
        static final int NUMBER = 260;
        static final int TEXT_END = 261;
        static final int BAD = 262;
        /** Stands at hand once there is a fault: it fits nowhere, so all reading comes to its end. */
        static final int STOPPED = 263;

        static final int DUTY = 300;
        static final int VAR = 301;
        static final int NOTE = 302;
        static final int IF = 303;
        static final int ELSE = 304;
        static final int WHILE = 305;
        static final int EACH = 306;
        static final int FROM = 307;
        static final int TO = 308;
        static final int LEAVE = 309;
        static final int AGAIN = 310;
        static final int ANSWER = 311;
        static final int FAIL = 312;
        static final int HOLD = 313;
        static final int TRY = 314;
        static final int MEND = 315;
        static final int ANY = 316;
        static final int ALWAYS = 317;
        static final int LATER = 318;
        static final int STOP = 319;
        static final int ENSURE = 320;
        static final int REPEAT = 321;
        static final int UNTIL = 322;
        static final int CHOOSE = 323;
        static final int WHEN = 324;
        static final int OTHER = 325;
        static final int OR = 326;
        static final int AND = 327;
        static final int NOT = 328;
        static final int OPEN = 329;
        static final int SHUT = 330;
        static final int SLUICE = 331;
        static final int SAIL = 332;
        static final int LEVEL = 333;
        static final int REACH = 334;
        static final int GATE = 335;
        static final int SHIP = 336;
        static final int HELD = 337;
        static final int KIND = 338;
        static final int CAUSE = 339;

        private static final int FIRST_KEYWORD = 300;
        /** In the order of the numbers above. */
        private static final String KEYWORDS = "duty var note if else while each from to leave again answer fail hold try mend any always later stop ensure repeat until choose when other or and not open shut sluice sail level reach gate ship held kind cause ";
        private static final int KEYWORD_COUNT = 40;
        private static final String SIGNS = "(){},;:=<+-*/%";
        private static final int LONGEST_NAME = 8;
        private static final int LONGEST_NUMBER = 9;
        private static final int MOST_NESTS = 14;

        private final byte[] tape;
        private final long[] keywords;
        private int size;
        private int next;
        private int nests;
        int kind;
        int place;
        int number;
        /** A NAME's up to eight bytes, packed: two NAMES are the same if these are. */
        long name;
        int fault;
        int faultPlace;

        Tokens(byte[] tape) {
            this.tape = tape;
            keywords = new long[KEYWORD_COUNT];
            long packed = 0;
            int count = 0;
            for (int i = 0; i < KEYWORDS.length(); i++) {
                char sign = KEYWORDS.charAt(i);
                if (sign != ' ') {
                    packed = packed << 8 | sign;
                } else if (count < KEYWORD_COUNT) {
                    keywords[count] = packed;
                    count++;
                    packed = 0;
                }
            }
        }

        void start(int bytes) {
            size = Math.min(bytes, tape.length);
            next = 0;
            nests = 0;
            fault = 0;
            faultPlace = NONE;
            kind = TEXT_END;
            advance();
        }

        void advance() {
            if (kind == STOPPED) {
                return;
            }
            passBlanks();
            place = next;
            int sign = byteAt(next);
            if (next >= size) {
                kind = TEXT_END;
            } else if (isLetter(sign)) {
                takeWord();
            } else if (isDigit(sign)) {
                takeNumber();
            } else {
                takeSign(sign);
            }
        }

        private int byteAt(int i) {
            return i >= 0 && i < size && i < tape.length ? tape[i] : 0;
        }

        private void passBlanks() {
            boolean comment = false;
            while (next < size) {
                int sign = byteAt(next);
                if (sign == '#') {
                    comment = true;
                } else if (sign == 10) {
                    comment = false;
                } else if (sign != ' ' && !comment) {
                    return;
                }
                next++;
            }
        }

        private static boolean isLetter(int sign) {
            return sign >= 'a' && sign <= 'z';
        }

        private static boolean isDigit(int sign) {
            return sign >= '0' && sign <= '9';
        }

        private void takeWord() {
            long packed = 0;
            while (next < size && (isLetter(byteAt(next)) || isDigit(byteAt(next)))) {
                packed = packed << 8 | byteAt(next);
                next++;
            }
            if (next - place > LONGEST_NAME) {
                kind = BAD;
                return;
            }
            name = packed;
            kind = NAME;
            for (int i = 0; i < keywords.length; i++) {
                if (keywords[i] == packed) {
                    kind = FIRST_KEYWORD + i;
                    return;
                }
            }
        }

        private void takeNumber() {
            number = 0;
            while (next < size && isDigit(byteAt(next))) {
                number = number * 10 + byteAt(next) - '0';
                next++;
            }
            kind = next - place > LONGEST_NUMBER ? BAD : NUMBER;
        }

        private void takeSign(int sign) {
            next++;
            boolean withEqual = byteAt(next) == '=';
            if (withEqual && (sign == '=' || sign == '!' || sign == '<')) {
                next++;
                kind = sign == '=' ? SAME : sign == '!' ? DIFFERENT : AT_MOST;
            } else {
                kind = SIGNS.indexOf((char) sign) >= 0 ? sign : BAD;
            }
        }

        boolean isStopped() {
            return kind == STOPPED;
        }

        /** The token at hand can't stand where it is. */
        void refuse() {
            stopWith(kind == BAD ? 1 : 2);
        }

        private void stopWith(int newFault) {
            if (fault == 0) {
                fault = newFault;
                faultPlace = place;
            }
            kind = STOPPED;
        }

        void expect(int wanted) {
            if (kind == wanted) {
                advance();
            } else {
                refuse();
            }
        }

        /** The token at hand is wanted, and begins a NEST. */
        void expectNest(int wanted) {
            if (kind != wanted) {
                refuse();
            } else if (nests >= MOST_NESTS) {
                stopWith(3);
            } else {
                nests++;
                advance();
            }
        }

        void endNest() {
            nests--;
        }
    }

    /** What NAMES mean where they stand, and the first fault (4 to 8) that a NAME's meaning has. */
    private static final class Names {
        static final int MOST_DUTIES = 30;
        static final int MOST_PARAMETERS = 8;
        static final int MOST_VARIABLES = 24;
        /** "duty a(){}" has ten bytes: a text without token faults has no more DUTIES than this. */
        private static final int DUTIES_TOLD = MOST_BYTES / 10;
        /** A loop's BLOCK is a NEST, so fewer than this stand within one another. */
        private static final int MOST_LOOPS = 14;

        private final long[] dutyNames = new long[DUTIES_TOLD];
        private final int[] dutyParameters = new int[DUTIES_TOLD];
        private int dutyCount;
        private final long[] known = new long[MOST_VARIABLES];
        private final int[] knownSlots = new int[MOST_VARIABLES];
        private int knownCount;
        private int variables;
        private final long[] labels = new long[MOST_LOOPS];
        private final int[] loopRounds = new int[MOST_LOOPS];
        private int loopCount;
        private int firstAround;
        int fault;
        int faultPlace;

        void clear() {
            dutyCount = 0;
            fault = 0;
            faultPlace = NONE;
        }

        private void blame(int newFault, int place) {
            boolean earlier = place < faultPlace || place == faultPlace && newFault < fault;
            if (fault == 0 || earlier) {
                fault = newFault;
                faultPlace = place;
            }
        }

        void tellDuty(long name, int parameters) {
            if (dutyCount < DUTIES_TOLD) {
                dutyNames[dutyCount] = name;
                dutyParameters[dutyCount] = parameters;
                dutyCount++;
            }
        }

        private int dutyNamed(long name) {
            for (int d = 0; d < dutyCount && d < DUTIES_TOLD; d++) {
                if (dutyNames[d] == name) {
                    return d;
                }
            }
            return NONE;
        }

        void beginDuty(int d, long name, int place) {
            knownCount = 0;
            variables = 0;
            loopCount = 0;
            firstAround = 0;
            int first = dutyNamed(name);
            if (first != NONE && first < d) {
                blame(4, place);
            }
            if (d >= MOST_DUTIES) {
                blame(8, place);
            }
        }

        /** Which DUTY a CALL means. */
        int callee(long name, int place, int arguments) {
            int d = dutyNamed(name);
            if (d < 0 || d >= DUTIES_TOLD) {
                blame(5, place);
                return 0;
            }
            if (dutyParameters[d] != arguments) {
                blame(7, place);
            }
            return d;
        }

        void tellParameter(long name, int place) {
            if (variables >= MOST_PARAMETERS) {
                blame(8, place);
            }
            tellVariable(name, place);
        }

        /**
         * A variable that is one too many is not kept: all that could ask for it comes behind it, and so
         * behind the fault that is blamed here.
         */
        int tellVariable(long name, int place) {
            if (findVariable(name) != NONE) {
                blame(4, place);
            }
            int slot = variables;
            variables++;
            if (slot >= MOST_VARIABLES) {
                blame(8, place);
            } else if (knownCount < MOST_VARIABLES) {
                known[knownCount] = name;
                knownSlots[knownCount] = slot;
                knownCount++;
            }
            return slot;
        }

        private int findVariable(long name) {
            for (int i = 0; i < knownCount && i < MOST_VARIABLES; i++) {
                if (known[i] == name) {
                    return knownSlots[i];
                }
            }
            return NONE;
        }

        int slotOf(long name, int place) {
            int slot = findVariable(name);
            if (slot == NONE) {
                blame(5, place);
            }
            return slot;
        }

        int variableCount() {
            return variables;
        }

        int knownNow() {
            return knownCount;
        }

        void forgetBehind(int count) {
            knownCount = count;
        }

        void tellLabel(long label, int place) {
            if (findLoop(label) != NONE) {
                blame(4, place);
            }
        }

        /** Label 0 is that of a loop without one: no NAME packs to it. */
        void enterLoop(long label, int round) {
            if (loopCount < MOST_LOOPS) {
                labels[loopCount] = label;
                loopRounds[loopCount] = round;
            }
            loopCount++;
        }

        void leaveLoop() {
            loopCount--;
        }

        private int findLoop(long label) {
            for (int i = Math.min(loopCount, MOST_LOOPS) - 1; i >= firstAround; i--) {
                if (labels[i] == label) {
                    return i;
                }
            }
            return NONE;
        }

        int loopLabelled(long label, int place) {
            int loop = findLoop(label);
            if (loop == NONE) {
                blame(5, place);
            }
            return loop;
        }

        int innermostLoop(int place) {
            if (loopCount > firstAround) {
                return loopCount - 1;
            }
            blame(6, place);
            return NONE;
        }

        int roundOf(int loop) {
            return loop >= 0 && loop < MOST_LOOPS ? loopRounds[loop] : 0;
        }

        int loopsNow() {
            return loopCount;
        }

        int enterLater() {
            int outside = firstAround;
            firstAround = loopCount;
            return outside;
        }

        void leaveLater(int outside) {
            firstAround = outside;
        }
    }

    /** DUTIES, and the row of orders that they were read into. */
    private static final class Book {
        static final int PUSH = 1;
        static final int LOAD = 2;
        static final int KIND = 3;
        static final int CAUSE = 4;
        static final int NEGATE = 5;
        static final int NOT = 6;
        static final int TRUTH = 7;
        static final int LAST_SINGLE = 7;

        static final int ADD = 8;
        static final int SUBTRACT = 9;
        static final int MULTIPLY = 10;
        static final int DIVIDE = 11;
        static final int REST = 12;
        static final int SAME = 13;
        static final int DIFFERENT = 14;
        static final int LESS = 15;
        static final int AT_MOST = 16;
        static final int LAST_PAIR = 16;

        static final int LEVEL = 17;
        static final int REACH = 18;
        static final int GATE = 19;
        static final int SHIP = 20;
        static final int HELD = 21;
        static final int LAST_QUERY = 21;

        static final int JUMP = 22;
        /** Jumps if the value is 0. */
        static final int UNLESS = 23;
        /** Jumps with 1 if the value is not 0, which settles an or. */
        static final int OR = 24;
        /** Jumps with 0 if the value is 0, which settles an and. */
        static final int AND = 25;
        static final int DROP = 26;
        static final int STORE = 27;
        /** Jumps, without the choose's number, if the value is that number. */
        static final int MATCH = 28;
        /** Jumps if the value is the kind of the trouble for which mends are asked. */
        static final int MEND = 29;
        /** A STATEMENT begins, or a while is asked: 1 FUEL, and troubles have this place from here on. */
        static final int SPEND_AT = 30;
        static final int PLACE = 31;
        static final int SPEND = 32;
        static final int EACH = 33;
        static final int STEP = 34;
        static final int LAST_FLOW = 34;

        static final int NOTE = 35;
        static final int OPEN = 36;
        static final int SHUT = 37;
        static final int SLUICE = 38;
        static final int SAIL = 39;
        static final int LEAVE = 40;
        static final int AGAIN = 41;
        static final int ANSWER = 42;
        static final int FAIL = 43;
        static final int STOP = 44;
        static final int LAST_ORDER = 44;

        static final int HOLD = 45;
        static final int ROUND = 46;
        static final int TRY = 47;
        static final int MENDED = 48;
        static final int UNMENDED = 49;
        static final int ENSURE = 50;
        static final int ENSURED = 51;
        static final int LATER = 52;
        static final int CALL = 53;
        static final int END = 54;

        /** Where the numbers of a ROUND, TRY, ENSURE or LATER stand behind it. */
        static final int PLACE_OF = 1;
        /** A ROUND's next one, a TRY's mends (0 if there are none), an ENSURE's BLOCK. */
        static final int BRANCH_OF = 2;
        static final int EXIT_OF = 3;
        /** A ROUND's or TRY's, 0 if there is none. */
        static final int ALWAYS_OF = 4;
        static final int PART_LENGTH = 5;

        private static final int FACTS = 5;
        private static final int PARAMETERS = 0;
        private static final int VARIABLES = 1;
        private static final int NAME_PLACE = 2;
        private static final int WAYS = 3;
        private static final int ENTRY = 4;

        private final int[] code;
        private int size;
        private final int[] facts;
        int duties;

        /** No STATEMENT and no E is read into more than two numbers a byte. */
        Book(int bytes) {
            code = new int[bytes > 0 ? 2 * bytes + 16 : 0];
            facts = new int[bytes > 0 ? FACTS * Names.MOST_DUTIES : 0];
        }

        int size() {
            return size;
        }

        int add(int number) {
            int at = size;
            if (at >= 0 && at < code.length) {
                code[at] = number;
                size++;
            }
            return at;
        }

        int add(int op, int operand) {
            int at = add(op);
            add(operand);
            return at;
        }

        /** A part's order, whose other numbers are set when they are known. */
        int addPart(int op, int place) {
            int at = add(op, place);
            add(0);
            add(0);
            add(0);
            return at;
        }

        void set(int at, int number) {
            if (at >= 0 && at < code.length) {
                code[at] = number;
            }
        }

        int get(int at) {
            return at >= 0 && at < size && at < code.length ? code[at] : STOP;
        }

        /** Jumps to one target that is not known yet are a chain, each naming the one before it. */
        void setChain(int last, int target) {
            int at = last;
            for (int i = 0; i < code.length && at > 0 && at < code.length; i++) {
                int before = code[at];
                code[at] = target;
                at = before;
            }
        }

        void addDuty(int d, int place) {
            duties = d + 1;
            setFact(d, NAME_PLACE, place);
            setFact(d, ENTRY, size);
        }

        void setCounts(int d, int parameters, int variables) {
            setFact(d, PARAMETERS, parameters);
            setFact(d, VARIABLES, variables);
        }

        void setWays(int d, int ways) {
            setFact(d, WAYS, ways);
        }

        private void setFact(int d, int fact, int number) {
            int at = FACTS * d + fact;
            if (d >= 0 && d < Names.MOST_DUTIES && at < facts.length) {
                facts[at] = number;
            }
        }

        private int fact(int d, int fact) {
            int at = FACTS * d + fact;
            return d >= 0 && d < duties && at >= 0 && at < facts.length ? facts[at] : NONE;
        }

        int dutyFact(int d, int what) {
            return what >= PARAMETERS && what <= WAYS ? fact(d, what) : NONE;
        }

        int parameters(int d) {
            return fact(d, PARAMETERS);
        }

        int entry(int d) {
            return fact(d, ENTRY);
        }
    }

    /** Reads E's. What a reading method answers is the E's nature: whether it MAY fail. */
    private static final class Expressions {
        static final int FAILS = 1;
        /** A NUMBER above 0, by which one may part without asking. */
        private static final int COUNT = 2;

        private final Tokens tokens;
        private final Names names;
        private Book book;

        Expressions(Tokens tokens, Names names, Book book) {
            this.tokens = tokens;
            this.names = names;
            this.book = book;
        }

        void writeTo(Book draft) {
            book = draft;
        }

        int whole() {
            int nature = conjunction();
            for (int i = 0; i < MOST_BYTES && tokens.kind == Tokens.OR; i++) {
                tokens.advance();
                int jump = book.add(Book.OR, 0);
                nature = (nature | conjunction()) & FAILS;
                endJoined(jump);
            }
            return nature;
        }

        private int conjunction() {
            int nature = negation();
            for (int i = 0; i < MOST_BYTES && tokens.kind == Tokens.AND; i++) {
                tokens.advance();
                int jump = book.add(Book.AND, 0);
                nature = (nature | negation()) & FAILS;
                endJoined(jump);
            }
            return nature;
        }

        private void endJoined(int jump) {
            book.add(Book.TRUTH);
            book.set(jump + 1, book.size());
        }

        private int negation() {
            if (tokens.kind != Tokens.NOT) {
                return test();
            }
            tokens.expectNest(Tokens.NOT);
            int nature = tokens.isStopped() ? 0 : negation() & FAILS;
            tokens.endNest();
            book.add(Book.NOT);
            return nature;
        }

        private int test() {
            int nature = sum();
            int op = comparison(tokens.kind);
            if (op != NONE) {
                tokens.advance();
                nature = (nature | sum()) & FAILS;
                book.add(op);
            }
            return nature;
        }

        private static int comparison(int kind) {
            switch (kind) {
                case Tokens.SAME: return Book.SAME;
                case Tokens.DIFFERENT: return Book.DIFFERENT;
                case '<': return Book.LESS;
                case Tokens.AT_MOST: return Book.AT_MOST;
                default: return NONE;
            }
        }

        private int sum() {
            int nature = product();
            for (int i = 0; i < MOST_BYTES && (tokens.kind == '+' || tokens.kind == '-'); i++) {
                int op = tokens.kind == '+' ? Book.ADD : Book.SUBTRACT;
                tokens.advance();
                nature = (nature | product()) & FAILS;
                book.add(op);
            }
            return nature;
        }

        private int product() {
            int nature = unit();
            for (int i = 0; i < MOST_BYTES && factor(tokens.kind) != NONE; i++) {
                int op = factor(tokens.kind);
                tokens.advance();
                int right = unit();
                boolean parts = op != Book.MULTIPLY && right != COUNT;
                nature = parts ? FAILS : (nature | right) & FAILS;
                book.add(op);
            }
            return nature;
        }

        private static int factor(int kind) {
            switch (kind) {
                case '*': return Book.MULTIPLY;
                case '/': return Book.DIVIDE;
                case '%': return Book.REST;
                default: return NONE;
            }
        }

        private int unit() {
            switch (tokens.kind) {
                case '-': return negative();
                case '(': return inBrackets();
                case Tokens.NUMBER: return number();
                case Tokens.NAME: return nameOrCall();
                case Tokens.LEVEL: return query(Book.LEVEL, 1);
                case Tokens.REACH: return query(Book.REACH, 1);
                case Tokens.GATE: return query(Book.GATE, 2);
                case Tokens.SHIP: return query(Book.SHIP, 1);
                case Tokens.HELD: return query(Book.HELD, 1);
                case Tokens.KIND: return register(Book.KIND);
                case Tokens.CAUSE: return register(Book.CAUSE);
                default:
                    tokens.refuse();
                    return 0;
            }
        }

        private int negative() {
            tokens.expectNest('-');
            int nature = tokens.isStopped() ? 0 : unit() & FAILS;
            tokens.endNest();
            book.add(Book.NEGATE);
            return nature;
        }

        private int inBrackets() {
            tokens.expectNest('(');
            int nature = tokens.isStopped() ? 0 : whole();
            tokens.endNest();
            tokens.expect(')');
            return nature;
        }

        private int number() {
            int number = tokens.number;
            tokens.advance();
            book.add(Book.PUSH, number);
            return number > 0 ? COUNT : 0;
        }

        private int nameOrCall() {
            long name = tokens.name;
            int place = tokens.place;
            tokens.advance();
            if (tokens.kind == '(') {
                callOf(name, place);
                return FAILS;
            }
            book.add(Book.LOAD, names.slotOf(name, place));
            return 0;
        }

        /** The ( of the CALL is at hand. */
        void callOf(long name, int place) {
            tokens.expectNest('(');
            int arguments = 0;
            if (tokens.kind != ')' && !tokens.isStopped()) {
                whole();
                arguments++;
                for (int i = 0; i < MOST_BYTES && tokens.kind == ','; i++) {
                    tokens.advance();
                    whole();
                    arguments++;
                }
            }
            tokens.endNest();
            tokens.expect(')');
            book.add(Book.CALL, names.callee(name, place, arguments));
        }

        private int query(int op, int arguments) {
            tokens.advance();
            tokens.expectNest('(');
            for (int i = 0; i < arguments && !tokens.isStopped(); i++) {
                if (i > 0) {
                    tokens.expect(',');
                }
                whole();
            }
            tokens.endNest();
            tokens.expect(')');
            book.add(op);
            return FAILS;
        }

        private int register(int op) {
            tokens.advance();
            book.add(op);
            return 0;
        }
    }

    /** Reads DUTIES and STATEMENTS. What a reading method answers is the WAYS by which it MAY be left. */
    private static final class Statements {
        private final Tokens tokens;
        private final Names names;
        private final Expressions expressions;
        private Book book;
        private int laterWays;

        Statements(byte[] tape, Book none) {
            tokens = new Tokens(tape);
            names = new Names();
            book = none;
            expressions = new Expressions(tokens, names, none);
        }

        int faultKind() {
            return tokens.fault != 0 ? tokens.fault : names.fault;
        }

        int faultPlace() {
            return tokens.fault != 0 ? tokens.faultPlace : names.faultPlace;
        }

        void readText(Book draft, int bytes) {
            book = draft;
            expressions.writeTo(draft);
            names.clear();
            tokens.start(bytes);
            collectDuties();
            tokens.start(bytes);
            readDuty(0);
            for (int d = 1; d <= MOST_BYTES && tokens.kind == Tokens.DUTY; d++) {
                readDuty(d);
            }
            if (tokens.kind != Tokens.TEXT_END) {
                tokens.refuse();
            }
        }

        /** DUTIES are known everywhere, so they are looked for ahead of all reading. */
        private void collectDuties() {
            for (int i = 0; i <= MOST_BYTES && tokens.kind != Tokens.TEXT_END; i++) {
                if (tokens.kind == Tokens.DUTY) {
                    collectDuty();
                } else {
                    tokens.advance();
                }
            }
        }

        private void collectDuty() {
            tokens.advance();
            if (tokens.kind != Tokens.NAME) {
                return;
            }
            long name = tokens.name;
            tokens.advance();
            int parameters = 0;
            for (int i = 0; i < MOST_BYTES && isHeadToken(tokens.kind); i++) {
                if (tokens.kind == Tokens.NAME) {
                    parameters++;
                }
                tokens.advance();
            }
            names.tellDuty(name, parameters);
        }

        private static boolean isHeadToken(int kind) {
            return kind == '(' || kind == ',' || kind == Tokens.NAME;
        }

        private void readDuty(int d) {
            tokens.expect(Tokens.DUTY);
            long name = tokens.name;
            int place = tokens.place;
            tokens.expect(Tokens.NAME);
            if (tokens.isStopped()) {
                return;
            }
            names.beginDuty(d, name, place);
            book.addDuty(d, place);
            tokens.expect('(');
            if (tokens.kind != ')') {
                readParameters();
            }
            tokens.expect(')');
            int parameters = names.variableCount();
            laterWays = 0;
            int ways = block();
            book.add(Book.END);
            book.setCounts(d, parameters, names.variableCount());
            book.setWays(d, ways | laterWays);
        }

        private void readParameters() {
            for (int i = 0; i < MOST_BYTES; i++) {
                long name = tokens.name;
                int place = tokens.place;
                tokens.expect(Tokens.NAME);
                if (!tokens.isStopped()) {
                    names.tellParameter(name, place);
                }
                if (tokens.kind != ',') {
                    break;
                }
                tokens.advance();
            }
        }

        private int block() {
            tokens.expectNest('{');
            int knownAhead = names.knownNow();
            int ways = Way.END;
            for (int i = 0; i < MOST_BYTES && tokens.kind != '}' && !tokens.isStopped(); i++) {
                int more = statement();
                if ((ways & Way.END) != 0) {
                    ways = ways & ~Way.END | more;
                }
            }
            names.forgetBehind(knownAhead);
            tokens.endNest();
            tokens.expect('}');
            return ways;
        }

        private int statement() {
            if (tokens.kind == '{') {
                return block();
            }
            int place = tokens.place;
            book.add(Book.SPEND_AT, place);
            switch (tokens.kind) {
                case Tokens.NAME: return named(place);
                case Tokens.VAR: return variable();
                case Tokens.NOTE: return order(Book.NOTE, 1, Way.END);
                case Tokens.OPEN: return order(Book.OPEN, 2, Way.END | Way.TROUBLE);
                case Tokens.SHUT: return order(Book.SHUT, 2, Way.END | Way.TROUBLE);
                case Tokens.SLUICE: return order(Book.SLUICE, 3, Way.END | Way.TROUBLE);
                case Tokens.SAIL: return order(Book.SAIL, 2, Way.END | Way.TROUBLE);
                case Tokens.FAIL: return order(Book.FAIL, 1, Way.TROUBLE);
                case Tokens.ANSWER: return answer();
                case Tokens.LEAVE: return leaveOrAgain(Book.LEAVE);
                case Tokens.AGAIN: return leaveOrAgain(Book.AGAIN);
                case Tokens.STOP: return stop();
                case Tokens.IF: return ifElse();
                case Tokens.CHOOSE: return choose();
                case Tokens.WHILE:
                case Tokens.EACH:
                case Tokens.REPEAT: return loop(0, place);
                case Tokens.HOLD: return hold();
                case Tokens.ENSURE: return ensure(place);
                case Tokens.TRY: return trial(place);
                case Tokens.LATER: return later(place);
                default:
                    tokens.refuse();
                    return 0;
            }
        }

        private static int troubleOf(int nature) {
            return (nature & Expressions.FAILS) != 0 ? Way.TROUBLE : 0;
        }

        private int named(int place) {
            long name = tokens.name;
            tokens.advance();
            switch (tokens.kind) {
                case '=':
                    return assign(names.slotOf(name, place));
                case '(':
                    expressions.callOf(name, place);
                    book.add(Book.DROP, 1);
                    tokens.expect(';');
                    return Way.END | Way.TROUBLE;
                case ':':
                    names.tellLabel(name, place);
                    tokens.advance();
                    return loop(name, place);
                default:
                    tokens.refuse();
                    return 0;
            }
        }

        private int assign(int slot) {
            tokens.advance();
            int nature = expressions.whole();
            book.add(Book.STORE, slot);
            tokens.expect(';');
            return Way.END | troubleOf(nature);
        }

        private int variable() {
            tokens.advance();
            long name = tokens.name;
            int place = tokens.place;
            tokens.expect(Tokens.NAME);
            tokens.expect('=');
            int nature = expressions.whole();
            if (!tokens.isStopped()) {
                book.add(Book.STORE, names.tellVariable(name, place));
            }
            tokens.expect(';');
            return Way.END | troubleOf(nature);
        }

        private int order(int op, int arguments, int ways) {
            tokens.advance();
            int nature = expressions.whole();
            for (int i = 1; i < arguments; i++) {
                tokens.expect(',');
                nature |= expressions.whole();
            }
            book.add(op);
            tokens.expect(';');
            return ways | troubleOf(nature);
        }

        private int answer() {
            tokens.advance();
            int nature = 0;
            if (tokens.kind == ';') {
                book.add(Book.PUSH, 0);
            } else {
                nature = expressions.whole();
            }
            book.add(Book.ANSWER);
            tokens.expect(';');
            return Way.ANSWER | troubleOf(nature);
        }

        private int leaveOrAgain(int op) {
            int place = tokens.place;
            tokens.advance();
            int loop;
            if (tokens.kind == Tokens.NAME) {
                loop = names.loopLabelled(tokens.name, tokens.place);
                tokens.advance();
            } else {
                loop = names.innermostLoop(place);
            }
            book.add(op, names.roundOf(loop));
            tokens.expect(';');
            return op == Book.LEAVE ? Way.leaveOf(loop) : Way.againOf(loop);
        }

        private int stop() {
            tokens.advance();
            book.add(Book.STOP);
            tokens.expect(';');
            return 0;
        }

        private int ifElse() {
            tokens.advance();
            int trouble = troubleOf(expressions.whole());
            int skip = book.add(Book.UNLESS, 0);
            int ways = block();
            if (tokens.kind != Tokens.ELSE) {
                book.set(skip + 1, book.size());
                return ways | Way.END | trouble;
            }
            tokens.advance();
            int exit = book.add(Book.JUMP, 0);
            book.set(skip + 1, book.size());
            ways |= block();
            book.set(exit + 1, book.size());
            return ways | trouble;
        }

        /** A LIST of E's, each with an order behind it that jumps if it is the number asked for. */
        private int list(int op) {
            int nature = 0;
            int chain = 0;
            for (int i = 0; i < MOST_BYTES; i++) {
                nature |= expressions.whole();
                chain = book.add(op, chain) + 1;
                if (tokens.kind != ',') {
                    break;
                }
                tokens.advance();
            }
            int skip = book.add(Book.JUMP, 0);
            book.setChain(chain, skip + 2);
            return nature;
        }

        private int choose() {
            tokens.advance();
            int trouble = troubleOf(expressions.whole());
            tokens.expectNest('{');
            int ways = 0;
            int exits = 0;
            boolean settled = false;
            for (int i = 0; i < MOST_BYTES && tokens.kind == Tokens.WHEN; i++) {
                tokens.advance();
                boolean any = tokens.kind == Tokens.ANY;
                int nature = any ? dropForAny() : list(Book.MATCH);
                int skip = any ? NONE : book.size() - 1;
                int more = block();
                exits = book.add(Book.JUMP, exits) + 1;
                book.set(skip, book.size());
                ways |= settled ? 0 : more | troubleOf(nature);
                settled |= any;
            }
            book.add(Book.DROP, 1);
            if (tokens.kind == Tokens.OTHER) {
                tokens.advance();
                int more = block();
                ways |= settled ? 0 : more;
                settled = true;
            }
            book.setChain(exits, book.size());
            tokens.endNest();
            tokens.expect('}');
            return ways | trouble | (settled ? 0 : Way.END);
        }

        private int dropForAny() {
            tokens.advance();
            book.add(Book.DROP, 1);
            return 0;
        }

        private int loop(long label, int place) {
            switch (tokens.kind) {
                case Tokens.WHILE: return whileLoop(label, place);
                case Tokens.EACH: return eachLoop(label, place);
                case Tokens.REPEAT: return repeatLoop(label, place);
                default:
                    tokens.refuse();
                    return 0;
            }
        }

        private int whileLoop(long label, int place) {
            tokens.advance();
            int ask = book.add(Book.SPEND_AT, place);
            int trouble = troubleOf(expressions.whole());
            int skip = book.add(Book.UNLESS, 0);
            int at = book.addPart(Book.ROUND, place);
            int round = round(label, at);
            book.set(skip + 1, book.size());
            setRound(at, ask, book.size());
            return round & ~ownWays() & ~Way.END | Way.END | trouble;
        }

        private int eachLoop(long label, int place) {
            tokens.advance();
            long name = tokens.name;
            int namePlace = tokens.place;
            tokens.expect(Tokens.NAME);
            tokens.expect(Tokens.FROM);
            int nature = expressions.whole();
            tokens.expect(Tokens.TO);
            nature |= expressions.whole();
            int knownAhead = names.knownNow();
            int slot = tokens.isStopped() ? 0 : names.tellVariable(name, namePlace);
            int head = book.add(Book.EACH, slot);
            int exit = book.add(0);
            int at = book.addPart(Book.ROUND, place);
            int round = round(label, at);
            names.forgetBehind(knownAhead);
            int step = book.add(Book.STEP, head);
            book.set(exit, book.size());
            setRound(at, step, book.size());
            book.add(Book.DROP, 2);
            return round & ~ownWays() & ~Way.END | Way.END | troubleOf(nature);
        }

        private int repeatLoop(long label, int place) {
            tokens.advance();
            int first = book.add(Book.SPEND);
            int at = book.addPart(Book.ROUND, place);
            int round = round(label, at);
            int own = ownWays();
            int again = Way.againOf(names.loopsNow());
            tokens.expect(Tokens.UNTIL);
            int ask = book.add(Book.PLACE, place);
            int trouble = troubleOf(expressions.whole());
            book.add(Book.UNLESS, first);
            setRound(at, ask, book.size());
            tokens.expect(';');
            int ways = round & ~own & ~Way.END;
            if ((round & (Way.END | again)) != 0) {
                ways |= trouble;
            }
            return (round & (Way.END | own)) != 0 ? ways | Way.END : ways;
        }

        private void setRound(int at, int next, int exit) {
            book.set(at + Book.BRANCH_OF, next);
            book.set(at + Book.EXIT_OF, exit);
        }

        /** LEAVE and AGAIN of the loop that was read last and stands around no more. */
        private int ownWays() {
            return Way.leaveOf(names.loopsNow()) | Way.againOf(names.loopsNow());
        }

        private int round(long label, int at) {
            names.enterLoop(label, at);
            int ways = block();
            book.add(Book.END);
            ways = alwaysPart(at, ways);
            names.leaveLoop();
            return ways;
        }

        private int alwaysPart(int at, int ahead) {
            if (tokens.kind != Tokens.ALWAYS) {
                return ahead;
            }
            tokens.advance();
            book.set(at + Book.ALWAYS_OF, book.size());
            int ways = block();
            book.add(Book.END);
            if (ahead == 0) {
                return 0;
            }
            return (ways & Way.END) != 0 ? ways & ~Way.END | ahead : ways;
        }

        private int hold() {
            tokens.advance();
            expressions.whole();
            book.add(Book.HOLD);
            int ways = block();
            book.add(Book.END);
            return ways | Way.TROUBLE;
        }

        private int ensure(int place) {
            tokens.advance();
            int at = book.addPart(Book.ENSURE, place);
            expressions.whole();
            book.add(Book.ENSURED);
            book.set(at + Book.BRANCH_OF, book.size());
            int ways = block();
            book.add(Book.END);
            book.set(at + Book.EXIT_OF, book.size());
            return ways == 0 ? 0 : ways | Way.TROUBLE;
        }

        private int trial(int place) {
            tokens.advance();
            int at = book.addPart(Book.TRY, place);
            int ways = block();
            book.add(Book.END);
            if (tokens.kind == Tokens.MEND) {
                ways = mends(at, ways);
            } else if (tokens.kind != Tokens.ALWAYS) {
                tokens.refuse();
            }
            ways = alwaysPart(at, ways);
            book.set(at + Book.EXIT_OF, book.size());
            return ways;
        }

        private int mends(int at, int tried) {
            book.set(at + Book.BRANCH_OF, book.size());
            int stays = 0;
            int mended = 0;
            boolean settled = false;
            for (int i = 0; i < MOST_BYTES && tokens.kind == Tokens.MEND; i++) {
                tokens.advance();
                boolean any = tokens.kind == Tokens.ANY;
                if (any) {
                    tokens.advance();
                }
                int nature = any ? 0 : list(Book.MEND);
                int skip = any ? NONE : book.size() - 1;
                book.add(Book.MENDED);
                int more = block();
                book.add(Book.END);
                book.set(skip, book.size());
                mended |= settled ? 0 : more;
                stays |= settled ? 0 : troubleOf(nature);
                settled |= any;
            }
            book.add(Book.UNMENDED);
            if ((tried & Way.TROUBLE) == 0) {
                return tried;
            }
            return tried & ~Way.TROUBLE | mended | stays | (settled ? 0 : Way.TROUBLE);
        }

        private int later(int place) {
            tokens.advance();
            int at = book.addPart(Book.LATER, place);
            int outside = names.enterLater();
            int ways = block();
            laterWays |= ways & (Way.ANSWER | Way.TROUBLE);
            names.leaveLater(outside);
            book.add(Book.END);
            book.set(at + Book.EXIT_OF, book.size());
            return Way.END | Way.TROUBLE;
        }
    }

    /** Locks, gates, reaches and ships. */
    private static final class Canal {
        private static final int LOCKS = 6;
        private static final int REACHES = 7;
        private static final int SHIPS = 8;
        private static final int LAST_PLACE = 12;
        private static final int MOST_IN_REACH = 100000;
        private static final int MOST_IN_CHAMBER = 10000;
        private static final int MOST_SLUICED = 1000;

        private final int[] chambers = new int[LOCKS];
        private final int[] reaches = new int[REACHES];
        /** Gate 2 k + s is that of lock k's side s, and stands between places 2 k + s and the next one. */
        private final int[] gates = new int[2 * LOCKS];
        private final int[] holds = new int[LOCKS];
        private final int[] ships = new int[SHIPS];

        private static boolean isLock(int k) {
            return k >= 0 && k < LOCKS;
        }

        private static boolean isReach(int r) {
            return r >= 0 && r < REACHES;
        }

        private static boolean isShip(int s) {
            return s >= 0 && s < SHIPS;
        }

        private static boolean isGate(int k, int s) {
            return k >= 0 && k < LOCKS && (s == 0 || s == 1);
        }

        boolean fillReach(int r, int units) {
            if (!isReach(r) || units < 0 || units > MOST_IN_REACH) {
                return false;
            }
            reaches[r] = units;
            return true;
        }

        boolean fillChamber(int k, int units) {
            if (!isLock(k) || units < 0 || units > MOST_IN_CHAMBER || gateOf(k, 0) == 1 || gateOf(k, 1) == 1) {
                return false;
            }
            chambers[k] = units;
            return true;
        }

        boolean layShip(int s, int place) {
            if (!isShip(s) || place < 0 || place > LAST_PLACE || isTaken(place, s)) {
                return false;
            }
            ships[s] = place;
            return true;
        }

        /** Whether it is a chamber in which there is another ship. */
        private boolean isTaken(int place, int ship) {
            if (place % 2 == 0) {
                return false;
            }
            for (int s = 0; s < SHIPS; s++) {
                if (s != ship && ships[s] == place) {
                    return true;
                }
            }
            return false;
        }

        int fact(int what, int k) {
            switch (what) {
                case 0: return levelOf(k);
                case 1: return gateOf(k, 0);
                case 2: return gateOf(k, 1);
                case 3: return holdsOf(k);
                case 4: return isReach(k) ? reaches[k] : NONE;
                case 5: return placeOf(k);
                case 6: return allWater();
                default: return NONE;
            }
        }

        private int allWater() {
            int sum = 0;
            for (int k = 0; k < LOCKS; k++) {
                sum += chambers[k];
            }
            for (int r = 0; r < REACHES; r++) {
                sum += reaches[r];
            }
            return sum;
        }

        int levelOf(int k) {
            return isLock(k) ? chambers[k] : NONE;
        }

        int reachLevelOf(int r) {
            return isReach(r) ? reaches[r] / 10 : NONE;
        }

        int gateOf(int k, int s) {
            return isGate(k, s) ? gates[2 * k + s] : NONE;
        }

        int holdsOf(int k) {
            return isLock(k) ? holds[k] : NONE;
        }

        int placeOf(int s) {
            return isShip(s) ? ships[s] : NONE;
        }

        /** The number of HOLDS that the lock has then. */
        int addHold(int k, int more) {
            if (!isLock(k)) {
                return NONE;
            }
            holds[k] += more;
            return holds[k];
        }

        void dropHolds() {
            for (int k = 0; k < LOCKS; k++) {
                holds[k] = 0;
            }
        }

        /** The kind of trouble with which the order is refused, 0 if it is not. */
        int troubleToShut(int k, int s) {
            if (!isGate(k, s)) {
                return 3;
            }
            return holds[k] == 0 ? 4 : 0;
        }

        int troubleToOpen(int k, int s) {
            int trouble = troubleToShut(k, s);
            if (trouble != 0) {
                return trouble;
            }
            if (gateOf(k, 1 - s) == 1) {
                return 6;
            }
            int higher = headOf(k, s);
            return higher > 1 || higher < -1 ? 5 : 0;
        }

        int troubleToSluice(int k, int s, int units) {
            if (units < 0 || units > MOST_SLUICED) {
                return 3;
            }
            int trouble = troubleToShut(k, s);
            if (trouble != 0) {
                return trouble;
            }
            return gateOf(k, 1 - s) == 1 ? 6 : 0;
        }

        int troubleToSail(int s, int up) {
            if (!isShip(s) || up != 0 && up != 1) {
                return 3;
            }
            int to = placeBeyond(ships[s], up);
            int gate = Math.min(to, ships[s]);
            if (gate < 0 || gate >= gates.length) {
                return 9;
            }
            if (holdsOf(gate / 2) == 0) {
                return 4;
            }
            if (gates[gate] == 0) {
                return 7;
            }
            return isTaken(to, s) ? 8 : 0;
        }

        private static int placeBeyond(int place, int up) {
            return up == 1 ? place + 1 : place - 1;
        }

        void setGate(int k, int s, int open) {
            if (isGate(k, s)) {
                gates[2 * k + s] = open;
            }
        }

        /** The place at which the ship is then. */
        int moveShip(int s, int up) {
            if (!isShip(s)) {
                return NONE;
            }
            ships[s] = placeBeyond(ships[s], up);
            return ships[s];
        }

        /** By how much the chamber's level is above that of the side's reach. */
        int headOf(int k, int s) {
            return isLock(k) && isReach(k + s) ? chambers[k] - reaches[k + s] / 10 : 0;
        }

        /** One unit out of the chamber (head above 0) or into it. */
        void moveUnit(int k, int s, int head) {
            int unit = head > 0 ? 1 : -1;
            if (isLock(k) && isReach(k + s)) {
                chambers[k] -= unit;
                reaches[k + s] += unit;
            }
        }
    }

    /** What is told of the latest run: its counts, by their numbers in told(), and its LOG. */
    private static final class Report {
        static final int OUTCOME = 0;
        static final int ANSWER = 1;
        static final int KIND = 2;
        static final int CAUSE = 3;
        static final int PLACE = 4;
        static final int FUEL_LEFT = 5;
        static final int HOLDS_TAKEN = 6;
        static final int HOLDS_LET_GO = 7;
        static final int WITH_ALWAYS = 8;
        static final int ALWAYS_BEGUN = 9;
        static final int LATERS_PLEDGED = 10;
        static final int LATERS_BEGUN = 11;
        static final int TROUBLES = 12;
        static final int MENDED = 13;
        static final int LOST = 14;
        static final int CALLS = 15;
        static final int ENTRIES = 16;
        static final int FUEL_OF_ALL = 17;
        static final int WAY = 18;
        private static final int COUNTS = 19;

        static final int NOTED = 0;
        static final int HELD = 1;
        static final int FREED = 2;
        static final int OPENED = 3;
        static final int SHUT = 4;
        static final int SLUICED = 5;
        static final int SAILED = 6;
        static final int TROUBLE_CAME = 7;
        static final int TROUBLE_MENDED = 8;
        static final int TROUBLE_LOST = 9;
        static final int LATER_BEGAN = 10;
        static final int ALWAYS_BEGAN = 11;
        private static final int MOST_KEPT = 300;

        private final int[] counts = new int[COUNTS];
        private final int[] sorts = new int[MOST_KEPT];
        private final int[] numbers = new int[MOST_KEPT];

        Report() {
            counts[OUTCOME] = NONE;
            counts[PLACE] = NONE;
        }

        void clear() {
            for (int i = 0; i < COUNTS; i++) {
                if (i != FUEL_OF_ALL) {
                    counts[i] = 0;
                }
            }
            counts[PLACE] = NONE;
        }

        int get(int what) {
            return what >= 0 && what < COUNTS ? counts[what] : NONE;
        }

        void set(int what, int number) {
            if (what >= 0 && what < COUNTS) {
                counts[what] = number;
            }
        }

        void count(int what) {
            if (what >= 0 && what < COUNTS) {
                counts[what]++;
            }
        }

        void write(int sort, int number) {
            int at = counts[ENTRIES];
            if (at >= 0 && at < MOST_KEPT) {
                sorts[at] = sort;
                numbers[at] = number;
            }
            counts[ENTRIES]++;
        }

        int entry(int i, int what) {
            if (i < 0 || i >= counts[ENTRIES] || i >= MOST_KEPT) {
                return NONE;
            }
            if (what == 0) {
                return sorts[i];
            }
            return what == 1 ? numbers[i] : NONE;
        }
    }

    /** How something is left, or GOING while nothing is being left. */
    private static final class Way {
        static final int GOING = 0;
        static final int END = 1;
        static final int ANSWER = 2;
        static final int TROUBLE = 4;
        static final int LEAVE = 8;
        static final int AGAIN = 16;

        int sort;
        /** An ANSWER's number, a TROUBLE's kind, or which loop's ROUND. */
        int number;
        int cause;
        int place;

        void become(int newSort, int newNumber) {
            sort = newSort;
            number = newNumber;
        }

        void copy(Way other) {
            sort = other.sort;
            number = other.number;
            cause = other.cause;
            place = other.place;
        }

        /** In a set of WAYS that MAY come each loop around has bits of its own for LEAVE and AGAIN. */
        static int leaveOf(int loop) {
            return loop >= 0 ? LEAVE << 2 * loop : 0;
        }

        static int againOf(int loop) {
            return loop >= 0 ? AGAIN << 2 * loop : 0;
        }
    }

    /** A call under way: its variables, the laters that are pledged to it, what it mended latest. */
    private static final class Frame {
        static final int MOST_LATERS = 40;

        private final int[] slots = new int[Names.MOST_VARIABLES];
        private final int[] laters = new int[MOST_LATERS];
        private int waiting;
        int kind;
        int cause;

        void clear() {
            for (int i = 0; i < slots.length; i++) {
                slots[i] = 0;
            }
            waiting = 0;
            kind = 0;
            cause = 0;
        }

        int get(int slot) {
            return slot >= 0 && slot < slots.length ? slots[slot] : 0;
        }

        void set(int slot, int number) {
            if (slot >= 0 && slot < slots.length) {
                slots[slot] = number;
            }
        }

        boolean pledge(int at) {
            if (waiting < 0 || waiting >= laters.length) {
                return false;
            }
            laters[waiting] = at;
            waiting++;
            return true;
        }

        boolean hasLater() {
            return waiting > 0 && waiting <= laters.length;
        }

        int takeLater() {
            if (!hasLater()) {
                return 0;
            }
            waiting--;
            return laters[waiting];
        }
    }

    /** Something under way that has work due when it is left: a call, hold, ROUND, try or ensure. */
    private static final class Part {
        /** Its own BLOCK is done. */
        static final int BODY = 0;
        /** The E's of mends, or that of an ensure, are worked. */
        static final int ASKED = 1;
        static final int MENDING = 2;
        /** An always part or a later is done. */
        static final int LAST = 3;

        int op;
        int phase;
        /** Where its order stands in the book. */
        int at;
        /** How many values there were when it began. */
        int height;
        int lock;
        int returnTo;
        int returnPlace;
        /** What the machine was WITHIN when the part began, and is again when what is due is done. */
        int outerWithin;
        /** The WAY that waits till what is due is done. */
        final Way kept = new Way();
    }

    /** Does a book's orders. */
    private static final class Machine {
        private static final int MOST_CALLS = 12;
        /** A call has a part for each NEST at most. */
        private static final int MOST_PARTS = MOST_CALLS * 14;
        /** In a call each NEST has ten values waiting at most: seven arguments and three left sides. */
        private static final int MOST_VALUES = MOST_CALLS * 14 * 10;
        /** 20000 FUEL times all orders of the longest text, with room to spare. */
        private static final int MOST_STEPS = 1000000000;
        private static final int UNDER_WAY = -1;
        private static final int ANSWERED = 0;
        private static final int STOPPED = 1;
        private static final int OUT_OF_FUEL = 2;
        private static final int TROUBLED = 3;
        private static final int DEEP = 2;
        private static final int NO_SUCH = 3;
        private static final int BY_ENSURE = 10;

        private final Canal canal;
        private final Report report;
        private final int[] values = new int[MOST_VALUES];
        private int height;
        private final Frame[] frames = new Frame[MOST_CALLS];
        private int calls;
        private final Part[] parts = new Part[MOST_PARTS];
        private int partCount;
        private final Way way = new Way();
        private Book book;
        private int next;
        private int place;
        private int within;
        private int fuel;
        private int outcome;

        Machine(Canal canal, Report report, Book none) {
            this.canal = canal;
            this.report = report;
            book = none;
            for (int i = 0; i < MOST_CALLS; i++) {
                frames[i] = new Frame();
            }
            for (int i = 0; i < MOST_PARTS; i++) {
                parts[i] = new Part();
            }
        }

        int perform(Book orders, int d, int a, int b, int fuelGiven) {
            book = orders;
            report.clear();
            height = 0;
            calls = 0;
            partCount = 0;
            within = 0;
            place = 0;
            fuel = fuelGiven;
            outcome = UNDER_WAY;
            way.become(Way.GOING, 0);
            for (int i = 0; i < book.parameters(d); i++) {
                push(i == 0 ? a : i == 1 ? b : 0);
            }
            call(d);
            for (int i = 0; i < MOST_STEPS && outcome == UNDER_WAY; i++) {
                if (way.sort == Way.GOING) {
                    step();
                } else {
                    leaveTop();
                }
            }
            tellEnd(fuelGiven);
            return outcome;
        }

        private void tellEnd(int fuelGiven) {
            report.set(Report.OUTCOME, outcome);
            report.set(Report.FUEL_LEFT, fuel);
            report.set(Report.FUEL_OF_ALL, report.get(Report.FUEL_OF_ALL) + fuelGiven - fuel);
            if (outcome == ANSWERED) {
                report.set(Report.ANSWER, way.sort == Way.ANSWER ? way.number : 0);
                report.set(Report.WAY, way.sort);
            } else if (outcome == TROUBLED) {
                report.set(Report.KIND, way.number);
                report.set(Report.CAUSE, way.cause);
                report.set(Report.PLACE, way.place);
                report.set(Report.WAY, way.sort);
            } else {
                canal.dropHolds();
            }
        }

        private void step() {
            int op = take();
            if (op <= Book.LAST_SINGLE) {
                workSingle(op);
            } else if (op <= Book.LAST_PAIR) {
                workPair(op);
            } else if (op <= Book.LAST_QUERY) {
                workQuery(op);
            } else if (op <= Book.LAST_FLOW) {
                flow(op);
            } else if (op <= Book.LAST_ORDER) {
                order(op);
            } else {
                beginOrEnd(op);
            }
        }

        private int take() {
            int number = book.get(next);
            next++;
            return number;
        }

        private void push(int value) {
            if (height >= 0 && height < values.length) {
                values[height] = value;
                height++;
            }
        }

        private int pop() {
            if (height <= 0 || height > values.length) {
                return 0;
            }
            height--;
            return values[height];
        }

        /** The value so deep under the latest one. */
        private int peek(int depth) {
            int at = height - 1 - depth;
            return at >= 0 && at < values.length ? values[at] : 0;
        }

        private Frame frame() {
            return frames[calls > 0 && calls <= frames.length ? calls - 1 : 0];
        }

        private Part top() {
            return parts[partCount > 0 && partCount <= parts.length ? partCount - 1 : 0];
        }

        private Part begin(int op, int at) {
            if (partCount < parts.length) {
                partCount++;
            }
            Part part = top();
            part.op = op;
            part.phase = Part.BODY;
            part.at = at;
            part.height = height;
            part.outerWithin = within;
            return part;
        }

        private boolean spend() {
            if (fuel <= 0) {
                outcome = OUT_OF_FUEL;
                return false;
            }
            fuel--;
            return true;
        }

        private void trouble(int kind) {
            report.count(Report.TROUBLES);
            report.write(Report.TROUBLE_CAME, kind);
            way.become(Way.TROUBLE, kind);
            way.cause = within;
            way.place = place;
        }

        private void workSingle(int op) {
            switch (op) {
                case Book.PUSH: push(take()); break;
                case Book.LOAD: push(frame().get(take())); break;
                case Book.KIND: push(frame().kind); break;
                case Book.CAUSE: push(frame().cause); break;
                case Book.NEGATE: push(-pop()); break;
                case Book.NOT: push(pop() == 0 ? 1 : 0); break;
                default: push(pop() != 0 ? 1 : 0); break;
            }
        }

        private void workPair(int op) {
            int right = pop();
            int left = pop();
            switch (op) {
                case Book.ADD: push(left + right); break;
                case Book.SUBTRACT: push(left - right); break;
                case Book.MULTIPLY: push(left * right); break;
                case Book.SAME: push(left == right ? 1 : 0); break;
                case Book.DIFFERENT: push(left != right ? 1 : 0); break;
                case Book.LESS: push(left < right ? 1 : 0); break;
                case Book.AT_MOST: push(left <= right ? 1 : 0); break;
                default: divide(op, left, right); break;
            }
        }

        private void divide(int op, int left, int right) {
            if (right == 0) {
                trouble(1);
            } else {
                push(op == Book.DIVIDE ? left / right : left % right);
            }
        }

        private void workQuery(int op) {
            int last = pop();
            int found;
            switch (op) {
                case Book.LEVEL: found = canal.levelOf(last); break;
                case Book.REACH: found = canal.reachLevelOf(last); break;
                case Book.GATE: found = canal.gateOf(pop(), last); break;
                case Book.SHIP: found = canal.placeOf(last); break;
                default: found = canal.holdsOf(last); break;
            }
            if (found == NONE) {
                trouble(NO_SUCH);
            } else {
                push(found);
            }
        }

        private void flow(int op) {
            int operand = op == Book.SPEND ? 0 : take();
            switch (op) {
                case Book.JUMP: next = operand; break;
                case Book.UNLESS: jumpIf(pop() == 0, operand); break;
                case Book.OR: settle(peek(0) != 0, operand); break;
                case Book.AND: settle(peek(0) == 0, operand); break;
                case Book.DROP: height = Math.max(height - operand, 0); break;
                case Book.STORE: frame().set(operand, pop()); break;
                case Book.MATCH: match(pop(), operand); break;
                case Book.MEND: jumpIf(pop() == top().kept.number, operand); break;
                case Book.SPEND_AT:
                    if (spend()) {
                        place = operand;
                    }
                    break;
                case Book.PLACE: place = operand; break;
                case Book.SPEND: spend(); break;
                case Book.EACH: beginRoundOfEach(operand, take()); break;
                default: stepEach(operand); break;
            }
        }

        private void jumpIf(boolean condition, int target) {
            if (condition) {
                next = target;
            }
        }

        /** An or's or and's left side: if it settles all, its truth is the value. */
        private void settle(boolean settled, int target) {
            int left = pop();
            if (settled) {
                push(left != 0 ? 1 : 0);
                next = target;
            }
        }

        private void match(int value, int target) {
            if (value == peek(0)) {
                pop();
                next = target;
            }
        }

        private void beginRoundOfEach(int slot, int exit) {
            if (peek(1) > peek(0)) {
                next = exit;
            } else if (spend()) {
                frame().set(slot, peek(1));
            }
        }

        private void stepEach(int head) {
            int last = pop();
            int now = pop();
            push(now == last ? now : now + 1);
            push(last);
            jumpIf(now != last, head);
        }

        private void order(int op) {
            switch (op) {
                case Book.NOTE: report.write(Report.NOTED, pop()); break;
                case Book.OPEN:
                case Book.SHUT: moveGate(op); break;
                case Book.SLUICE: sluice(); break;
                case Book.SAIL: sail(); break;
                case Book.LEAVE: way.become(Way.LEAVE, take()); break;
                case Book.AGAIN: way.become(Way.AGAIN, take()); break;
                case Book.ANSWER: way.become(Way.ANSWER, pop()); break;
                case Book.FAIL: fail(pop()); break;
                default: outcome = STOPPED; break;
            }
        }

        private void fail(int kind) {
            trouble(kind >= 10 && kind <= 99 ? kind : 10);
        }

        private void moveGate(int op) {
            int s = pop();
            int k = pop();
            boolean opens = op == Book.OPEN;
            int kind = opens ? canal.troubleToOpen(k, s) : canal.troubleToShut(k, s);
            if (kind != 0) {
                trouble(kind);
                return;
            }
            canal.setGate(k, s, opens ? 1 : 0);
            report.write(opens ? Report.OPENED : Report.SHUT, 2 * k + s);
        }

        private void sluice() {
            int most = pop();
            int s = pop();
            int k = pop();
            int kind = canal.troubleToSluice(k, s, most);
            if (kind != 0) {
                trouble(kind);
                return;
            }
            boolean out = canal.headOf(k, s) > 0;
            int went = 0;
            while (went < most) {
                int head = canal.headOf(k, s);
                boolean higher = out ? head > 0 : head < 0;
                if (!higher || !spend()) {
                    break;
                }
                canal.moveUnit(k, s, head);
                went++;
            }
            report.write(Report.SLUICED, 10000 * (2 * k + s) + went);
        }

        private void sail() {
            int up = pop();
            int s = pop();
            int kind = canal.troubleToSail(s, up);
            if (kind != 0) {
                trouble(kind);
                return;
            }
            report.write(Report.SAILED, 16 * s + canal.moveShip(s, up));
        }

        private void beginOrEnd(int op) {
            int at = next - 1;
            switch (op) {
                case Book.HOLD: hold(pop(), at); break;
                case Book.ROUND:
                case Book.TRY:
                    begin(op, at);
                    if (book.get(at + Book.ALWAYS_OF) != 0) {
                        report.count(Report.WITH_ALWAYS);
                    }
                    next = at + Book.PART_LENGTH;
                    break;
                case Book.MENDED: mended(top()); break;
                case Book.ENSURE:
                    begin(op, at);
                    next = book.get(at + Book.BRANCH_OF);
                    break;
                case Book.ENSURED: ensured(pop()); break;
                case Book.LATER: pledge(at); break;
                case Book.CALL: call(take()); break;
                default: way.become(Way.END, 0); break;
            }
        }

        private void hold(int k, int at) {
            int holds = canal.addHold(k, 1);
            if (holds == NONE) {
                trouble(NO_SUCH);
                return;
            }
            report.count(Report.HOLDS_TAKEN);
            if (holds == 1) {
                report.write(Report.HELD, k);
            }
            begin(Book.HOLD, at).lock = k;
        }

        /** It stays WITHIN the trouble, as it was while its mends were asked. */
        private void mended(Part part) {
            report.count(Report.MENDED);
            report.write(Report.TROUBLE_MENDED, part.kept.number);
            frame().kind = part.kept.number;
            frame().cause = part.kept.cause;
            part.phase = Part.MENDING;
        }

        private void ensured(int value) {
            if (value == 0) {
                trouble(BY_ENSURE);
            } else {
                way.become(Way.END, 0);
            }
        }

        private void pledge(int at) {
            if (!frame().pledge(at)) {
                trouble(DEEP);
                return;
            }
            report.count(Report.LATERS_PLEDGED);
            next = book.get(at + Book.EXIT_OF);
        }

        private void call(int d) {
            if (!spend()) {
                return;
            }
            if (calls >= MOST_CALLS) {
                trouble(DEEP);
                return;
            }
            report.count(Report.CALLS);
            calls++;
            Frame frame = frame();
            frame.clear();
            for (int i = book.parameters(d) - 1; i >= 0; i--) {
                frame.set(i, pop());
            }
            Part part = begin(Book.CALL, 0);
            part.returnTo = next;
            part.returnPlace = place;
            next = book.entry(d);
        }

        private void leaveTop() {
            Part part = top();
            switch (part.op) {
                case Book.HOLD: leaveHold(part); break;
                case Book.ROUND: leaveRound(part); break;
                case Book.TRY: leaveTry(part); break;
                case Book.ENSURE: leaveEnsure(part); break;
                default: leaveCall(part); break;
            }
        }

        /** The WAY waits, while something is done that may take its place. */
        private void keepWay(Part part, int phase, int target) {
            part.kept.copy(way);
            part.phase = phase;
            if (way.sort == Way.TROUBLE) {
                within = way.number;
            }
            goOn(part, target);
        }

        /** What was done while a WAY waited is left: its own WAY takes the place, unless it is the END. */
        private void takeWayBack(Part part) {
            within = part.outerWithin;
            if (way.sort == Way.END) {
                way.copy(part.kept);
            } else if (part.kept.sort == Way.TROUBLE) {
                report.count(Report.LOST);
                report.write(Report.TROUBLE_LOST, part.kept.number);
            }
        }

        private void goOn(Part part, int target) {
            height = part.height;
            way.sort = Way.GOING;
            next = target;
        }

        private void leave(Part part, int exit) {
            partCount--;
            if (way.sort == Way.END) {
                goOn(part, exit);
            }
        }

        private void leaveHold(Part part) {
            report.count(Report.HOLDS_LET_GO);
            if (canal.addHold(part.lock, -1) == 0) {
                report.write(Report.FREED, part.lock);
            }
            leave(part, next);
        }

        /** Whether there is an always part that is still to be done, which begins then. */
        private boolean beginAlways(Part part) {
            int always = book.get(part.at + Book.ALWAYS_OF);
            if (always == 0 || part.phase == Part.LAST) {
                return false;
            }
            report.count(Report.ALWAYS_BEGUN);
            report.write(Report.ALWAYS_BEGAN, book.get(part.at + Book.PLACE_OF));
            keepWay(part, Part.LAST, always);
            return true;
        }

        private void leaveRound(Part part) {
            if (beginAlways(part)) {
                return;
            }
            if (part.phase == Part.LAST) {
                takeWayBack(part);
            }
            boolean own = way.number == part.at;
            if (way.sort == Way.AGAIN && own) {
                way.become(Way.END, 0);
            }
            if (way.sort == Way.LEAVE && own) {
                way.become(Way.END, 0);
                leave(part, book.get(part.at + Book.EXIT_OF));
            } else {
                leave(part, book.get(part.at + Book.BRANCH_OF));
            }
        }

        private void leaveTry(Part part) {
            int mends = book.get(part.at + Book.BRANCH_OF);
            if (part.phase == Part.BODY && way.sort == Way.TROUBLE && mends != 0) {
                place = book.get(part.at + Book.PLACE_OF);
                keepWay(part, Part.ASKED, mends);
                return;
            }
            if (part.phase == Part.MENDING) {
                within = part.outerWithin;
            } else if (part.phase != Part.BODY) {
                takeWayBack(part);
            }
            if (!beginAlways(part)) {
                leave(part, book.get(part.at + Book.EXIT_OF));
            }
        }

        private void leaveEnsure(Part part) {
            if (part.phase == Part.ASKED) {
                takeWayBack(part);
                leave(part, book.get(part.at + Book.EXIT_OF));
            } else if (spend()) {
                place = book.get(part.at + Book.PLACE_OF);
                keepWay(part, Part.ASKED, part.at + Book.PART_LENGTH);
            }
        }

        private void leaveCall(Part part) {
            if (part.phase == Part.LAST) {
                takeWayBack(part);
            }
            if (frame().hasLater()) {
                int later = frame().takeLater();
                report.count(Report.LATERS_BEGUN);
                report.write(Report.LATER_BEGAN, book.get(later + Book.PLACE_OF));
                keepWay(part, Part.LAST, later + Book.PART_LENGTH);
            } else {
                endCall(part);
            }
        }

        private void endCall(Part part) {
            partCount--;
            calls--;
            boolean troubled = way.sort == Way.TROUBLE;
            if (partCount <= 0) {
                outcome = troubled ? TROUBLED : ANSWERED;
            } else if (!troubled) {
                int answer = way.sort == Way.ANSWER ? way.number : 0;
                goOn(part, part.returnTo);
                place = part.returnPlace;
                push(answer);
            }
        }
    }
}
