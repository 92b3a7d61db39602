import java.util.ArrayDeque;
import java.util.ArrayList;
import java.util.Arrays;
import java.util.HashMap;
import java.util.HashSet;
import java.util.List;
import java.util.Map;
import java.util.Set;

/**
 * The document's face a second time, written in another way (a tree, walked by calls within calls,
 * with the whole Java library), so that the two can be compared on texts that nobody thought of.
 */
final class Oracle {
    private static final Set<String> KEYWORDS = new HashSet<>(Arrays.asList(("duty var note if else while each from "
            + "to leave again answer fail hold try mend any always later stop ensure repeat until choose when other "
            + "or and not open shut sluice sail level reach gate ship held kind cause").split(" ")));

    private static final class Fault extends Exception {
        private static final long serialVersionUID = 1L;
        final int kind;
        final int place;

        Fault(int kind, int place) {
            this.kind = kind;
            this.place = place;
        }
    }

    /** sort: n NAME, d NUMBER, k keyword, s sign, e the end, x none. */
    private record Token(char sort, String text, int place) { }

    private static final class Node {
        String op;
        int place;
        String name;
        int namePlace;
        int value;
        boolean any;
        Node body;
        Node always;
        Node other;
        Node until;
        Node meaning;
        final List<Node> es = new ArrayList<>();
        final List<Node> parts = new ArrayList<>();

        Node(String op, int place) {
            this.op = op;
            this.place = place;
        }
    }

    private static final class Duty {
        String name;
        int place;
        final List<Node> parameters = new ArrayList<>();
        Node block;
        int variables;
        int ways;
    }

    // ---- reading

    private List<Token> tokens;
    private int at;
    private int nests;

    private static List<Token> tokensOf(String text) {
        List<Token> found = new ArrayList<>();
        int i = 0;
        while (i < text.length()) {
            char c = text.charAt(i);
            if (c == ' ' || c == '\n') {
                i++;
            } else if (c == '#') {
                while (i < text.length() && text.charAt(i) != '\n') {
                    i++;
                }
            } else {
                Token token = tokenAt(text, i);
                found.add(token);
                i += token.text.length();
            }
        }
        found.add(new Token('e', "", text.length()));
        return found;
    }

    private static Token tokenAt(String text, int i) {
        String rest = text.substring(i);
        String word = rest.replaceFirst("(?s)^([a-z][a-z0-9]*|[0-9]+|==|!=|<=|[(){},;:=<+*/%-])?.*$", "$1");
        if (word.isEmpty()) {
            return new Token('x', rest.substring(0, 1), i);
        }
        char c = word.charAt(0);
        if (c >= 'a' && c <= 'z') {
            return new Token(word.length() > 8 ? 'x' : KEYWORDS.contains(word) ? 'k' : 'n', word, i);
        }
        if (c >= '0' && c <= '9') {
            return new Token(word.length() > 9 ? 'x' : 'd', word, i);
        }
        return new Token('s', word, i);
    }

    private Token now() {
        return tokens.get(at);
    }

    private boolean is(String text) {
        Token t = now();
        return (t.sort == 'k' || t.sort == 's') && t.text.equals(text);
    }

    private Fault misfit() {
        return new Fault(now().sort == 'x' ? 1 : 2, now().place);
    }

    private void want(String text) throws Fault {
        if (!is(text)) {
            throw misfit();
        }
        at++;
    }

    private boolean passed(String text) {
        if (is(text)) {
            at++;
            return true;
        }
        return false;
    }

    private Token wantName() throws Fault {
        if (now().sort != 'n') {
            throw misfit();
        }
        return tokens.get(at++);
    }

    private void nest(String text) throws Fault {
        if (!is(text)) {
            throw misfit();
        }
        if (nests == 14) {
            throw new Fault(3, now().place);
        }
        nests++;
        at++;
    }

    private List<Duty> text() throws Fault {
        List<Duty> duties = new ArrayList<>();
        do {
            duties.add(dutyOf());
        } while (now().sort != 'e');
        return duties;
    }

    private Duty dutyOf() throws Fault {
        Duty duty = new Duty();
        want("duty");
        duty.place = now().place;
        duty.name = wantName().text;
        want("(");
        if (!is(")")) {
            do {
                Node p = new Node("parameter", now().place);
                p.namePlace = now().place;
                p.name = wantName().text;
                duty.parameters.add(p);
            } while (passed(","));
        }
        want(")");
        duty.block = block();
        return duty;
    }

    private Node block() throws Fault {
        Node block = new Node("block", now().place);
        nest("{");
        while (!is("}")) {
            block.parts.add(statement());
        }
        nests--;
        at++;
        return block;
    }

    private Node statement() throws Fault {
        if (is("{")) {
            return block();
        }
        Token t = now();
        Node s = new Node(t.text, t.place);
        if (t.sort == 'n') {
            return named(s, t);
        }
        if (t.sort != 'k') {
            throw misfit();
        }
        switch (t.text) {
            case "var":
                at++;
                name(s);
                want("=");
                s.es.add(e());
                want(";");
                return s;
            case "note": case "fail": return order(s, 1);
            case "open": case "shut": case "sail": return order(s, 2);
            case "sluice": return order(s, 3);
            case "if":
                at++;
                s.es.add(e());
                s.body = block();
                if (passed("else")) {
                    s.other = block();
                }
                return s;
            case "while": case "each": case "repeat": return loop(s);
            case "leave": case "again":
                at++;
                if (now().sort == 'n') {
                    name(s);
                }
                want(";");
                return s;
            case "answer":
                at++;
                if (!is(";")) {
                    s.es.add(e());
                }
                want(";");
                return s;
            case "hold": case "ensure":
                at++;
                s.es.add(e());
                s.body = block();
                return s;
            case "choose":
                at++;
                s.es.add(e());
                nest("{");
                while (is("when")) {
                    s.parts.add(clause());
                }
                if (passed("other")) {
                    s.other = block();
                }
                nests--;
                want("}");
                return s;
            case "try":
                at++;
                s.body = block();
                if (!is("mend") && !is("always")) {
                    throw misfit();
                }
                while (is("mend")) {
                    s.parts.add(clause());
                }
                s.always = passed("always") ? block() : null;
                return s;
            case "later":
                at++;
                s.body = block();
                return s;
            case "stop":
                at++;
                want(";");
                return s;
            default: throw misfit();
        }
    }

    private void name(Node s) throws Fault {
        s.namePlace = now().place;
        s.name = wantName().text;
    }

    private Node named(Node s, Token t) throws Fault {
        name(s);
        if (is("=")) {
            s.op = "=";
            at++;
            s.es.add(e());
            want(";");
            return s;
        }
        if (is("(")) {
            s.op = "do";
            s.es.add(call(t));
            want(";");
            return s;
        }
        want(":");
        s.op = now().text;
        if (!is("while") && !is("each") && !is("repeat")) {
            throw misfit();
        }
        s.value = 1;
        return loop(s);
    }

    /** A label's NAME is in the parts' first one, since an each has a NAME of its own. */
    private Node loop(Node s) throws Fault {
        if (s.value == 1) {
            Node label = new Node("label", s.namePlace);
            label.name = s.name;
            s.parts.add(label);
        }
        at++;
        if (s.op.equals("while")) {
            s.es.add(e());
        } else if (s.op.equals("each")) {
            name(s);
            want("from");
            s.es.add(e());
            want("to");
            s.es.add(e());
        }
        s.body = block();
        s.always = passed("always") ? block() : null;
        if (s.op.equals("repeat")) {
            want("until");
            s.until = e();
            want(";");
        }
        return s;
    }

    private Node order(Node s, int count) throws Fault {
        at++;
        for (int i = 0; i < count; i++) {
            if (i > 0) {
                want(",");
            }
            s.es.add(e());
        }
        want(";");
        return s;
    }

    private Node clause() throws Fault {
        Node c = new Node(now().text, now().place);
        at++;
        if (passed("any")) {
            c.any = true;
        } else {
            do {
                c.es.add(e());
            } while (passed(","));
        }
        c.body = block();
        return c;
    }

    private Node e() throws Fault {
        return joined("or");
    }

    private Node joined(String word) throws Fault {
        Node left = word.equals("or") ? joined("and") : not();
        while (is(word)) {
            Node n = new Node(word, now().place);
            at++;
            n.es.add(left);
            n.es.add(word.equals("or") ? joined("and") : not());
            left = n;
        }
        return left;
    }

    private Node not() throws Fault {
        if (!is("not")) {
            Node left = sum();
            return is("==") || is("!=") || is("<") || is("<=") ? pair(left, 0) : left;
        }
        Node n = new Node("not", now().place);
        nest("not");
        n.es.add(not());
        nests--;
        return n;
    }

    private Node pair(Node left, int level) throws Fault {
        Node n = new Node(now().text, now().place);
        at++;
        n.es.add(left);
        n.es.add(level == 0 ? sum() : level == 1 ? product() : unit());
        return n;
    }

    private Node sum() throws Fault {
        Node left = product();
        while (is("+") || is("-")) {
            left = pair(left, 1);
        }
        return left;
    }

    private Node product() throws Fault {
        Node left = unit();
        while (is("*") || is("/") || is("%")) {
            left = pair(left, 2);
        }
        return left;
    }

    private Node unit() throws Fault {
        Token t = now();
        Node n = new Node(t.text, t.place);
        if (is("-")) {
            nest("-");
            n.op = "negative";
            n.es.add(unit());
            nests--;
        } else if (is("(")) {
            nest("(");
            n = e();
            nests--;
            want(")");
        } else if (t.sort == 'd') {
            n.op = "number";
            n.value = Integer.parseInt(t.text);
            at++;
        } else if (t.sort == 'n') {
            at++;
            if (is("(")) {
                return call(t);
            }
            n.op = "name";
            n.name = t.text;
        } else if (is("level") || is("reach") || is("ship") || is("held")) {
            at++;
            nest("(");
            n.es.add(e());
            nests--;
            want(")");
        } else if (is("gate")) {
            at++;
            nest("(");
            n.es.add(e());
            want(",");
            n.es.add(e());
            nests--;
            want(")");
        } else if (is("kind") || is("cause")) {
            at++;
        } else {
            throw misfit();
        }
        return n;
    }

    private Node call(Token t) throws Fault {
        Node n = new Node("call", t.place);
        n.name = t.text;
        nest("(");
        if (!is(")")) {
            do {
                n.es.add(e());
            } while (passed(","));
        }
        nests--;
        want(")");
        return n;
    }

    // ---- meanings

    private List<Fault> faults;
    private List<Duty> reading;
    private Duty inDuty;

    private void meanings(List<Duty> duties) {
        reading = duties;
        Set<String> told = new HashSet<>();
        for (int d = 0; d < duties.size(); d++) {
            Duty duty = duties.get(d);
            inDuty = duty;
            if (!told.add(duty.name)) {
                faults.add(new Fault(4, duty.place));
            }
            if (d >= 30) {
                faults.add(new Fault(8, duty.place));
            }
            Map<String, Node> known = new HashMap<>();
            for (int i = 0; i < duty.parameters.size(); i++) {
                tell(duty.parameters.get(i), known);
                if (i >= 8) {
                    faults.add(new Fault(8, duty.parameters.get(i).place));
                }
            }
            meaning(duty.block, known, new ArrayList<>());
        }
    }

    private void tell(Node n, Map<String, Node> known) {
        if (known.put(n.name, n) != null) {
            faults.add(new Fault(4, n.namePlace));
        }
        inDuty.variables++;
        if (inDuty.variables > 24) {
            faults.add(new Fault(8, n.namePlace));
        }
    }

    private static String labelOf(Node loop) {
        return loop.parts.isEmpty() ? null : loop.parts.get(0).name;
    }

    private void meaning(Node s, Map<String, Node> known, List<Node> around) {
        for (Node e : s.es) {
            meaningOfE(e, known);
        }
        switch (s.op) {
            case "block": {
                Map<String, Node> inside = new HashMap<>(known);
                for (Node part : s.parts) {
                    meaning(part, inside, around);
                }
                return;
            }
            case "var": tell(s, known); return;
            case "=":
                s.meaning = known.get(s.name);
                if (s.meaning == null) {
                    faults.add(new Fault(5, s.namePlace));
                }
                return;
            case "leave": case "again": {
                for (Node loop : around) {
                    if (s.name == null || s.name.equals(labelOf(loop))) {
                        s.meaning = loop;
                    }
                }
                if (s.meaning == null) {
                    faults.add(s.name == null ? new Fault(6, s.place) : new Fault(5, s.namePlace));
                }
                return;
            }
            case "while": case "each": case "repeat": {
                for (Node loop : around) {
                    if (labelOf(s) != null && labelOf(s).equals(labelOf(loop))) {
                        faults.add(new Fault(4, s.place));
                    }
                }
                Map<String, Node> inside = new HashMap<>(known);
                List<Node> within = new ArrayList<>(around);
                within.add(s);
                if (s.op.equals("each")) {
                    tell(s, inside);
                }
                meaning(s.body, inside, within);
                if (s.always != null) {
                    meaning(s.always, inside, within);
                }
                if (s.until != null) {
                    meaningOfE(s.until, known);
                }
                return;
            }
            default: {
                List<Node> loops = s.op.equals("later") ? new ArrayList<>() : around;
                if (s.body != null) {
                    meaning(s.body, known, loops);
                }
                for (Node part : s.parts) {
                    meaning(part, known, loops);
                }
                if (s.other != null) {
                    meaning(s.other, known, loops);
                }
                if (s.always != null) {
                    meaning(s.always, known, loops);
                }
            }
        }
    }

    private Duty dutyNamed(String name) {
        for (Duty duty : reading) {
            if (duty.name.equals(name)) {
                return duty;
            }
        }
        return null;
    }

    private void meaningOfE(Node e, Map<String, Node> known) {
        if (e.op.equals("name")) {
            e.meaning = known.get(e.name);
            if (e.meaning == null) {
                faults.add(new Fault(5, e.place));
            }
        } else if (e.op.equals("call")) {
            Duty duty = dutyNamed(e.name);
            if (duty == null) {
                faults.add(new Fault(5, e.place));
            } else if (duty.parameters.size() != e.es.size()) {
                faults.add(new Fault(7, e.place));
            }
        }
        for (Node part : e.es) {
            meaningOfE(part, known);
        }
    }

    // ---- what may come

    private static boolean mayFail(List<Node> es) {
        for (Node e : es) {
            if (mayFail(e)) {
                return true;
            }
        }
        return false;
    }

    private static boolean mayFail(Node e) {
        switch (e.op) {
            case "call": case "level": case "reach": case "gate": case "ship": case "held": return true;
            case "/": case "%":
                Node right = e.es.get(1);
                return !(right.op.equals("number") && right.value > 0) || mayFail(e.es);
            default: return mayFail(e.es);
        }
    }

    private static Set<Object> ways(Object... list) {
        return new HashSet<>(Arrays.asList(list));
    }

    private final List<Node> latersSeen = new ArrayList<>();

    private Set<Object> may(Node s) {
        Set<Object> out;
        switch (s.op) {
            case "block": {
                out = new HashSet<>();
                boolean reached = true;
                for (Node part : s.parts) {
                    Set<Object> more = may(part);
                    if (reached) {
                        out.addAll(more);
                        out.remove("END");
                        reached = more.contains("END");
                    }
                }
                if (reached) {
                    out.add("END");
                }
                return out;
            }
            case "leave": case "again": return ways(List.of(s.op, s.meaning));
            case "stop": return ways();
            case "answer": out = ways("ANSWER"); break;
            case "fail": out = ways("TROUBLE"); break;
            case "open": case "shut": case "sluice": case "sail": case "do": out = ways("END", "TROUBLE"); break;
            case "later":
                latersSeen.add(s);
                return ways("END", "TROUBLE");
            case "if":
                out = may(s.body);
                out.addAll(s.other == null ? ways("END") : may(s.other));
                break;
            case "hold":
                out = may(s.body);
                out.add("TROUBLE");
                break;
            case "ensure":
                out = may(s.body);
                if (!out.isEmpty()) {
                    out.add("TROUBLE");
                }
                return out;
            case "choose": out = mayChoose(s); break;
            case "try": return mayTry(s);
            case "while": case "each": case "repeat": return mayLoop(s);
            default: out = ways("END"); break;
        }
        if (mayFail(s.es)) {
            out.add("TROUBLE");
        }
        return out;
    }

    private Set<Object> mayChoose(Node s) {
        Set<Object> out = ways();
        boolean any = false;
        for (Node clause : s.parts) {
            Set<Object> more = may(clause.body);
            if (any) {
                continue;
            }
            if (mayFail(clause.es)) {
                out.add("TROUBLE");
            }
            out.addAll(more);
            any = clause.any;
        }
        if (s.other != null) {
            Set<Object> more = may(s.other);
            if (!any) {
                out.addAll(more);
            }
        } else if (!any) {
            out.add("END");
        }
        return out;
    }

    private Set<Object> withAlways(Set<Object> ahead, Node always) {
        if (always == null) {
            return ahead;
        }
        Set<Object> out = may(always);
        if (ahead.isEmpty()) {
            return ways();
        }
        if (out.remove("END")) {
            out.addAll(ahead);
        }
        return out;
    }

    private Set<Object> mayTry(Node s) {
        Set<Object> out = may(s.body);
        boolean troubled = out.remove("TROUBLE");
        boolean stays = false;
        boolean any = false;
        for (Node mend : s.parts) {
            Set<Object> more = may(mend.body);
            if (any) {
                continue;
            }
            stays |= mayFail(mend.es);
            if (troubled) {
                out.addAll(more);
            }
            any = mend.any;
        }
        if (troubled && (stays || !any)) {
            out.add("TROUBLE");
        }
        return withAlways(out, s.always);
    }

    private Set<Object> mayLoop(Node s) {
        Set<Object> out = withAlways(may(s.body), s.always);
        boolean end = out.remove("END");
        boolean left = out.remove(List.of("leave", s));
        boolean again = out.remove(List.of("again", s));
        if (s.op.equals("repeat")) {
            if (end || left || again) {
                out.add("END");
            }
            if ((end || again) && mayFail(s.until)) {
                out.add("TROUBLE");
            }
        } else {
            out.add("END");
            if (mayFail(s.es)) {
                out.add("TROUBLE");
            }
        }
        return out;
    }

    private int waysOf(Duty duty) {
        latersSeen.clear();
        Set<Object> out = may(duty.block);
        for (int i = 0; i < latersSeen.size(); i++) {
            Set<Object> more = may(latersSeen.get(i).body);
            more.remove("END");
            out.addAll(more);
        }
        return (out.contains("END") ? 1 : 0) + (out.contains("ANSWER") ? 2 : 0) + (out.contains("TROUBLE") ? 4 : 0);
    }

    // ---- doing

    private record Way(String sort, int number, int cause, int place, Node loop) {
        static final Way END = new Way("END", 0, 0, 0, null);

        boolean is(String wanted) {
            return sort.equals(wanted);
        }
    }

    private static final class Trouble extends RuntimeException {
        private static final long serialVersionUID = 1L;
        final transient Way way;

        Trouble(Way way) {
            super(null, null, false, false);
            this.way = way;
        }
    }

    private static final class Over extends RuntimeException {
        private static final long serialVersionUID = 1L;
        final int how;

        Over(int how) {
            super(null, null, false, false);
            this.how = how;
        }
    }

    private static final class Call {
        final Map<Node, Integer> variables = new HashMap<>();
        final ArrayDeque<Node> laters = new ArrayDeque<>();
        int kind;
        int cause;
    }

    private final ArrayDeque<Integer> within = new ArrayDeque<>();
    private int underWay;
    private int fuel;
    private final int[] told = new int[19];
    private final List<int[]> entries = new ArrayList<>();

    private void burn() {
        if (fuel == 0) {
            throw new Over(2);
        }
        fuel--;
    }

    private void write(int sort, int number) {
        entries.add(new int[] {sort, number});
    }

    private Trouble trouble(int kind, int place) {
        told[12]++;
        write(7, kind);
        return new Trouble(new Way("TROUBLE", kind, within.isEmpty() ? 0 : within.peek(), place, null));
    }

    private Way callDuty(Duty duty, List<Integer> values, int place) {
        burn();
        if (underWay == 12) {
            throw trouble(2, place);
        }
        told[15]++;
        underWay++;
        Call call = new Call();
        for (int i = 0; i < duty.parameters.size(); i++) {
            call.variables.put(duty.parameters.get(i), values.get(i));
        }
        Way way = doIt(duty.block, call);
        while (!call.laters.isEmpty()) {
            Node later = call.laters.pop();
            told[11]++;
            write(10, later.place);
            way = replaced(way, later.body, call);
        }
        underWay--;
        return way;
    }

    /** The WAY, or that of a BLOCK that is done behind it. */
    private Way replaced(Way way, Node block, Call call) {
        boolean troubled = way.is("TROUBLE");
        if (troubled) {
            within.push(way.number);
        }
        Way own = doIt(block, call);
        if (troubled) {
            within.pop();
        }
        return own.is("END") ? way : lose(way, own);
    }

    private Way lose(Way old, Way other) {
        if (old.is("TROUBLE")) {
            told[14]++;
            write(9, old.number);
        }
        return other;
    }

    private Way always(Way way, Node s, Call call) {
        if (s.always == null) {
            return way;
        }
        told[9]++;
        write(11, s.place);
        return replaced(way, s.always, call);
    }

    private Way doIt(Node s, Call call) {
        if (s.op.equals("block")) {
            for (Node part : s.parts) {
                Way way = doIt(part, call);
                if (!way.is("END")) {
                    return way;
                }
            }
            return Way.END;
        }
        burn();
        try {
            return doStatement(s, call);
        } catch (Trouble t) {
            return t.way;
        }
    }

    private int[] work(Node s, Call call) {
        int[] values = new int[s.es.size()];
        for (int i = 0; i < values.length; i++) {
            values[i] = value(s.es.get(i), call, s.place);
        }
        return values;
    }

    private Way doStatement(Node s, Call call) {
        switch (s.op) {
            case "var": call.variables.put(s, value(s.es.get(0), call, s.place)); return Way.END;
            case "=": call.variables.put(s.meaning, value(s.es.get(0), call, s.place)); return Way.END;
            case "do": value(s.es.get(0), call, s.place); return Way.END;
            case "note": write(0, work(s, call)[0]); return Way.END;
            case "open": case "shut": gate(s, work(s, call)); return Way.END;
            case "sluice": sluice(s, work(s, call)); return Way.END;
            case "sail": sail(s, work(s, call)); return Way.END;
            case "answer": {
                int[] v = work(s, call);
                return new Way("ANSWER", v.length == 0 ? 0 : v[0], 0, 0, null);
            }
            case "leave": return new Way("LEAVE", 0, 0, 0, s.meaning);
            case "again": return new Way("AGAIN", 0, 0, 0, s.meaning);
            case "stop": throw new Over(1);
            case "fail": {
                int kind = work(s, call)[0];
                throw trouble(kind < 10 || kind > 99 ? 10 : kind, s.place);
            }
            case "if":
                if (work(s, call)[0] != 0) {
                    return doIt(s.body, call);
                }
                return s.other == null ? Way.END : doIt(s.other, call);
            case "choose": return choose(s, call);
            case "hold": return hold(s, call);
            case "ensure": return ensure(s, call);
            case "try": return trial(s, call);
            case "later":
                if (call.laters.size() == 40) {
                    throw trouble(2, s.place);
                }
                told[10]++;
                call.laters.push(s);
                return Way.END;
            default: return loop(s, call);
        }
    }

    private Way choose(Node s, Call call) {
        int wanted = work(s, call)[0];
        for (Node clause : s.parts) {
            boolean fits = clause.any;
            for (int i = 0; i < clause.es.size() && !fits; i++) {
                fits = value(clause.es.get(i), call, s.place) == wanted;
            }
            if (fits) {
                return doIt(clause.body, call);
            }
        }
        return s.other == null ? Way.END : doIt(s.other, call);
    }

    private Way hold(Node s, Call call) {
        int k = work(s, call)[0];
        if (k < 0 || k > 5) {
            throw trouble(3, s.place);
        }
        told[6]++;
        if (++holds[k] == 1) {
            write(1, k);
        }
        Way way = doIt(s.body, call);
        told[7]++;
        if (--holds[k] == 0) {
            write(2, k);
        }
        return way;
    }

    private Way ensure(Node s, Call call) {
        Way way = doIt(s.body, call);
        burn();
        boolean troubled = way.is("TROUBLE");
        if (troubled) {
            within.push(way.number);
        }
        Way other = null;
        try {
            if (value(s.es.get(0), call, s.place) == 0) {
                throw trouble(10, s.place);
            }
        } catch (Trouble t) {
            other = t.way;
        }
        if (troubled) {
            within.pop();
        }
        return other == null ? way : lose(way, other);
    }

    private Way trial(Node s, Call call) {
        if (s.always != null) {
            told[8]++;
        }
        Way way = doIt(s.body, call);
        if (way.is("TROUBLE")) {
            way = mend(s, way, call);
        }
        return always(way, s, call);
    }

    private Way mend(Node s, Way way, Call call) {
        within.push(way.number);
        Node found = null;
        try {
            for (int m = 0; m < s.parts.size() && found == null; m++) {
                Node mend = s.parts.get(m);
                boolean fits = mend.any;
                for (int i = 0; i < mend.es.size() && !fits; i++) {
                    fits = value(mend.es.get(i), call, s.place) == way.number;
                }
                found = fits ? mend : null;
            }
        } catch (Trouble t) {
            within.pop();
            return lose(way, t.way);
        }
        within.pop();
        if (found == null) {
            return way;
        }
        told[13]++;
        write(8, way.number);
        call.kind = way.number;
        call.cause = way.cause;
        within.push(way.number);
        Way own = doIt(found.body, call);
        within.pop();
        return own;
    }

    private Way loop(Node s, Call call) {
        if (s.op.equals("each")) {
            int[] ends = work(s, call);
            for (long i = ends[0]; i <= ends[1]; i++) {
                burn();
                call.variables.put(s, (int) i);
                Way way = round(s, call);
                if (!goesOn(way, s)) {
                    return ended(way, s);
                }
            }
            return Way.END;
        }
        while (true) {
            burn();
            if (s.op.equals("while") && work(s, call)[0] == 0) {
                return Way.END;
            }
            Way way = round(s, call);
            if (!goesOn(way, s)) {
                return ended(way, s);
            }
            if (s.op.equals("repeat") && value(s.until, call, s.place) != 0) {
                return Way.END;
            }
        }
    }

    private Way round(Node s, Call call) {
        if (s.always != null) {
            told[8]++;
        }
        return always(doIt(s.body, call), s, call);
    }

    private static boolean goesOn(Way way, Node s) {
        return way.is("END") || way.is("AGAIN") && way.loop == s;
    }

    private static Way ended(Way way, Node s) {
        return way.is("LEAVE") && way.loop == s ? Way.END : way;
    }

    private int value(Node e, Call call, int place) {
        switch (e.op) {
            case "number": return e.value;
            case "name": return call.variables.getOrDefault(e.meaning, 0);
            case "kind": return call.kind;
            case "cause": return call.cause;
            case "or":
                return value(e.es.get(0), call, place) != 0 || value(e.es.get(1), call, place) != 0 ? 1 : 0;
            case "and":
                return value(e.es.get(0), call, place) != 0 && value(e.es.get(1), call, place) != 0 ? 1 : 0;
            default: break;
        }
        List<Integer> v = new ArrayList<>();
        for (Node part : e.es) {
            v.add(value(part, call, place));
        }
        switch (e.op) {
            case "not": return v.get(0) == 0 ? 1 : 0;
            case "negative": return -v.get(0);
            case "+": return v.get(0) + v.get(1);
            case "-": return v.get(0) - v.get(1);
            case "*": return v.get(0) * v.get(1);
            case "==": return v.get(0).intValue() == v.get(1).intValue() ? 1 : 0;
            case "!=": return v.get(0).intValue() != v.get(1).intValue() ? 1 : 0;
            case "<": return v.get(0) < v.get(1) ? 1 : 0;
            case "<=": return v.get(0) <= v.get(1) ? 1 : 0;
            case "/": case "%":
                if (v.get(1) == 0) {
                    throw trouble(1, place);
                }
                return e.op.equals("/") ? v.get(0) / v.get(1) : v.get(0) % v.get(1);
            case "call": {
                Way way = callDuty(dutyIn(book, e.name), v, place);
                if (way.is("TROUBLE")) {
                    throw new Trouble(way);
                }
                return way.is("ANSWER") ? way.number : 0;
            }
            default: return query(e.op, v, place);
        }
    }

    private static Duty dutyIn(List<Duty> duties, String name) {
        for (Duty duty : duties) {
            if (duty.name.equals(name)) {
                return duty;
            }
        }
        throw new AssertionError(name);
    }

    private int query(String op, List<Integer> v, int place) {
        int k = v.get(0);
        int most = op.equals("reach") ? 6 : op.equals("ship") ? 7 : 5;
        boolean none = k < 0 || k > most || op.equals("gate") && v.get(1) != 0 && v.get(1) != 1;
        if (none) {
            throw trouble(3, place);
        }
        switch (op) {
            case "level": return chambers[k];
            case "reach": return reaches[k] / 10;
            case "gate": return open[k][v.get(1)] ? 1 : 0;
            case "ship": return ships[k];
            default: return holds[k];
        }
    }

    // ---- the canal

    private final int[] chambers = new int[6];
    private final int[] reaches = new int[7];
    private final boolean[][] open = new boolean[6][2];
    private final int[] ships = new int[8];
    private final int[] holds = new int[6];

    private void lock(Node s, int k, int side, boolean others) {
        if (k < 0 || k > 5 || side < 0 || side > 1) {
            throw trouble(3, s.place);
        }
        if (holds[k] == 0) {
            throw trouble(4, s.place);
        }
        if (others && open[k][1 - side]) {
            throw trouble(6, s.place);
        }
    }

    private void gate(Node s, int[] v) {
        boolean opens = s.op.equals("open");
        lock(s, v[0], v[1], opens);
        if (opens && Math.abs(chambers[v[0]] - reaches[v[0] + v[1]] / 10) > 1) {
            throw trouble(5, s.place);
        }
        open[v[0]][v[1]] = opens;
        write(opens ? 3 : 4, 2 * v[0] + v[1]);
    }

    private void sluice(Node s, int[] v) {
        if (v[2] < 0 || v[2] > 1000) {
            throw trouble(3, s.place);
        }
        lock(s, v[0], v[1], true);
        int k = v[0];
        int r = v[0] + v[1];
        int number = 10000 * (2 * k + v[1]);
        int first = Integer.signum(Integer.compare(chambers[k], reaches[r] / 10));
        int went = 0;
        while (first != 0 && went < v[2] && Integer.signum(Integer.compare(chambers[k], reaches[r] / 10)) == first) {
            if (fuel == 0) {
                write(5, number + went);
            }
            burn();
            chambers[k] -= first;
            reaches[r] += first;
            went++;
        }
        write(5, number + went);
    }

    private void sail(Node s, int[] v) {
        if (v[0] < 0 || v[0] > 7 || v[1] < 0 || v[1] > 1) {
            throw trouble(3, s.place);
        }
        int from = ships[v[0]];
        int to = from + (v[1] == 1 ? 1 : -1);
        if (to < 0 || to > 12) {
            throw trouble(9, s.place);
        }
        int chamber = from % 2 == 1 ? from : to;
        int k = (chamber - 1) / 2;
        int side = from + to < 2 * chamber ? 0 : 1;
        if (holds[k] == 0) {
            throw trouble(4, s.place);
        }
        if (!open[k][side]) {
            throw trouble(7, s.place);
        }
        if (to % 2 == 1) {
            for (int other = 0; other < 8; other++) {
                if (ships[other] == to) {
                    throw trouble(8, s.place);
                }
            }
        }
        ships[v[0]] = to;
        write(6, 16 * v[0] + to);
    }

    // ---- the face

    private StringBuilder tape = new StringBuilder();
    private List<Duty> book;
    private int faultKind;
    private int faultPlace = -1;

    Oracle() {
        told[0] = -1;
        told[4] = -1;
    }

    boolean feed(int a, int b, int c, int d, int e) {
        if (tape.length() + 20 > 3000) {
            return false;
        }
        for (int four : new int[] {a, b, c, d, e}) {
            for (int i = 3; i >= 0; i--) {
                int sign = (four >> 8 * i) & 0xff;
                tape.append(sign == 10 || sign >= 32 && sign < 127 ? (char) sign : ' ');
            }
        }
        return true;
    }

    boolean end(int n) {
        if (n < 0 || n > tape.length()) {
            return false;
        }
        tape.setLength(n);
        return true;
    }

    int read() {
        tokens = tokensOf(tape.toString());
        tape = new StringBuilder();
        at = 0;
        nests = 0;
        faults = new ArrayList<>();
        List<Duty> duties = null;
        try {
            duties = text();
            meanings(duties);
        } catch (Fault f) {
            faults.add(f);
        }
        faultKind = 0;
        faultPlace = -1;
        for (Fault f : faults) {
            if (faultKind == 0 || f.place < faultPlace || f.place == faultPlace && f.kind < faultKind) {
                faultKind = f.kind;
                faultPlace = f.place;
            }
        }
        if (faultKind == 0) {
            for (Duty duty : duties) {
                duty.ways = waysOf(duty);
            }
            book = duties;
        }
        return faultKind;
    }

    int fault(int what) {
        return what == 0 ? faultKind : what == 1 ? faultPlace : -1;
    }

    int duty(int d, int what) {
        if (book == null) {
            return -1;
        }
        if (d == -1) {
            return what == 0 ? book.size() : -1;
        }
        if (d < 0 || d >= book.size()) {
            return -1;
        }
        Duty duty = book.get(d);
        switch (what) {
            case 0: return duty.parameters.size();
            case 1: return duty.variables;
            case 2: return duty.place;
            case 3: return duty.ways;
            default: return -1;
        }
    }

    boolean fill(int r, int units) {
        if (r < 0 || r > 6 || units < 0 || units > 100000) {
            return false;
        }
        reaches[r] = units;
        return true;
    }

    boolean chamber(int k, int units) {
        if (k < 0 || k > 5 || units < 0 || units > 10000 || open[k][0] || open[k][1]) {
            return false;
        }
        chambers[k] = units;
        return true;
    }

    boolean berth(int s, int p) {
        if (s < 0 || s > 7 || p < 0 || p > 12) {
            return false;
        }
        for (int other = 0; other < 8; other++) {
            if (other != s && p % 2 == 1 && ships[other] == p) {
                return false;
            }
        }
        ships[s] = p;
        return true;
    }

    int run(int d, int a, int b, int given) {
        if (book == null || told[17] >= 200000) {
            throw new IllegalStateException();
        }
        if (d < 0 || d >= book.size() || given < 0 || given > 20000) {
            throw new IllegalArgumentException();
        }
        int used = told[17];
        Arrays.fill(told, 0);
        told[4] = -1;
        entries.clear();
        within.clear();
        underWay = 0;
        fuel = given;
        List<Integer> values = new ArrayList<>(Arrays.asList(a, b, 0, 0, 0, 0, 0, 0));
        try {
            Way way = callDuty(book.get(d), values, 0);
            told[0] = way.is("TROUBLE") ? 3 : 0;
            told[1] = way.is("ANSWER") ? way.number : 0;
            told[18] = way.is("END") ? 1 : way.is("ANSWER") ? 2 : 4;
            if (way.is("TROUBLE")) {
                told[2] = way.number;
                told[3] = way.cause;
                told[4] = way.place;
            }
        } catch (Over over) {
            told[0] = over.how;
            Arrays.fill(holds, 0);
        }
        told[5] = fuel;
        told[16] = entries.size();
        told[17] = used + given - fuel;
        return told[0];
    }

    int told(int what) {
        return what < 0 || what > 18 ? -1 : told[what];
    }

    int log(int i, int what) {
        return i < 0 || i >= Math.min(entries.size(), 300) || what < 0 || what > 1 ? -1 : entries.get(i)[what];
    }

    int look(int what, int k) {
        if (what == 6) {
            return Arrays.stream(chambers).sum() + Arrays.stream(reaches).sum();
        }
        int most = what == 4 ? 6 : what == 5 ? 7 : 5;
        if (k < 0 || k > most) {
            return -1;
        }
        switch (what) {
            case 0: return chambers[k];
            case 1: return open[k][0] ? 1 : 0;
            case 2: return open[k][1] ? 1 : 0;
            case 3: return holds[k];
            case 4: return reaches[k];
            case 5: return ships[k];
            default: return -1;
        }
    }
}
