import java.util.ArrayList;
import java.util.List;
import java.util.Random;

/** Makes texts of duties by chance (of a seed, so the same ones each time): most of them right, some not. */
final class TextMaker {
    private static final String[] DUTY_NAMES = {"main", "f", "g", "h", "duty2"};
    private static final String[] NAMES = {"a", "b", "c", "x", "y1", "abcdefgh", "to1", "f"};
    private static final String[] SPARE_TOKENS = {"duty", "var", "note", "if", "else", "while", "each", "from", "to",
        "leave", "again", "answer", "fail", "hold", "try", "mend", "any", "always", "later", "stop", "ensure",
        "repeat", "until", "choose", "when", "other", "or", "and", "not", "open", "shut", "sluice", "sail", "level",
        "reach", "gate", "ship", "held", "kind", "cause", "(", ")", "{", "}", ",", ";", ":", "=", "==", "!=", "<",
        "<=", "+", "-", "*", "/", "%", "a", "b", "x", "f", "g", "1", "0", "007", "123456789", "1234567890",
        "abcdefgh", "abcdefghi", "!", ">", "A", "_", "# c\n", "\n", "\t", "\"", "."};

    private final Random chance;
    private final List<String> tokens = new ArrayList<>();
    private final List<String> variables = new ArrayList<>();
    private final List<String> labels = new ArrayList<>();
    private int[] parameters;
    private int nests;
    private int room;
    private int slips;

    TextMaker(Random chance) {
        this.chance = chance;
    }

    private int below(int n) {
        return chance.nextInt(n);
    }

    private boolean oneIn(int n) {
        return below(n) == 0;
    }

    private void put(String... more) {
        for (String token : more) {
            tokens.add(token);
        }
    }

    /** slip: one in so many NAMES is a wrong one, 0 for none. */
    String text(int size, int slip) {
        tokens.clear();
        slips = slip;
        parameters = new int[1 + below(4)];
        for (int d = 0; d < parameters.length; d++) {
            parameters[d] = oneIn(12) ? 8 : below(4);
        }
        for (int d = 0; d < parameters.length; d++) {
            room = size;
            makeDuty(d);
        }
        return joined();
    }

    /** Changes some tokens of the latest text. */
    String spoiled() {
        for (int i = 1 + below(2); i > 0 && !tokens.isEmpty(); i--) {
            int at = below(tokens.size());
            switch (below(4)) {
                case 0: tokens.remove(at); break;
                case 1: tokens.add(at, SPARE_TOKENS[below(SPARE_TOKENS.length)]); break;
                case 2: tokens.set(at, SPARE_TOKENS[below(SPARE_TOKENS.length)]); break;
                default: tokens.set(at, tokens.get(below(tokens.size()))); break;
            }
        }
        return joined();
    }

    private String joined() {
        StringBuilder out = new StringBuilder();
        for (String token : tokens) {
            if (out.length() > 0 && needsBlank(out.charAt(out.length() - 1), token.charAt(0)) || oneIn(8)) {
                out.append(oneIn(12) ? "#" + token + "\n" : oneIn(6) ? "\n" : " ");
            }
            out.append(token);
        }
        return out.toString();
    }

    private static boolean needsBlank(char last, char first) {
        boolean words = Character.isLetterOrDigit(last) && Character.isLetterOrDigit(first);
        return words || first == '=' && "=!<".indexOf(last) >= 0;
    }

    private void makeDuty(int d) {
        variables.clear();
        labels.clear();
        nests = 0;
        put("duty", slipped() ? DUTY_NAMES[below(DUTY_NAMES.length)] : DUTY_NAMES[d], "(");
        for (int i = 0; i < parameters[d]; i++) {
            if (i > 0) {
                put(",");
            }
            String name = slipped() ? "a" : "p" + i;
            variables.add(name);
            put(name);
        }
        put(")");
        block();
    }

    private boolean slipped() {
        return slips > 0 && oneIn(slips);
    }

    private void block() {
        put("{");
        nests++;
        int ahead = variables.size();
        for (int i = below(4); i > 0 && room > 0; i--) {
            statement();
        }
        while (variables.size() > ahead) {
            variables.remove(variables.size() - 1);
        }
        nests--;
        put("}");
    }

    private void statement() {
        room--;
        boolean deep = nests > 6 || room < 2;
        switch (below(deep ? 16 : 37)) {
            case 0: case 1: put("note"); e(2); put(";"); break;
            case 2: variable(); break;
            case 3: assign(); break;
            case 4: call(2); put(";"); break;
            case 5: put("open"); small(); put(","); side(); put(";"); break;
            case 6: put("shut"); small(); put(","); side(); put(";"); break;
            case 7: put("sluice"); small(); put(","); side(); put(",", oneIn(9) ? "1001" : "" + below(30), ";"); break;
            case 8: put("sail"); small(); put(","); side(); put(";"); break;
            case 9: case 10: leaveOrAgain(); break;
            case 11: put("answer"); if (oneIn(2)) { e(2); } put(";"); break;
            case 12: case 13: put("fail"); if (oneIn(2)) { e(2); } else { put("" + (8 + below(5))); } put(";"); break;
            case 14: if (oneIn(6)) { put("stop", ";"); } else { put("note"); put(oneIn(2) ? "kind" : "cause", ";"); } break;
            case 15: block(); break;
            case 16: case 17: put("if"); e(2); block(); if (oneIn(2)) { put("else"); block(); } break;
            case 18: choose(); break;
            case 19: case 20: case 21: case 22: loop(); break;
            case 23: case 24: put("hold"); small(); block(); break;
            case 25: case 26: put("ensure"); e(2); block(); break;
            case 27: case 28: case 29: case 30: trial(); break;
            case 31: case 32: case 33: later(); break;
            default: passage(); break;
        }
    }

    /** Orders on one held lock, most of which can be done. */
    private void passage() {
        String lock = "" + below(3);
        put("hold", lock, "{");
        nests++;
        for (int i = 2 + below(6); i > 0; i--) {
            boolean tried = !oneIn(4);
            if (tried) {
                put("try", "{");
            }
            String side = "" + below(2);
            switch (below(7)) {
                case 0: case 1: put("sluice", lock, ",", side, ",", "" + below(60), ";"); break;
                case 2: case 3: put("open", lock, ",", side, ";"); break;
                case 4: put("shut", lock, ",", side, ";"); break;
                default: put("sail", "" + below(4), ",", side, ";"); break;
            }
            if (tried) {
                put("}", "mend", "any", "{");
                if (oneIn(3)) {
                    put("note", "kind", ";");
                }
                put("}");
            }
        }
        if (oneIn(3)) {
            statement();
        }
        nests--;
        put("}");
    }

    private void variable() {
        String name = fresh();
        put("var", name, "=");
        e(2);
        put(";");
        variables.add(name);
    }

    private String fresh() {
        if (slipped()) {
            return NAMES[below(NAMES.length)];
        }
        return "v" + tokens.size();
    }

    private String known() {
        if (variables.isEmpty() || slipped()) {
            return variables.isEmpty() && slips == 0 ? "0" : NAMES[below(NAMES.length)];
        }
        return variables.get(below(variables.size()));
    }

    private void assign() {
        if (variables.isEmpty()) {
            put("note", "1", ";");
            return;
        }
        put(known(), "=");
        e(2);
        put(";");
    }

    private void leaveOrAgain() {
        if (labels.isEmpty() && !slipped()) {
            put("note", "2", ";");
            return;
        }
        put(oneIn(2) ? "leave" : "again");
        String label = labels.isEmpty() || slipped() ? NAMES[below(NAMES.length)] : labels.get(below(labels.size()));
        if (!label.isEmpty() && oneIn(2)) {
            put(label);
        }
        put(";");
    }

    private void loop() {
        String label = oneIn(2) ? "l" + tokens.size() : "";
        if (slipped()) {
            label = NAMES[below(NAMES.length)];
        }
        if (!label.isEmpty()) {
            put(label, ":");
        }
        int ahead = variables.size();
        int sort = below(3);
        if (sort == 0) {
            put("while");
            e(2);
        } else if (sort == 1) {
            String name = fresh();
            put("each", name, "from");
            eachEnd();
            put("to");
            eachEnd();
            variables.add(name);
        } else {
            put("repeat");
        }
        labels.add(label);
        block();
        if (oneIn(2)) {
            put("always");
            block();
        }
        labels.remove(labels.size() - 1);
        while (variables.size() > ahead) {
            variables.remove(variables.size() - 1);
        }
        if (sort == 2) {
            put("until");
            e(2);
            put(";");
        }
    }

    private void eachEnd() {
        switch (below(8)) {
            case 0: e(1); break;
            case 1: put("(", "999999999", "+", "999999999", "+", "147483647", ")", "+", "" + below(3)); break;
            case 2: put("-", "" + below(4)); break;
            default: put("" + below(6)); break;
        }
    }

    private void list() {
        if (oneIn(4)) {
            put("any");
            return;
        }
        for (int i = below(3); i >= 0; i--) {
            if (oneIn(2)) {
                e(1);
            } else {
                put("" + below(14));
            }
            if (i > 0) {
                put(",");
            }
        }
    }

    private void choose() {
        put("choose");
        e(1);
        put("{");
        nests++;
        for (int i = below(4); i > 0; i--) {
            put("when");
            list();
            block();
        }
        if (oneIn(2)) {
            put("other");
            block();
        }
        nests--;
        put("}");
    }

    private void trial() {
        put("try");
        block();
        int mends = below(3);
        for (int i = 0; i < mends; i++) {
            put("mend");
            list();
            block();
        }
        if (mends == 0 || oneIn(2)) {
            put("always");
            block();
        }
    }

    private void later() {
        boolean many = oneIn(8);
        if (many) {
            put("each", fresh(), "from", "1", "to", "" + (38 + below(5)), "{");
            nests++;
        }
        List<String> outside = new ArrayList<>(labels);
        put("later");
        if (!slipped()) {
            labels.clear();
        }
        block();
        labels.clear();
        labels.addAll(outside);
        if (many) {
            nests--;
            put("}");
        }
    }

    /** A text at the edges of what is allowed: NESTS, DUTIES, parameters, variables. */
    String edgeText() {
        tokens.clear();
        int duties = oneIn(2) ? 1 + below(3) : 28 + below(5);
        for (int d = 0; d < duties; d++) {
            put("duty", oneIn(40) ? "d0" : "d" + d, "(");
            int count = oneIn(3) ? 6 + below(4) : below(3);
            for (int i = 0; i < count; i++) {
                put(i > 0 ? "," : "\n", oneIn(40) ? "p0" : "p" + i);
            }
            put(")", "{");
            if (oneIn(4)) {
                put("d" + below(34), "(");
                for (int i = below(3); i > 0; i--) {
                    put("1", i > 1 ? "," : " ");
                }
                put(")", ";");
            }
            int more = oneIn(duties > 3 ? 20 : 2) ? 14 + below(12) : 0;
            for (int i = 0; i < more; i++) {
                put("var", oneIn(60) ? "v0" : "v" + i, "=", oneIn(60) ? "v" + (i + 1) : "1", ";");
            }
            if (duties <= 3 || oneIn(9)) {
                deepStatement(below(2) + 2);
            }
            put("}");
        }
        return joined();
    }

    /** There are so many NESTS around, more or less. */
    private void deepStatement(int around) {
        if (around > 4 + below(14)) {
            put("note");
            deepE(around);
            put(";");
            return;
        }
        switch (below(8)) {
            case 0: put("while", "0", "{"); break;
            case 1: put("{"); break;
            case 2: put("later", "{"); break;
            case 3: put("hold", "("); deepE(around + 1); put(")", "{"); break;
            case 4: put("try", "{", "}", "always", "{"); break;
            case 5: put("l" + below(30), ":", "repeat", "{"); break;
            case 6: put("choose", "1", "{", "when", "2", "{"); break;
            default: put("if", "1", "{", "}", "else", "{"); break;
        }
        int opened = tokens.size();
        deepStatement(around + 1);
        closeFor(opened);
    }

    private void closeFor(int opened) {
        put("}");
        if (opened > 1 && tokens.get(opened - 2).equals("repeat")) {
            put("until", "1", ";");
        } else if (opened > 2 && tokens.get(opened - 3).equals("when")) {
            put("}");
        }
    }

    private void deepE(int around) {
        if (around > 12 + below(4)) {
            put("1");
            return;
        }
        switch (below(5)) {
            case 0: put("-"); deepE(around + 1); break;
            case 1: put("(", "not"); deepE(around + 2); put(")"); break;
            case 2: put("level", "("); deepE(around + 1); put(")"); break;
            case 3: put("d0", "("); deepE(around + 1); put(")"); break;
            default: put("("); deepE(around + 1); put(")", "+", "(", "1", ")"); break;
        }
    }

    private void call(int depth) {
        int d = below(parameters.length);
        put(slipped() ? NAMES[below(NAMES.length)] : DUTY_NAMES[d], "(");
        int count = parameters[d] + (slipped() ? 1 : 0);
        for (int i = 0; i < count; i++) {
            if (i > 0) {
                put(",");
            }
            e(depth - 1);
        }
        put(")");
    }

    private void small() {
        if (oneIn(8)) {
            e(1);
        } else {
            put("" + below(oneIn(8) ? 9 : 3));
        }
    }

    private void side() {
        if (oneIn(12)) {
            e(1);
        } else {
            put("" + below(oneIn(8) ? 3 : 2));
        }
    }

    private void e(int depth) {
        if (depth <= 0 || nests > 9) {
            put(oneIn(2) ? known() : "" + below(12));
            return;
        }
        switch (below(20)) {
            case 0: case 1: case 2: put("" + below(14)); break;
            case 3: case 4: put(known()); break;
            case 5: call(depth); break;
            case 6: put("-"); put("(");  e(depth - 1); put(")"); break;
            case 7: put("("); put("not"); e(depth - 1); put(")"); break;
            case 8: put("level", "("); small(); put(")"); break;
            case 9: put("reach", "("); small(); put(")"); break;
            case 10: put("gate", "("); small(); put(","); side(); put(")"); break;
            case 11: put("ship", "("); small(); put(")"); break;
            case 12: put("held", "("); small(); put(")"); break;
            case 13: put(oneIn(2) ? "kind" : "cause"); break;
            case 14: e(depth - 1); put(oneIn(2) ? "/" : "%"); divisor(depth); break;
            default: pair(depth); break;
        }
    }

    private void divisor(int depth) {
        switch (below(4)) {
            case 0: put("" + below(3)); break;
            case 1: put("(", "(", "" + below(3), ")", ")"); break;
            case 2: put("-", "" + below(3)); break;
            default: put("("); e(depth - 1); put(")"); break;
        }
    }

    private void pair(int depth) {
        String[] ops = {"+", "-", "*", "==", "!=", "<", "<=", "or", "and"};
        put("(");
        e(depth - 1);
        put(ops[below(ops.length)]);
        e(depth - 1);
        put(")");
        if (oneIn(4)) {
            put(oneIn(2) ? "*" : "+");
            e(depth - 1);
        }
    }
}
