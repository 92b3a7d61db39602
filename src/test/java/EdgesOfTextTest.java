import java.util.ArrayList;
import java.util.List;

/** The boundary cases of the language that promise 4's read() must tell: tokens, grammar, NESTS and FAULTS. */
public final class EdgesOfTextTest extends Bench {
    private static final String[] KEYWORDS = ("duty var note if else while each from to leave again answer fail hold try "
            + "mend any always later stop ensure repeat until choose when other or and not open shut sluice sail level "
            + "reach gate ship held kind cause").split(" ");
    private static final String SIGNS = "(){},;:=<+-*/%";

    private EdgesOfTextTest() {
    }

    public static void main(String[] args) throws Exception {
        Edges.run(EdgesOfTextTest.class);
    }

    // ---- helpers

    /** A main with this body has no fault. */
    private static void fineBody(String body) {
        fine("duty main(a,b){" + body + "}");
    }

    /** Twelve BLOCKS within main's: 13 NESTS, so that one more is the last that may be. */
    private static String deep(String body) {
        return "duty main(a,b){" + times("{", 12) + body;
    }

    /** With one NEST less to spare than NESTS that the body has, the mark is where the 15th begins. */
    private static void deepFault(String body) {
        faultyAt(deep(body), 3);
    }

    private static void deepFine(String body) {
        fine(plain(deep(body)) + times("}", 13));
    }

    /** As deep as it may be, and one deeper. */
    private static void oneNest(String ahead, String opens, String behind) {
        deepFine(ahead + opens + behind);
        faultyAt("duty main(a,b){" + times("{", 13) + ahead + "^" + opens + behind, 3);
    }

    // ---- tokens

    @Holds(promise = 4, term = 1, says = "TOKENS, each as long as can be")
    static void tokensAreAsLongAsCanBe() {
        fineBody("a=1<=2;a=1==2;a=1!=2;a=1<-2;a=a-(-b);");
        faultyBody("a=1==^=2;", 2);
        faultyBody("a^==1;", 2);
        faultyBody("a=1<=^=2;", 2);
        faultyBody("a=1!=^=2;", 2);
        faultyBody("a=1!=^<2;", 2);
        faultyBody("if1^{}", 2);
        faultyAt("^dutyf(){}", 2);
        faultyBody("note1^;", 2);
        faultyBody("a=1^x;", 2);
        fineBody("each i from 1to 2{}note 1or 2and 3;");
        faultyBody("each i from 1 ^to2{}", 2);
    }

    @Holds(promise = 4, term = 1, says = "blanks (10, 32) and comments (# up to a 10 or the end) may stand between")
    static void blanksAndCommentsBetweenTokens() {
        fine(" duty f ( a , b ) { x : while a < b { a = a + 1 ; leave x ; } }");
        fine("\nduty\nf\n(\na\n,\nb\n)\n{\nx\n:\nwhile\na\n<=\nb\n{\na\n=\na\n%\n1\n;\n}\n}\n");
        fine("#\nduty#f(){\nf#\n(#)\n)#{\n{#}\n}#");
        fine("duty f(){}# no 10 behind it > ~ A");
        fine("duty f(){}##");
        fine("# # \n## #\nduty f(){}\n#\n");
        faulty("#duty f(){}", 2, 11);
        faulty("duty f(){#}", 2, 11);
        faulty("   \n  ", 2, 6);
    }

    @Holds(promise = 4, term = 1, says = "blanks (10, 32) and comments (# up to a 10 or the end) may stand between")
    static void blanksAndCommentsWithinTokens() {
        faultyAt("^du ty f(){}", 2);
        faultyBody("a=1< ^=2;", 2);
        faultyBody("a=1^= =2;", 2);
        faultyBody("a=1^! =2;", 1);
        faultyBody("a=1 ^2;", 2);
        faultyBody("a=1#\n^2;", 2);
        faultyBody("wh#\n^ile 1{}", 2);
        faultyBody("a=1<#\n^=2;", 2);
    }

    @Holds(promise = 4, term = 1, says = "NAMES: a small letter, then small letters and digits; 8 signs at most")
    static void namesOfOneToEightSigns() {
        for (int length = 1; length <= 8; length++) {
            String name = "z9876543".substring(0, length);
            fine("duty " + name + "(" + name + "){" + name + ":while " + name + "{" + name + "=" + name + "(" + name
                    + ");leave " + name + ";}}");
        }
        faultyAt("duty ^abcdefghi(){}", 1);
        faultyAt("duty f(^z98765432){}", 1);
        faultyBody("^abcdefghijklmnopqrstuvwxyz=1;", 1);
        faultyBody("note ^a12345678;", 1);
        faultyBody("^repeat123{}until 1;", 1);
        faultyAt("duty f(){}^dutydutyd", 1);
    }

    @Holds(promise = 4, term = 1, says = "NAMES: a small letter, then small letters and digits; 8 signs at most")
    static void namesAreToldApartByEachSign() {
        String name = "abcd1234";
        for (int i = 0; i < 8; i++) {
            String other = name.substring(0, i) + "z" + name.substring(i + 1);
            fine("duty f(" + name + "," + other + "){note " + name + ";}");
            faultyAt("duty f(" + name + "){note ^" + other + ";}", 5);
            faultyAt("duty f(" + name + "){note ^" + name.substring(0, i) + "y;}", 5);
        }
        fine("duty f(a,aa,a0,a00,aaa){}");
        faultyAt("duty f(a){^a0=1;}", 5);
        faultyAt("duty f(a0){^a=1;}", 5);
    }

    @Holds(promise = 4, term = 1, says = "NAMES: a small letter, then small letters and digits")
    static void namesWithOtherSigns() {
        faultyAt("duty ^F(){}", 1);
        faultyAt("duty f^F(){}", 1);
        faultyAt("duty ^_(){}", 1);
        faultyAt("duty f^_(){}", 1);
        faultyAt("duty ^1f(){}", 2);
        faultyAt("duty ^0(){}", 2);
        fine("duty a(){}duty z(){}duty a0(){}duty z9(){}");
    }

    @Holds(promise = 4, term = 1, says = "no KEYWORDS, which are: duty var note if else while each from to leave again "
            + "answer fail hold try mend any always later stop ensure repeat until choose when other or and not open shut "
            + "sluice sail level reach gate ship held kind cause.")
    static void keywordsAreNoNames() {
        Check.due("how many", KEYWORDS.length, 40);
        for (String word : KEYWORDS) {
            faultyAt("duty ^" + word + "(){}", 2);
            faultyAt("duty f(^" + word + "){}", 2);
            faultyBody("var ^" + word + "=1;", 2);
            faultyBody("each ^" + word + " from 1 to 2{}", 2);
            faultyBody("while 1{leave ^" + word + ";}", 2);
            fine("duty " + word + "0(){var " + word + "x=1;}");
            fine("duty x" + word + "(" + word.substring(1) + "0){}");
        }
        String[] none = {"do", "end", "then", "for", "in", "break", "return", "true", "mod", "xor", "up", "down", "lock"};
        for (String word : none) {
            fine("duty " + word + "(){}");
        }
    }

    @Holds(promise = 4, term = 1, says = "NUMBERS: digits, 9 at most.")
    static void numbersOfOneToNineDigits() {
        for (int length = 1; length <= 9; length++) {
            notes("123456789".substring(0, length), Integer.parseInt("123456789".substring(0, length)));
            notes("000000000".substring(0, length), 0);
        }
        notes("999999999", 999999999);
        notes("000000007", 7);
        faultyBody("note ^1234567890;", 1);
        faultyBody("note ^0000000000;", 1);
        faultyBody("note ^00000000000000000000000000000001;", 1);
        faultyBody("note 123456789^a;", 2);
    }

    @Holds(promise = 4, term = 1, says = "SIGNS: ( ) { } , ; : = == != < <= + - * / %")
    static void bytesThatAreNoSigns() {
        for (char sign = 33; sign < 127; sign++) {
            boolean word = sign >= 'a' && sign <= 'z' || sign >= '0' && sign <= '9';
            boolean known = word || SIGNS.indexOf(sign) >= 0;
            if (sign == '#') {
                continue;
            }
            faulty("" + sign, known ? 2 : 1, 0);
            faulty(sign + " ", known ? 2 : 1, 0);
            if (!known) {
                faulty("duty f(){a=1" + sign + "2;}", 1, 12);
                faulty("duty f(){}" + sign, 1, 10);
            }
        }
        faultyBody("a=1^>=2;", 1);
        faultyBody("a=1^!2;", 1);
        faultyBody("a=^!=2;", 2);
        faultyBody("a=1 ^!", 1);
        faultyBody("a=1^&&2;", 1);
    }

    // ---- grammar

    @Holds(promise = 4, term = 1, says = "TEXT: DUTY {DUTY}.")
    static void textOfNoneOneAndMoreDuties() {
        faulty("", 2, 0);
        faulty(" ", 2, 1);
        faulty("{}", 2, 0);
        fine("duty f(){}");
        fine("duty f(){}duty g(){}");
        faultyAt("duty f(){}^}", 2);
        faultyAt("duty f(){}^;", 2);
        faultyAt("duty f(){}^g(){}", 2);
        faultyAt("^note 1;", 2);
    }

    @Holds(promise = 4, term = 1, says = "DUTY: duty NAME ( [NAME {, NAME}] ) BLOCK.")
    static void headsOfDuties() {
        fine("duty f(){}duty g(a){}duty h(a,b){}duty i(a,b,c,d,e,g,h,j){}");
        faultyAt("duty ^(){}", 2);
        faultyAt("duty f^{}", 2);
        faultyAt("duty f(^,){}", 2);
        faultyAt("duty f(a,^){}", 2);
        faultyAt("duty f(a ^b){}", 2);
        faultyAt("duty f(a^;b){}", 2);
        faultyAt("duty f(^1){}", 2);
        faultyAt("duty f(a^=1){}", 2);
        faultyAt("duty f()^;", 2);
        faultyAt("duty f()^)", 2);
        faultyAt("duty f(^(a)){}", 2);
    }

    @Holds(promise = 4, term = 1, says = "BLOCK: '{' {STATEMENT} '}'.")
    static void blocks() {
        fineBody("");
        fineBody("{}");
        fineBody("{}{}{{}}note 1;{note 2;note 3;}");
        faultyBody("{^", 2);
        faultyBody("{}^", 2);
        faultyBody("^;}", 2);
        faultyBody("{}^;}", 2);
        faultyBody("note 1;^;}", 2);
        faultyBody("note 1^}", 2);
    }

    @Holds(promise = 4, term = 1, says = "var NAME = E ; | NAME = E ; | CALL ; | note E ;")
    static void plainStatements() {
        fineBody("var c=1;c=2;main(c,c);note c;");
        String[] faults = {"var ^=1;", "var ^1=1;", "var c^;", "var c=^;", "var c=1^,", "var c=1^}", "var c^==1;",
            "var c ^d=1;", "a=^;", "a=1^}", "a^}", "a^;", "a^+1;", "a ^b;", "a=b^=1;", "main(1,2)^}", "main(1,2)^=1;",
            "main(1,2)^+1;", "main(^,2);", "main(1,^);", "main(1^;", "main(1 ^2);", "note^;",
            "note 1^,2;", "^(1);", "^1=a;", "^-a;", "^not a;", "^kind;", "^level(1);", "^kind=1;"};
        for (String body : faults) {
            faultyBody(body, 2);
        }
    }

    @Holds(promise = 4, term = 1, says = "open E , E ; | shut E , E ; | sluice E , E , E ; | sail E , E ;")
    static void ordersWithTooFewAndTooManyNumbers() {
        String[] orders = {"open", "shut", "sluice", "sail"};
        for (String order : orders) {
            int most = order.equals("sluice") ? 3 : 2;
            fineBody(order + " 1" + ",1".repeat(most - 1) + ";");
            for (int few = 1; few < most; few++) {
                faultyBody(order + " 1" + ",1".repeat(few - 1) + "^;", 2);
            }
            faultyBody(order + " 1" + ",1".repeat(most - 1) + "^,1;", 2);
            faultyBody(order + " ^;", 2);
            faultyBody(order + " 1,^;", 2);
            faultyBody(order + " 1 ^1;", 2);
            faultyBody(order + "(1^,1);", 2);
        }
    }

    @Holds(promise = 4, term = 1, says = "if E BLOCK [else BLOCK]")
    static void ifs() {
        fineBody("if 1{}");
        fineBody("if 1{}else{}");
        fineBody("if 1{}if 2{}else{if 3{}else{}}");
        String[] faults = {"if ^{}", "if 1^;", "if 1 ^note 1;", "if 1{}else^;", "if 1{}else ^if 2{}",
            "if 1{}else{}^else{}", "^else{}", "if 1{}note 1;^else{}", "if 1{}^always{}", "if(1^{}"};
        for (String body : faults) {
            faultyBody(body, 2);
        }
    }

    @Holds(promise = 4, term = 1, says = "[NAME :] while E BLOCK [always BLOCK]")
    static void whiles() {
        fineBody("while 1{}");
        fineBody("x:while 1{}always{}");
        String[] faults = {"while ^{}", "while 1^;", "while 1 ^note 1;", "while 1{}always^;", "while 1{}always{}^always{}",
            "while 1{}^else{}", "while 1{}^until 1;", "while 1{}^mend any{}", "x ^while 1{}",
            "x:^y:while 1{}", "x:^note 1;", "x:^{}", "x:^if 1{}", "x:^try{}always{}", "x:^hold 1{}", "x:^choose 1{}",
            "x:^;", "x:^a=1;", "x:^later{}", "x:^ensure 1{}", "^:while 1{}", "^1:while 1{}",
            "^always{}"};
        for (String body : faults) {
            faultyBody(body, 2);
        }
    }

    @Holds(promise = 4, term = 1, says = "[NAME :] each NAME from E to E BLOCK [always BLOCK]")
    static void eaches() {
        fineBody("each i from 1 to 2{}");
        fineBody("x:each i from 1 to 2{}always{}");
        String[] faults = {"each ^from 1 to 2{}", "each ^1 from 1 to 2{}", "each i ^to 2{}", "each i^=1 to 2{}",
            "each i from ^to 2{}", "each i from 1^{}", "each i from 1^,2{}", "each i from 1 to ^{}", "each i from 1 to 2^;",
            "each i from 1 to 2{}always{}^always{}", "each i from 1 to 2{}^until 1;", "each i ^j from 1 to 2{}"};
        for (String body : faults) {
            faultyBody(body, 2);
        }
    }

    @Holds(promise = 4, term = 1, says = "[NAME :] repeat BLOCK [always BLOCK] until E ;")
    static void repeats() {
        fineBody("repeat{}until 1;");
        fineBody("x:repeat{}always{}until 1;");
        String[] faults = {"repeat^;", "repeat ^1{}", "repeat{}^}", "repeat{}^;", "repeat{}until^;", "repeat{}until 1^}",
            "repeat{}until 1 ^always{}", "repeat{}always{}^}", "repeat{}always^;", "repeat{}always{}^always{}", "^until 1;",
            "repeat{}^while 1{}"};
        for (String body : faults) {
            faultyBody(body, 2);
        }
    }

    @Holds(promise = 4, term = 1, says = "leave [NAME] ; | again [NAME] ; | answer [E] ; | fail E ;")
    static void waysOut() {
        fineBody("x:while 1{leave;leave x;again;again x;answer;answer 1;fail 1;}");
        String[] faults = {"leave^}", "leave x^}", "leave ^1;", "leave x^,y;", "leave x^:", "again^}", "again x^}",
            "again ^1;", "again x ^y;", "leave ^while;", "answer^}", "answer 1^}", "answer 1^,2;", "answer ^while 1{}",
            "fail ^;", "fail 1^}", "fail 1^,2;", "leave^(", "again ^-1;"};
        for (String body : faults) {
            faultyBody(body, 2);
        }
    }

    @Holds(promise = 4, term = 1, says = "hold E BLOCK | ensure E BLOCK")
    static void holdsAndEnsures() {
        String[] words = {"hold", "ensure"};
        for (String word : words) {
            fineBody(word + " 1{}");
            String[] faults = {" ^{}", " 1^;", " 1^,2{}", " 1 ^note 1;", " 1{}^always{}", " 1{}^else{}", " ^;"};
            for (String rest : faults) {
                faultyBody(word + rest, 2);
            }
        }
    }

    @Holds(promise = 4, term = 1, says = "choose E '{' {when LIST BLOCK} [other BLOCK] '}'")
    static void chooses() {
        fineBody("choose 1{}");
        fineBody("choose 1{other{}}");
        fineBody("choose 1{when 1{}}");
        fineBody("choose 1{when 1,2{}when any{}when 3{}other{}}");
        String[] faults = {"choose ^{}", "choose 1^;", "choose 1 ^when 1{}", "choose 1{^note 1;}", "choose 1{^{}}",
            "choose 1{when ^{}", "choose 1{when 1^;", "choose 1{when 1 ^note 1;", "choose 1{other^;", "choose 1{other ^1{}",
            "choose 1{other{}^when 1{}}", "choose 1{other{}^other{}}", "choose 1{when 1{}^else{}}", "choose 1{when 1{}^",
            "choose 1{^", "^when 1{}", "^other{}", "choose 1{}^other{}", "choose 1{^mend 1{}}", "choose ^any{}"};
        for (String body : faults) {
            faultyBody(body, 2);
        }
    }

    @Holds(promise = 4, term = 1, says = "LIST: any | E {, E}.")
    static void lists() {
        fineBody("choose 1{when any{}}try{}mend any{}");
        fineBody("choose 1{when 1{}when 1,2,3,4,5,6,7,8,9,10{}}try{}mend 1,2,3,4,5,6,7,8,9,10{}");
        String[] heads = {"choose 1{when ", "try{}mend "};
        String[] rests = {"any^,1{}", "1,^any{}", "^,1{}", "1,^{}", "1,^,2{}", "any ^any{}", "any^+1{}",
            "(^any){}", "1 ^2{}"};
        for (String head : heads) {
            for (String rest : rests) {
                faultyBody(head + rest, 2);
            }
        }
    }

    @Holds(promise = 4, term = 1,
            says = "try BLOCK {mend LIST BLOCK} [always BLOCK], with one mend or always at least")
    static void tries() {
        fineBody("try{}mend 1{}");
        fineBody("try{}always{}");
        fineBody("try{}mend 1{}mend 2{}mend any{}mend any{}always{}");
        String[] faults = {"try{}^}", "try{}^note 1;", "try{}^;", "try{}^", "try{}^try{}always{}", "try{}^else{}",
            "try ^1{}", "try^;", "try{}mend^{}", "try{}mend 1^;", "try{}mend 1{}always^;", "try{}always{}^mend 1{}",
            "try{}always{}^always{}", "try{}mend 1{}^other{}", "^mend 1{}", "^always{}", "try{}always ^1{}",
            "try{}^{}"};
        for (String body : faults) {
            faultyBody(body, 2);
        }
    }

    @Holds(promise = 4, term = 1, says = "later BLOCK | stop ;")
    static void latersAndStops() {
        fineBody("later{}");
        fineBody("stop;");
        String[] faults = {"later^;", "later ^1{}", "later ^note 1;", "later{}^always{}", "stop^}", "stop ^1;", "stop^{}",
            "later^}"};
        for (String body : faults) {
            faultyBody(body, 2);
        }
    }

    @Holds(promise = 4, term = 1, says = "CALL: NAME ( [E {, E}] ).")
    static void calls() {
        fine("duty f(){f();note f();}duty g(a){g(1);note g(g(1));}duty h(a,b){h(1,2);note h(1,h(3,4));}");
        String[] faults = {"main(^,1);", "main(1,^);", "main(1 ^1);", "main(1^;", "main(1,1^;", "note main(^,1);",
            "note main(1,^);", "note main(1^;", "note (main)^(1,2);", "main((1^,2));",
            "note 1^(2);"};
        for (String body : faults) {
            faultyBody(body, 2);
        }
    }

    @Holds(promise = 4, term = 1,
            says = "E: AND {or AND}. AND: NOT {and NOT}. NOT: not NOT | TEST. TEST: SUM [== or != or < or <= SUM].")
    static void joinedE() {
        fineBody("note 1 or 2 or 3 and 4 and not not 5==6;note not 1<2 and not 3<=4;note (1<2)<3;note 1!=(2==3);");
        String[] tests = {"==", "!=", "<", "<="};
        for (String first : tests) {
            for (String second : tests) {
                faultyBody("note 1" + first + "2^" + second + "3;", 2);
            }
            faultyBody("note 1" + first + "^;", 2);
            faultyBody("note ^" + first + "1;", 2);
            faultyBody("note 1" + first + "^not 1;", 2);
        }
        String[] faults = {"note 1 or^;", "note ^or 1;", "note 1 or ^or 1;", "note 1 and^;", "note ^and 1;",
            "note 1 or ^and 1;", "note not^;", "note 1 ^not 1;", "note not ^or 1;"};
        for (String body : faults) {
            faultyBody(body, 2);
        }
    }

    @Holds(promise = 4, term = 1, says = "SUM: PRODUCT {+ or - PRODUCT}. PRODUCT: UNIT {* or / or % UNIT}. "
            + "UNIT: - UNIT | NUMBER | NAME | CALL | QUERY | ( E ).")
    static void sumsAndProducts() {
        fineBody("note 1+2-3*4/5%6;note -1+--2-(-3)*-a;note (((1)));note (1 or 2)*(not 3);note -main(1,2)%-kind;");
        String[] faults = {"note 1+^;", "note ^+1;", "note 1+^+1;", "note 1*^;", "note ^*1;", "note ^/1;", "note ^%1;",
            "note 1-^*2;", "note 1+^not 1;", "note 1*^not 1;", "note -^not 1;", "note (^);", "note (1^;", "note (1^,2);",
            "note 1^);", "note -^;", "note (1)^(2);", "note 1^=1;", "note ^{};", "note ^note;", "note ^any;", "note ^:;"};
        for (String body : faults) {
            faultyBody(body, 2);
        }
    }

    @Holds(promise = 4, term = 1,
            says = "QUERY: level ( E ) | reach ( E ) | gate ( E , E ) | ship ( E ) | held ( E ) | kind | cause.")
    static void queries() {
        String[] single = {"level", "reach", "ship", "held"};
        for (String query : single) {
            fineBody("note " + query + "(1);note " + query + "(" + query + "(1))+1;");
            String[] rests = {"^;", "(^);", "(1^,2);", "(1^;", " ^1;", "^=1;"};
            for (String rest : rests) {
                faultyBody("note " + query + rest, 2);
            }
            faultyBody("^" + query + "(1);", 2);
        }
        fineBody("note gate(1,2);note gate(gate(1,0),gate(0,1));note kind+cause;");
        String[] faults = {"note gate^;", "note gate(^);", "note gate(1^);", "note gate(1,^);", "note gate(1,2^,3);",
            "note gate(^,1);", "note gate(1,2^;", "note kind^();", "note cause^(1);", "note kind ^cause;"};
        for (String body : faults) {
            faultyBody(body, 2);
        }
    }

    @Holds(promise = 4, term = 1, says = "an E goes on as far as it can")
    static void anEGoesOnAsFarAsItCan() {
        LockKeepers x = does("hold a -1{note held(2);}", ENDED, 1, 2, 0, 1, 2, 2);
        Check.due("one hold", x.told(6), 1);
        does("each i from 1 to 3 -1{note i;}", ENDED, 0, 1, 0, 2);
        does("if 0 -1{note 1;}", ENDED, 0, 1);
        Check.due("answer", did("answer a -1;", ENDED).told(1), 2);
        faultyBody("while ^a(1){}}", 5);
        faultyBody("note ^a (1);}", 5);
        fine("duty f(a){note a;if a {}while a {leave;}}");
    }

    // ---- NESTS

    @Holds(promise = 4, term = 1, says = "NEST: BLOCKS, the {} of a choose")
    static void nestsOfBlocks() {
        String[] blocks = {"^{}", "if 1^{}", "if 1{}else^{}", "while 1^{}", "while 1{}always^{}", "each i from 1 to 2^{}",
            "each i from 1 to 2{}always^{}", "repeat^{}until 1;", "repeat{}always^{}until 1;", "hold 1^{}", "ensure 1^{}",
            "try^{}always{}", "try{}mend 1^{}", "try{}mend any{}mend any^{}", "try{}always^{}", "later^{}"};
        for (String block : blocks) {
            deepFine(block);
            // one deeper its first BLOCK is the 15th NEST
            deepFault("{" + plain(block).replaceFirst("\\{", "^{"));
            // and what is in the BLOCK at the mark is so here
            deepFault(block.replace("^{", "{^{"));
        }
    }

    @Holds(promise = 4, term = 1, says = "the {} of a choose")
    static void nestsOfChooses() {
        deepFine("choose 1{}");
        deepFault("choose 1{when 1^{}}");
        deepFault("choose 1{other^{}}");
        fine("duty main(a,b){" + times("{", 11) + "choose 1{when 1{}when 2{}other{}}" + times("}", 12));
        faultyAt("duty main(a,b){" + times("{", 11) + "choose 1{when 1{}other{^{", 3);
        faultyAt("duty main(a,b){" + times("{", 13) + "choose 1^{", 3);
        deepFine("choose 1{}choose 1{}{}");
    }

    @Holds(promise = 4, term = 1, says = "the ( of E's, CALLS and QUERIES (up to its ) )")
    static void nestsOfBrackets() {
        oneNest("note ", "(", "1);");
        oneNest("note main", "(", "1,1);");
        oneNest("main", "(", "1,1);");
        oneNest("note level", "(", "1);");
        oneNest("note reach", "(", "1);");
        oneNest("note gate", "(", "1,1);");
        oneNest("note ship", "(", "1);");
        oneNest("note held", "(", "1);");
        deepFault("note (^(1));");
        deepFault("note main(^(1),1);");
        deepFault("note main(1,^(1));");
        deepFault("main(1,main^(1,1));");
        deepFault("note gate(1,level^(1));");
        deepFault("note level(^-1);");
        deepFault("note (1+^(1));");
        deepFault("note (^not 1);");
        deepFine("note (1)+(2)*(3)-main(1,2)+gate(1,1)+level(1);");
        deepFine("note kind+cause+1-1;");
    }

    @Holds(promise = 4, term = 1, says = "each - and not of a UNIT or NOT (up to its end)")
    static void nestsOfMinusAndNot() {
        oneNest("note ", "-", "1;");
        oneNest("note 1+", "-", "1;");
        oneNest("note ", "not ", "1;");
        oneNest("note 1 and ", "not ", "1;");
        deepFault("note -^-1;");
        deepFault("note not ^not 1;");
        deepFault("note not ^-1;");
        deepFault("note -^(1);");
        deepFault("note -level^(1);");
        deepFault("note -main^(1,1);");
        deepFault("note not ^(1);");
        // a UNIT ends ahead of * + < and or, a NOT ahead of and or
        deepFine("note -1*(1)+(1)-(1)/(1)%(1);note -1<(1);note -1 and(1);note -1--1+-1*-1;");
        deepFine("note not 1 and(1);note not 1 or(1);note not 1 and not 1 or not 1;");
        deepFault("note not 1+^(1);");
        deepFault("note not 1<^(1);");
        deepFault("note not 1*^-1;");
        deepFine("note -a+(1);note -kind+(1);");
    }

    @Holds(promise = 4, term = 1, says = "are at most 14 within one another (a DUTY's own BLOCK is one")
    static void fourteenAreFineFifteenAreNot() {
        fine("duty f()" + times("{", 14) + times("}", 14));
        faulty("duty f()" + times("{", 15) + times("}", 15), 3, 8 + 14);
        fine("duty f(){note " + times("(", 13) + "1" + times(")", 13) + ";}");
        faulty("duty f(){note " + times("(", 14) + "1" + times(")", 14) + ";}", 3, 14 + 13);
        fine("duty f(){note " + times("-", 13) + "1;}");
        faulty("duty f(){note " + times("-", 14) + "1;}", 3, 14 + 13);
        fine("duty f(){note " + times("not ", 13) + "1;}");
        faulty("duty f(){note " + times("not ", 14) + "1;}", 3, 14 + 52);
        fine("duty f(a){f" + times("(f", 12) + "(1" + times(")", 13) + ";}");
        faulty("duty f(a){f" + times("(f", 13) + "(1" + times(")", 14) + ";}", 3, 11 + 26);
        fine("duty f(a)" + times("{while not(1)", 3) + "{note f(-gate(-(1),not level(f(1))));}" + times("}", 3));
        // each kind of NEST once: BLOCK, hold, choose, when, not, (, -, CALL, level, (, -, -
        fine("duty f(a){hold 1{choose 1{when 1{note not(1+-f(level((--(-1)))));}}}}");
        faultyAt("duty f(a){hold 1{choose 1{when 1{note not(1+-f(level((--(-^-1)))));}}}}", 3);
    }

    @Holds(promise = 4, term = 1, says = "what stands behind one another is not)")
    static void nestsBehindOneAnother() {
        deepFine(times("{}", 60));
        deepFine(times("note (1)+-1-level(1);", 60));
        deepFine("note 0" + times("-1", 60) + times("+(1)", 60) + ";");
        deepFine("note not 0" + times(" and not 0", 60) + ";");
        deepFine("try{}" + times("mend 1{}", 40) + "always{}");
        fine("duty main(a,b){" + times("{", 11) + "choose 1{" + times("when 1{}", 60) + "other{}}" + times("}", 12));
        fine(times("duty f#()" + times("{", 14) + times("}", 14), 30));
        deepFine("while 1{}always{}repeat{}always{}until(1);if 1{}else{}each i from(1)to(2){}always{}");
    }

    @Holds(promise = 4, term = 1, says = "are at most 14 within one another")
    static void nestsOfTextsBehindOneAnother() {
        String fourteen = "duty f()" + times("{", 14) + times("}", 14);
        String[] faulty = {"duty f(){{{{", "duty f(){{note((1", "duty f(){{{if 1 a", "duty f(){choose 1{when 1{{", "duty f()1",
            "duty f(){note --not", "duty f(){note f(level(>", "duty f(){x:while 1{y:while 1{x:while 1{", "duty f()"
            + times("{", 15), "duty f(){while 1{later{while 1{"};
        LockKeepers x = new LockKeepers();
        for (String text : faulty) {
            Check.due(text, Check.read(x, text) != 0, true);
            Check.due("fourteen behind it", Check.read(x, fourteen), 0);
            Check.due("a loop's label behind it", Check.read(x, "duty f(){x:while 1{}leave;}"), 6);
            Check.due("fifteen behind it", Check.read(x, "duty f()" + times("{", 15)), 3);
            Check.due("its place", x.fault(1), 8 + 14);
        }
    }

    // ---- FAULTS 1 to 3

    @Holds(promise = 4, term = 1, says = "the first token that has one of these, at one token the least")
    static void firstTokenAndLeastFault() {
        // one that begins no token, or is too long, where nothing of the kind can stand
        faultyAt("^>", 1);
        faultyAt("duty ^1234567890(){}", 1);
        faultyAt("^abcdefghi", 1);
        faultyBody("a ^>", 1);
        // one that can't stand there and would begin a 15th NEST
        faultyAt(deep("{note ^{"), 2);
        faultyAt(deep("{a^("), 3);
        faultyAt(deep("{a=1^("), 2);
        faultyAt(deep("{a=level^("), 3);
        faultyAt(deep("{a=level^-"), 2);
    }

    @Holds(promise = 4, term = 1, says = "the first token that has one of these")
    static void earlierTokensFaultComesFirst() {
        faultyBody("a=1 ^2;>", 2);
        faultyBody("^>a=1 2;", 1);
        faultyAt(deep("{^{>"), 3);
        faultyAt(deep("{^>{"), 1);
        faultyAt(deep("{a=1 ^2;{"), 2);
        faultyAt(deep("{^{a=1 2;"), 3);
        faultyAt("duty f(){}^) duty abcdefghi", 2);
    }

    @Holds(promise = 4, term = 1, says = "1 no token begins so, or it is too long")
    static void fault1() {
        faultyBody("^@", 1);
        faultyBody("^~", 1);
        faultyBody("^\"", 1);
        faultyBody("^A=1;", 1);
        faultyBody("note ^abcdefghi;", 1);
        faultyBody("note ^1234567890;", 1);
        // it ends where the tape does
        faultyBody("note ^!", 1);
        faultyAt("duty f(){}^abcdefghi", 1);
        faultyAt("duty f(){}^1234567890", 1);
    }

    @Holds(promise = 4, term = 1, says = "2 it can't stand there (the end, too: its place is how many bytes there are)")
    static void fault2AtTheEnd() {
        String text = "duty f(a){if a{note(a);}}";
        for (int cut = 0; cut < text.length(); cut++) {
            LockKeepers x = new LockKeepers();
            String part = text.substring(0, cut);
            Check.due("read " + part, Check.read(x, part), 2);
            // dut (a NAME) and not are words that can't stand there; else it is the end that can't
            int word = part.endsWith("not") ? cut - 3 : cut;
            Check.due("place in " + part, x.fault(1), cut < 4 ? 0 : word);
        }
        faulty("duty f(){  ", 2, 11);
        faulty("duty f(){ # comment", 2, 19);
        faulty("duty f(){ \n", 2, 11);
        faulty("duty f(", 2, 7);
    }

    @Holds(promise = 4, term = 1, says = "3 it begins a 15th NEST")
    static void fault3IsAtTheTokenThatBeginsIt() {
        deepFault("{^{");
        deepFault("{choose 1 ^{");
        deepFault("{note level ^(");
        deepFault("{main ^(");
        deepFault("{note ^-");
        deepFault("{note ^not");
        // the end behind it has no say
        deepFault("{^{}}");
    }

    // ---- FAULTS 4 to 8

    @Holds(promise = 4, term = 1, says = "If there is none, the one of these that comes first by its place")
    static void tokensFaultsComeAheadOfNames() {
        faultyAt("duty f(a,a){zz=1;leave;g();f(1);}duty f(){}^}", 2);
        faultyAt("duty f(a,a){zz=1;leave;g();f(1);}duty f(){}^>", 1);
        faultyAt("duty f(a,a){zz=1;leave;" + times("{", 13) + "^{", 3);
    }

    @Holds(promise = 4, term = 1, says = "the one of these that comes first by its place")
    static void firstByPlaceWhateverIsSeenFirst() {
        faultyBody("var ^a=zz;}", 4);
        faultyBody("var c=^zz;var a=1;}", 5);
        faultyBody("each ^a from zz to zz{}}", 4);
        faultyBody("each i from ^zz to 1{var a=1;}}", 5);
        faultyBody("^main(zz);}", 7);
        faultyBody("main(^zz,main());}", 5);
        faultyBody("main(^main(),zz);}", 7);
        faultyBody("^zz(yy);}", 5);
        faultyBody("^zz=yy;}", 5);
        faultyBody("^leave;main();}", 6);
        faultyBody("x:while 1{^x:while zz{}}}", 4);
        faultyBody("note 1+^zz;}duty main(){}", 5);
        faultyAt("duty f(){}duty ^f(a,a){zz=1;}", 4);
        faultyAt("duty f(a,^a){}duty f(){}", 4);
        faultyBody("choose ^zz{when yy{}}}", 5);
        faultyBody("ensure ^zz{yy=1;}}", 5);
        faultyBody("repeat{^yy=1;}until zz;}", 5);
        faultyBody("while 1{^yy=1;}always{leave;}}", 5);
    }

    @Holds(promise = 4, term = 1, says = "at one place the least")
    static void leastOfOnePlace() {
        String thirty = times("duty f#(){}", 30);
        faultyAt(thirty + "duty ^f0(){}", 4);
        faultyAt(thirty + "duty ^g(){}", 8);
        faultyAt("duty f(a,b,c,d,e,g,h,i,^a){}", 4);
        faultyAt("duty f(a,b,c,d,e,g,h,i,^j){}", 8);
        faultyAt("duty f(a){" + times("{var v=1;}", 23) + "var ^a=1;}", 4);
        faultyAt("duty f(a){" + times("{var v=1;}", 23) + "var ^b=1;}", 8);
        faultyAt("duty f(a){" + times("{var v=1;}", 23) + "each ^a from 1 to 2{}}", 4);
        faultyAt("duty f(a){" + times("{var v=1;}", 23) + "each ^b from 1 to 2{}}", 8);
    }

    @Holds(promise = 4, term = 1, says = "4 a NAME that is told where it is there already: a DUTY's")
    static void fault4OfDuties() {
        faultyAt("duty f(){}duty ^f(){}", 4);
        faultyAt("duty f(){}duty g(){}duty ^f(a){}duty f(){}", 4);
        faultyAt("duty abcdefgh(){}duty ^abcdefgh(){}", 4);
        fine("duty f(){}duty ff(){}duty f0(){}");
        fine("duty f(f,g){}duty g(f,g){}");
    }

    @Holds(promise = 4, term = 1, says = "a parameter, var or each's where a variable of that NAME is known")
    static void fault4OfVariables() {
        faultyAt("duty f(a,^a){}", 4);
        faultyAt("duty f(a,b,c,^b){}", 4);
        faultyBody("var ^b=1;}", 4);
        faultyBody("var c=1;var ^c=2;}", 4);
        faultyBody("var c=1;{{var ^c=2;}}}", 4);
        faultyBody("each ^b from 1 to 2{}}", 4);
        faultyBody("var c=1;each ^c from 1 to 2{}}", 4);
        faultyBody("each i from 1 to 2{each ^i from 1 to 2{}}}", 4);
        faultyBody("each i from 1 to 2{var ^i=1;}}", 4);
        faultyBody("each i from 1 to 2{}always{var ^i=1;}}", 4);
        faultyBody("each i from 1 to 2{}always{each ^i from 1 to 2{}}}", 4);
        faultyBody("var c=1;later{var ^c=1;}}", 4);
        faultyBody("later{var ^a=1;}}", 4);
        fineBody("{var c=1;}var c=2;");
        fineBody("{var c=1;}{var c=2;}{each c from 1 to 2{}}each c from 1 to 2{}var c=3;");
        fineBody("if 1{var c=1;}else{var c=2;}while 1{var c=3;}always{var c=4;}try{var c=5;}mend any{var c=6;}always{var c=7;}");
        fineBody("choose 1{when 1{var c=1;}when 2{var c=2;}other{var c=3;}}");
        fine("duty f(a){var b=1;}duty g(a,b){var c=1;}duty h(c){var a=1;var b=2;}");
    }

    @Holds(promise = 4, term = 1, says = "(the E's of a var's own do not know it)")
    static void varsOwnE() {
        faultyBody("var c=^c;}", 5);
        faultyBody("var c=1+(2*^c);}", 5);
        faultyBody("var c=main(1,^c);}", 5);
        fineBody("var c=a;var d=c;");
    }

    @Holds(promise = 4, term = 1, says = "a label's where it stands around")
    static void fault4OfLabels() {
        faultyBody("x:while 1{^x:while 1{}}}", 4);
        faultyBody("x:each i from 1 to 2{^x:repeat{}until 1;}}", 4);
        faultyBody("x:repeat{if 1{^x:each i from 1 to 2{}}}until 1;}", 4);
        faultyBody("x:while 1{}always{^x:while 1{}}}", 4);
        faultyBody("x:repeat{}always{^x:while 1{}}until 1;}", 4);
        faultyBody("x:while 1{y:while 1{z:while 1{^x:while 1{}}}}}", 4);
        faultyBody("later{x:while 1{^x:while 1{}}}}", 4);
        fineBody("x:while 1{}x:while 1{}always{}x:repeat{}until 1;");
        fineBody("x:while 1{y:while 1{}y:while 1{}}y:while 1{x:while 1{}}");
        fineBody("x:while 1{later{x:while 1{}}}");
        fineBody("a:while a{b:while b{main:while 1{leave a;}}}");
    }

    @Holds(promise = 4, term = 1, says = "no variable that is known (of an E, ahead of = )")
    static void fault5OfVariables() {
        faultyBody("note ^c;}", 5);
        faultyBody("^c=1;}", 5);
        faultyBody("note ^main;}", 5);
        faultyBody("^main=1;}", 5);
        faultyBody("x:while ^x{}}", 5);
        faultyBody("x:while 1{^x=1;}}", 5);
        String[] places = {"var d=^c;", "a=^c;", "note ^c;", "open ^c,1;", "open 1,^c;", "shut ^c,1;", "sluice 1,1,^c;",
            "sail ^c,1;", "if ^c{}", "while ^c{}", "each i from ^c to 1{}", "each i from 1 to ^c{}", "repeat{}until ^c;",
            "answer ^c;", "fail ^c;", "hold ^c{}", "ensure ^c{}", "choose ^c{}", "choose 1{when ^c{}}",
            "choose 1{when 1,^c{}}", "try{}mend ^c{}", "main(^c,1);", "main(1,^c);", "note -^c;", "note not ^c;",
            "note 1 or ^c;", "note 1 and ^c;", "note 1<^c;", "note (^c);", "note level(^c);", "note gate(1,^c);"};
        for (String place : places) {
            faultyBody(place + "}", 5);
        }
    }

    @Holds(promise = 4, term = 1, says = "no DUTY (of a CALL)")
    static void fault5OfCalls() {
        faultyBody("^g();}", 5);
        faultyBody("note ^g(1);}", 5);
        faultyBody("^a();}", 5);
        faultyBody("note ^a(1,2);}", 5);
        faultyBody("x:while 1{^x();}}", 5);
        fine("duty f(){g();}duty g(){f();g();}");
        faultyAt("duty f(){^gg();}duty g(){}", 5);
    }

    @Holds(promise = 4, term = 1, says = "no label that stands around (behind leave, again)")
    static void fault5OfLabels() {
        String[] words = {"leave", "again"};
        for (String word : words) {
            faultyBody(word + " ^x;}", 5);
            faultyBody("while 1{" + word + " ^x;}}", 5);
            faultyBody("x:while 1{}" + word + " ^x;}", 5);
            faultyBody("x:while 1{}while 1{" + word + " ^x;}}", 5);
            faultyBody("while 1{x:while 1{}" + word + " ^x;}}", 5);
            faultyBody("x:while 1{later{" + word + " ^x;}}}", 5);
            faultyBody("x:while 1{later{while 1{" + word + " ^x;}}}}", 5);
            faultyBody("while 1{" + word + " ^a;}}", 5);
            faultyBody("while 1{" + word + " ^main;}}", 5);
            fineBody("x:while 1{" + word + " x;}");
            fineBody("x:while 1{}always{" + word + " x;}");
            fineBody("x:while 1{while 1{try{" + word + " x;}always{" + word + " x;}}}");
        }
    }

    @Holds(promise = 4, term = 1, says = "6 leave or again without a NAME where no loop stands around (at it)")
    static void fault6() {
        String[] words = {"leave", "again"};
        for (String word : words) {
            faultyBody("^" + word + ";}", 6);
            faultyBody("if 1{^" + word + ";}}", 6);
            faultyBody("while 1{}^" + word + ";}", 6);
            faultyBody("while 1{}always{}^" + word + ";}", 6);
            faultyBody("while 1{later{^" + word + ";}}}", 6);
            faultyBody("while 1{}always{later{^" + word + ";}}}", 6);
            faultyBody("while 1{later{while 1{}^" + word + ";}}}", 6);
            faultyBody("later{^" + word + ";}}", 6);
            faultyBody("choose 1{when 1{^" + word + ";}}}", 6);
            faultyBody("try{^" + word + ";}always{}}", 6);
            fineBody("while 1{" + word + ";}");
            fineBody("while 1{}always{" + word + ";}");
            fineBody("each i from 1 to 2{if 1{" + word + ";}}repeat{" + word + ";}until 1;");
            fineBody("while 1{later{}" + word + ";}");
            fineBody("later{while 1{" + word + ";}}");
        }
        faultyAt("duty f(){while 1{}}duty g(){^leave;}", 6);
    }

    @Holds(promise = 4, term = 1,
            says = "7 a CALL that has not as many E's as that DUTY has parameters (at its NAME)")
    static void fault7() {
        String all = "1,2,3,4,5,6,7,8,9,1,2";
        for (int has = 0; has <= 8; has++) {
            String head = "duty f(" + "a,b,c,d,e,g,h,i".substring(0, Math.max(2 * has - 1, 0)) + "){";
            for (int given = 0; given <= 10; given++) {
                String rest = "(" + all.substring(0, Math.max(2 * given - 1, 0)) + ")";
                if (given == has) {
                    fine(head + "f" + rest + ";note f" + rest + ";}");
                } else {
                    faultyAt(head + "^f" + rest + ";}", 7);
                    faultyAt(head + "note 1+^f" + rest + ";}", 7);
                }
            }
        }
        faultyAt("duty f(){^g();}duty g(a){}", 7);
    }

    @Holds(promise = 4, term = 1, says = "8 the NAME of a 31st DUTY")
    static void fault8OfDuties() {
        fine(times("duty f#(){}", 30));
        faultyAt(times("duty f#(){}", 30) + "duty ^g(){}", 8);
        faultyAt(times("duty f#(){}", 30) + "duty ^g(){}duty h(){}", 8);
        faultyAt(times("duty f#(){}", 29) + "duty ^f0(){}duty g(){}", 4);
    }

    @Holds(promise = 4, term = 1, says = "a 9th parameter")
    static void fault8OfParameters() {
        fine("duty f(a,b,c,d,e,g,h,i){}");
        faultyAt("duty f(a,b,c,d,e,g,h,i,^j){}", 8);
        faultyAt("duty f(a,b,c,d,e,g,h,i,^j,k,l){}", 8);
        fine("duty f(a,b,c,d,e,g,h,i){}duty j(a,b,c,d,e,g,h,i){}");
    }

    @Holds(promise = 4, term = 1, says = "a 25th variable of a DUTY (parameters are some)")
    static void fault8OfVariables() {
        String[] heads = {"duty f(){", "duty f(a){", "duty f(a,b,c,d,e,g,h,i){"};
        int[] has = {0, 1, 8};
        for (int i = 0; i < heads.length; i++) {
            fine(heads[i] + times("var v#=1;", 24 - has[i]) + "}");
            faultyAt(heads[i] + times("var v#=1;", 24 - has[i]) + "var ^w=1;}", 8);
            fine(heads[i] + times("{var v=1;}", 24 - has[i]) + "}");
            faultyAt(heads[i] + times("{var v=1;}", 24 - has[i]) + "{var ^v=1;}}", 8);
            fine(heads[i] + times("each v from 1 to 2{}", 24 - has[i]) + "}");
            faultyAt(heads[i] + times("each v from 1 to 2{}", 24 - has[i]) + "later{each ^v from 1 to 2{}}}", 8);
        }
        fine("duty g(){" + times("var v#=1;", 24) + "}duty h(){" + times("var v#=1;", 24) + "}");
    }

    @Holds(promise = 4, term = 1, says = "What is told where it is there already, or is one too many, is known all the same")
    static void whatIsTooMuchIsKnown() {
        // the call knows the 31st DUTY, which stands behind it, and all of its parameters
        faultyAt("duty f(){g(1);}" + times("duty f#(){}", 29) + "duty ^g(a){}", 8);
        faultyAt("duty f(){^g();}" + times("duty f#(){}", 29) + "duty g(a){}", 7);
        faultyAt("duty f(){g(1,2,3,4,5,6,7,8,9);}duty g(a,b,c,d,e,h,i,j,^k){}", 8);
        faultyAt("duty f(){^g(1,2,3,4,5,6,7,8);}duty g(a,b,c,d,e,h,i,j,k){}", 7);
        faultyAt("duty f(){g(1,2);}duty g(a,^a){}", 4);
        faultyAt("duty f(){^g(1);}duty g(a,a){}", 7);
        // what stands behind them has no fault of its own that would come first
        faultyAt("duty f(a,b,c,d,e,g,h,i,^j){note j;}", 8);
        faultyAt("duty f(){" + times("{var v=1;}", 24) + "var ^w=1;note w;}", 8);
    }

    @Holds(promise = 4, term = 1, says = "of several DUTIES of one NAME the first one is meant")
    static void firstDutyOfANameIsMeant() {
        faultyAt("duty f(){g(1);}duty g(a){}duty ^g(a,b){}", 4);
        faultyAt("duty f(){^g(1,2);}duty g(a){}duty g(a,b){}", 7);
        faultyAt("duty f(){^g();}duty g(a){}duty g(){}duty g(){}", 7);
    }

    // ---- what is known where

    @Holds(promise = 4, term = 1, says = "DUTIES are known everywhere.")
    static void dutiesAreKnownEverywhere() {
        fine("duty f(){f();g();h();}duty g(){f();g();h();}duty h(){f();g();h();}");
        fine("duty f(){later{while g(1){try{}mend g(2){}}}}duty g(a){}");
        fine("duty a(){z();}" + times("duty f#(){a();z();}", 28) + "duty z(){a();}");
    }

    @Holds(promise = 4, term = 1, says = "A parameter is known in its DUTY's BLOCK")
    static void parametersAreKnownInTheirDuty() {
        fine("duty f(a){a=a;{{a=a;}}later{a=a;}while a{}always{a=a;}}");
        faultyAt("duty f(a){}duty g(){note ^a;}", 5);
        faultyAt("duty f(){note ^a;}duty g(a){}", 5);
        faultyAt("duty f(a){}duty g(b){^a=b;}duty h(a){}", 5);
    }

    @Holds(promise = 4, term = 1, says = "var's NAME behind its ; up to the end of the BLOCK in which it stands")
    static void varsAreKnownToTheirBlocksEnd() {
        fineBody("var c=1;note c;{note c;{c=2;}}later{note c;}while c{c=0;}always{c=1;}");
        faultyBody("note ^c;var c=1;}", 5);
        faultyBody("^c=1;var c=1;}", 5);
        faultyBody("{var c=1;}note ^c;}", 5);
        faultyBody("{var c=1;{}}{note ^c;}}", 5);
        faultyBody("if 1{var c=1;}else{note ^c;}}", 5);
        faultyBody("while 1{var c=1;}note ^c;}", 5);
        faultyBody("while 1{var c=1;}always{note ^c;}}", 5);
        faultyBody("repeat{var c=1;}until ^c;}", 5);
        faultyBody("repeat{}always{var c=1;}until ^c;}", 5);
        faultyBody("try{var c=1;}mend ^c{}}", 5);
        faultyBody("try{var c=1;}mend any{note ^c;}}", 5);
        faultyBody("try{var c=1;}always{note ^c;}}", 5);
        faultyBody("try{}mend any{var c=1;}mend any{note ^c;}}", 5);
        faultyBody("choose 1{when 1{var c=1;}when ^c{}}}", 5);
        faultyBody("choose 1{when 1{var c=1;}other{note ^c;}}}", 5);
        faultyBody("later{var c=1;}note ^c;}", 5);
        faultyBody("hold 1{var c=1;}note ^c;}", 5);
        faultyBody("ensure ^c{var c=1;}}", 5);
        faultyAt("duty f(){var c=1;}duty g(){note ^c;}", 5);
    }

    @Holds(promise = 4, term = 1, says = "each's NAME, and a label, in the loop's BLOCK and always BLOCK")
    static void eachsNameAndLabelsAreKnownInTheLoop() {
        fineBody("x:each i from 1 to 2{note i;i=3;leave x;}always{note i;again x;}");
        fineBody("each i from 1 to 2{later{note i;}}always{later{i=1;}}");
        faultyBody("each i from ^i to 2{}}", 5);
        faultyBody("each i from 1 to ^i{}}", 5);
        faultyBody("each i from 1 to 2{}note ^i;}", 5);
        faultyBody("each i from 1 to 2{}always{}^i=1;}", 5);
        faultyBody("x:each i from 1 to 2{}always{}while 1{leave ^x;}}", 5);
        fineBody("each i from 1 to 2{each j from i to i{}each j from 1 to i{}}");
        fineBody("each i from 1 to 2{}each i from 1 to 2{}always{}each i from 1 to 2{}");
    }

    @Holds(promise = 4, term = 1, says = "AROUND a place stand the loops in whose BLOCK or always BLOCK it is, "
            + "but for those that stand around a later in which it is.")
    static void whatStandsAround() {
        fineBody("x:while 1{y:while 1{leave x;leave y;leave;}always{again x;again y;again;}leave x;}always{leave x;}");
        faultyBody("x:while 1{y:while 1{}leave ^y;}}", 5);
        faultyBody("x:while 1{y:while 1{}always{}leave ^y;}}", 5);
        faultyBody("x:while 1{later{y:while 1{leave y;leave ^x;}}}}", 5);
        faultyBody("x:while 1{later{later{leave ^x;}}}}", 5);
        faultyBody("later{x:while 1{later{leave ^x;}}}}", 5);
        fineBody("x:while 1{later{x:while 1{leave x;later{x:while 1{leave x;}}leave;}}leave x;}");
        // a later ends, and all loops stand around again
        fineBody("x:while 1{later{y:while 1{later{}leave y;}}leave x;again;}");
    }

    @Holds(promise = 4, term = 1, says = "SIGNS: ( ) { } , ; : = == != < <= + - * / %")
    static void eachSignCanStandSomewhere() {
        List<String> bodies = new ArrayList<>();
        for (String op : "== != < <= + - * / %".split(" ")) {
            bodies.add("note 1" + op + "2;");
            bodies.add("note 1 " + op + " 2;");
        }
        bodies.add("main(1,2);x:while 1{}a=1;");
        for (String body : bodies) {
            fineBody(body);
        }
    }
}
