import java.util.Arrays;
import java.util.HashSet;
import java.util.Set;

/**
 * The grammar's boundaries (promise 3): for what stands ahead, each token with which a text goes on,
 * and each other one, which is SYNTAX at it (promise 4).
 */
final class GrammarBoundaryTest {
    private static final Bench BENCH = new Bench("GrammarBoundaryTest");
    private static final String BINARY = " + - * // % .. == ~= < <= > >= and or ";
    private static final String EXP = " nil false true 1 'a' ... function x ( { not # - ";
    private static final String STATEMENT = " ; x ( do while repeat if for function local break return ";
    private static final String SUFFIX = " ( { [ . : 'a' ";
    private static final String OTHERS = " ) ] } , = else elseif end in then until ";

    public static void main(String[] args) {
        statements();
        namesAndTargets();
        loopsAndBranches();
        procedures();
        returns();
        exps();
        bracketsAndTables();
        ends();
        strengths();
        sides();
        prefixes();
        BENCH.finish();
    }

    private static Set<String> tokens(String row) {
        return new HashSet<>(Arrays.asList(row.trim().split(" +")));
    }

    /** Behind this only these tokens go on; the text's end is there, too, if it says so. */
    private static void follow(String ahead, String row, boolean maybeEnd) {
        Set<String> on = tokens(row);
        int place = ahead.length() + 1;
        for (String token : tokens(BINARY + EXP + STATEMENT + SUFFIX + OTHERS)) {
            String text = ahead + " " + token;
            int fault = BENCH.run(text, 50);
            boolean refused = fault == 1 && BENCH.script().place() == place;
            BENCH.same(text + " goes on, if 1", refused ? 0 : 1, on.contains(token) ? 1 : 0);
            BENCH.fetched();
        }
        int fault = BENCH.run(ahead + " ", 50);
        BENCH.same(ahead + " may end, if 1", fault == 1 ? 0 : 1, maybeEnd ? 1 : 0);
        if (!maybeEnd) {
            BENCH.same("end of " + ahead, BENCH.script().place(), place);
        }
        BENCH.fetched();
    }

    private static void statements() {
        follow("", STATEMENT, true);
        follow(";", STATEMENT, true);
        follow("do", STATEMENT + "end", false);
        follow("do end", STATEMENT, true);
        follow("f()", STATEMENT + SUFFIX, true);
        follow("f'a'", STATEMENT + SUFFIX, true);
        follow("f{}", STATEMENT + SUFFIX, true);
        follow("t:m()", STATEMENT + SUFFIX, true);
        follow("t:m'a'", STATEMENT + SUFFIX, true);
        follow("(f)()", STATEMENT + SUFFIX, true);
        follow("while a do break", STATEMENT + "end", false);
    }

    private static void namesAndTargets() {
        follow("x", "= ," + SUFFIX, false);
        follow("(x)", SUFFIX, false);
        follow("x.y", "= ," + SUFFIX, false);
        follow("x[1]", "= ," + SUFFIX, false);
        follow("f().y", "= ," + SUFFIX, false);
        follow("(x).y", "= ," + SUFFIX, false);
        follow("x.", "x", false);
        follow("x:", "x", false);
        follow("x:y", "( { 'a'", false);
        follow("x,", "x (", false);
        follow("x, y", "= ," + SUFFIX, false);
        follow("x, y()", SUFFIX, false);
        follow("x, (y)", SUFFIX, false);
        follow("x, y =", EXP, false);
        follow("x =", EXP, false);
        follow("x = 1", BINARY + "," + STATEMENT, true);
        follow("x = 1,", EXP, false);
        follow("local", "x function", false);
        follow("local x", "= ," + STATEMENT, true);
        follow("local x,", "x", false);
        follow("local x, y", "= ," + STATEMENT, true);
        follow("local x =", EXP, false);
        follow("local x = 1", BINARY + "," + STATEMENT, true);
    }

    private static void loopsAndBranches() {
        follow("while", EXP, false);
        follow("while a", BINARY + SUFFIX + "do", false);
        follow("while a do", STATEMENT + "end", false);
        follow("while a do end", STATEMENT, true);
        follow("repeat", STATEMENT + "until", false);
        follow("repeat until", EXP, false);
        follow("repeat until a", BINARY + SUFFIX + STATEMENT, true);
        follow("if", EXP, false);
        follow("if a", BINARY + SUFFIX + "then", false);
        follow("if a then", STATEMENT + "else elseif end", false);
        follow("if a then elseif", EXP, false);
        follow("if a then elseif 1", BINARY + "then", false);
        follow("if a then elseif 1 then", STATEMENT + "else elseif end", false);
        follow("if a then else", STATEMENT + "end", false);
        follow("if a then end", STATEMENT, true);
        follow("for", "x", false);
        follow("for i", "= , in", false);
        follow("for i =", EXP, false);
        follow("for i = 1", BINARY + ",", false);
        follow("for i = 1,", EXP, false);
        follow("for i = 1, 2", BINARY + ", do", false);
        follow("for i = 1, 2, 3", BINARY + "do", false);
        follow("for i = 1, 2 do", STATEMENT + "end", false);
        follow("for i,", "x", false);
        follow("for i, j", ", in", false);
        follow("for i in", EXP, false);
        follow("for i in 1", BINARY + ", do", false);
        follow("for i in 1, 2, 3, 4", BINARY + ", do", false);
        follow("for i in a do", STATEMENT + "end", false);
        follow("for i in a do end", STATEMENT, true);
    }

    private static void procedures() {
        follow("function", "x", false);
        follow("function f", ". : (", false);
        follow("function f.", "x", false);
        follow("function f.g", ". : (", false);
        follow("function f:", "x", false);
        follow("function f:g", "(", false);
        follow("local function", "x", false);
        follow("local function f", "(", false);
        follow("x = function", "(", false);
        for (String begin : new String[] {"function f(", "function f:g(", "local function f(", "x = function("}) {
            follow(begin, "x ... )", false);
            follow(begin + "a", ", )", false);
            follow(begin + "a,", "x ...", false);
            follow(begin + "...", ")", false);
            follow(begin + "a, ...", ")", false);
            follow(begin + ")", STATEMENT + "end", false);
        }
        follow("function f() end", STATEMENT, true);
        follow("local function f() end", STATEMENT, true);
        follow("x = function() end", BINARY + "," + STATEMENT, true);
    }

    private static void returns() {
        follow("return", EXP + ";", true);
        follow("return 1", BINARY + ", ;", true);
        follow("return a", BINARY + SUFFIX + ", ;", true);
        follow("return 1,", EXP, false);
        follow("return ;", "", true);
        follow("return 1;", "", true);
        follow("do return", EXP + "; end", false);
        follow("do return 1", BINARY + ", ; end", false);
        follow("do return ;", "end", false);
        follow("do return end", STATEMENT, true);
        follow("repeat return 1", BINARY + ", ; until", false);
        follow("if a then return", EXP + "; else elseif end", false);
        follow("if a then return ;", "else elseif end", false);
        follow("x = function() return 1", BINARY + ", ; end", false);
    }

    private static void exps() {
        for (String value : new String[] {"nil", "true", "false", "1", "'a'", "...", "{}", "-1", "not nil"}) {
            follow("x = " + value, BINARY + "," + STATEMENT, true);
        }
        for (String prefix : new String[] {"y", "(y)", "y.z", "y[1]", "y()", "y{}", "y'a'", "y:z()", "- y", "not y", "1 + y"}) {
            follow("x = " + prefix, BINARY + SUFFIX + "," + STATEMENT, true);
        }
        for (String sign : tokens(BINARY)) {
            follow("x = 1 " + sign, EXP, false);
        }
        for (String sign : new String[] {"not", "#", "-"}) {
            follow("x = " + sign, EXP, false);
        }
        follow("x = y.", "x", false);
        follow("x = y:", "x", false);
        follow("x = y:z", "( { 'a'", false);
    }

    private static void bracketsAndTables() {
        follow("x = (", EXP, false);
        follow("x = (1", BINARY + ")", false);
        follow("x = (y", BINARY + SUFFIX + ")", false);
        follow("x = y[", EXP, false);
        follow("x = y[1", BINARY + "]", false);
        follow("f(", EXP + ")", false);
        follow("f(1", BINARY + ", )", false);
        follow("f(1,", EXP, false);
        follow("x = {", EXP + "[ }", false);
        follow("x = {1", BINARY + ", ; }", false);
        follow("x = {y", BINARY + SUFFIX + "= , ; }", false);
        follow("x = {y.z", BINARY + SUFFIX + ", ; }", false);
        follow("x = {(y)", BINARY + SUFFIX + ", ; }", false);
        follow("x = {y =", EXP, false);
        follow("x = {y = 1", BINARY + ", ; }", false);
        follow("x = {y = z", BINARY + SUFFIX + ", ; }", false);
        follow("x = {[", EXP, false);
        follow("x = {[1", BINARY + "]", false);
        follow("x = {[1]", "=", false);
        follow("x = {[1] =", EXP, false);
        follow("x = {[1] = 1", BINARY + ", ; }", false);
        follow("x = {1,", EXP + "[ }", false);
        follow("x = {1;", EXP + "[ }", false);
        follow("x = {1, y", BINARY + SUFFIX + "= , ; }", false);
    }

    /** A word that ends one thing ends no other. */
    private static void ends() {
        String[] open = {"do ", "while a do ", "repeat ", "if a then ", "if a then else ", "for i = 1, 2 do ", "for k in x do ", "function f() ", "x = function() "};
        for (String begin : open) {
            boolean repeats = begin.startsWith("repeat");
            for (String word : "end until else elseif then do in".split(" ")) {
                boolean on = word.equals("do") || word.equals(repeats ? "until" : "end") || begin.equals("if a then ") && word.startsWith("else");
                int fault = BENCH.run(begin + word, 9);
                BENCH.same(begin + word + " goes on, if 1", fault == 1 && BENCH.script().place() == begin.length() ? 0 : 1, on ? 1 : 0);
                BENCH.fetched();
            }
        }
        for (String word : "end until else elseif then in".split(" ")) {
            BENCH.refuses(word, 1, 0);
            BENCH.refuses("x = 1 " + word, 1, 6);
        }
    }

    /** Of two signs the stronger one first; both kinds of brackets show which. */
    private static void strengths() {
        String[] signs = {"or", "and", "<", "..", "+", "*"};
        String row = "local function m(n) return setmetatable({n = n}, M) end M = {} "
                + "for _, k in pairs({'__lt', '__concat', '__add', '__mul'}) do M[k] = function(a, b) return m('(' .. a.n .. b.n .. ')') end end "
                + "M.__lt = function(a, b) L = '(' .. a.n .. b.n .. ')' return true end local a, b, c = m('a'), m('b'), m('c') ";
        for (int i = 3; i < signs.length; i++) {
            for (int k = 3; k < signs.length; k++) {
                boolean left = i > k || i == k && i != 3;
                BENCH.writes(row + "print((a " + signs[i] + " b " + signs[k] + " c).n)", left ? "((ab)c)\n" : "(a(bc))\n");
            }
            BENCH.writes(row + "x = a < b " + signs[i] + " c print(L) x = a " + signs[i] + " b < c print(L)", "(a(bc))\n((ab)c)\n");
        }
        BENCH.writes("print(1 or nil and nil, nil and nil or 1, nil == nil and 1, 1 or nil == 1, nil and 1 == 2)", "1 1 1 1 nil\n");
        BENCH.writes("print(1 < 2 == true, true == (1 < 2), 1 == 1 ~= false, 2 > 1 == true, 1 <= 1 == true, 1 >= 2 == false)", "true true true true true true\n");
        BENCH.writes("print(2 + 3 * 4, 2 * 3 + 4, 2 - 3 * 4, 7 // 2 + 1, 7 % 4 - 1, 1 + 7 // 2, 10 - 7 % 4)", "14 10 -10 4 2 4 7\n");
        // Unary signs are stronger than all of them.
        BENCH.writes("print(-2 + 3, -2 * 3, - 7 // 2, -7 % 4, #'ab' .. 'c', not nil == true, not 1 or 2, #'ab' == 2, -1 .. '')", "1 -6 -4 1 2c true 2 true -1\n");
        BENCH.writes("print(2 * -3, 2 - -3, 1 .. -2, 1 == not nil, nil or not nil, 2 + #'ab')", "-6 5 1-2 false true 4\n");
        // Members and calls are stronger than unary signs.
        BENCH.writes("local t = {x = 5, f = function() return 6 end, l = 'abc'} print(-t.x, -t.f(), #t.l, not t.y, -t['x'], - -t.x)", "-5 -6 3 true -5 5\n");
    }

    private static void sides() {
        BENCH.writes("print(10 - 3 - 2, 10 - (3 - 2), 100 // 5 // 2, 100 // (5 // 2), 100 % 7 % 2, 2 * 7 % 4, 7 % 4 * 2, 7 // 2 * 2)", "5 9 10 50 0 2 6 6\n");
        BENCH.writes("print(1 - 2 + 3, 1 + 2 - 3, 8 // 2 % 3, nil or false or 3, 1 and nil and 3)", "2 0 1 3 nil\n");
        BENCH.writes("print(pcall(function() return 1 < 2 < 3 end)) print(1 == 1 == 1, 1 ~= 1 == false)", "false no order\nfalse true\n");
        BENCH.writes("local s = '' local function c(x) s = s .. x return x end print(c('a') .. c('b') .. c('c'), s)", "abc abc\n");
    }

    private static void prefixes() {
        // A prefix goes as far as it can, also over the end of a line.
        BENCH.writes("local function f(x) print(x) return f end local g = f\n(1)", "1\n");
        BENCH.refuses("local g = f\n(g).x = 1", 1, 18);
        BENCH.writes("local g = f;\n(print)(1)", "1\n");
        BENCH.fails("local g = 1 print\n'a'\n'b'", "a\n! no call\n");
        BENCH.writes("local t = {print} local i = t\n[1] i(2)", "2\n");
        BENCH.writes("local x = 5 (print)(x)", "5\n");
        BENCH.writes("local x = {} (print)(#x)", "0\n");
        BENCH.writes("local x = 'a' (print)(x)", "a\n");
        BENCH.writes("local x = ... (print)(x)", "nil\n");
        BENCH.writes("local x = function() end (print)(type(x))", "function\n");
        // A name with '=' behind it is a field's name, one with '==' is not.
        BENCH.writes("x = 1 local t = {x = 2, x == 1, x} print(t.x, t[1], t[2])", "2 true 1\n");
    }
}
