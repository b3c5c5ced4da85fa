/** The boundaries of the grammar's RULES, LIMITS and FAULTS (promise 3), with their places (promise 4). */
final class LimitBoundaryTest {
    private static final Bench BENCH = new Bench("LimitBoundaryTest");

    public static void main(String[] args) {
        variablesOfTheText();
        variablesOfProcedures();
        variablesOfFors();
        variablesOutOfScope();
        keptVariables();
        keptByOthersWithin();
        listsOfExps();
        listsOfNamesAndTargets();
        whatIsNoList();
        firstTokensOfTheEleventh();
        nestingOfStatements();
        nestingOfProcedures();
        nestingOfBrackets();
        nestingOfSigns();
        whatDoesNotNest();
        breaks();
        extraValues();
        lowerNumbersFirst();
        leftmostFirst();
        longTexts();
        BENCH.finish();
    }

    private static String locals(int n) {
        return Bench.numbered("local v%", n, " ") + " ";
    }

    /** A text that goes on up to its end, where alone it has its fault: so all of it is within the limits. */
    private static void endsEarly(String text) {
        BENCH.same("fault of what goes on: " + text, BENCH.run(text, 77), 1);
        BENCH.same("its place", BENCH.script().place(), text.length());
    }

    private static void variablesOfTheText() {
        endsEarly(locals(40) + "do");
        BENCH.refuses(locals(40) + "local w", 3, locals(40).length() + 6);
        BENCH.refuses(locals(40) + "local w = 1", 3, locals(40).length() + 6);
        BENCH.refuses(locals(40) + "local function w() end", 3, locals(40).length() + 15);
        endsEarly(locals(39) + "local function w() end do");
        // Those of a statement that is not through count.
        endsEarly(locals(38) + "local x, y do");
        BENCH.refuses(locals(38) + "local x, y, z = 1", 3, locals(38).length() + 12);
        endsEarly(locals(30) + "local " + Bench.numbered("x%", 10, ",") + " = 1 do");
        BENCH.refuses(locals(31) + "local " + Bench.numbered("x%", 10, ",") + " = 1", 3,
                locals(31).length() + 6 + Bench.numbered("x%", 9, ",").length() + 1);
        // Of one name there may be several.
        endsEarly(Bench.times("local v ", 40) + "do");
        BENCH.refuses(Bench.times("local v ", 41), 3, 40 * 8 + 6);
        BENCH.writes(Bench.numbered("local v% = %", 40, " ") + " print(v1, v20, v39, v40)", "1 20 39 40\n");
        // Globals do not count.
        BENCH.writes(locals(40) + Bench.numbered("g% = %", 50, " ") + " print(g50)", "50\n");
    }

    private static void variablesOfProcedures() {
        String ten = Bench.numbered("p%", 10, ",");
        endsEarly("function f(" + ten + ") " + locals(30) + "do");
        BENCH.refuses("function f(" + ten + ") " + locals(31), 3, ("function f(" + ten + ") " + locals(30)).length() + 6);
        endsEarly("function f(" + ten + ", ...) " + locals(30) + "do");
        // self is one of them.
        endsEarly("function t:m(" + ten + ") " + locals(29) + "do");
        BENCH.refuses("function t:m(" + ten + ") " + locals(30), 3, ("function t:m(" + ten + ") " + locals(29)).length() + 6);
        endsEarly("function t.m(" + ten + ") " + locals(30) + "do");
        // Each procedure has its own.
        endsEarly(locals(40) + "f = function(" + ten + ") " + locals(30) + "g = function(" + ten + ") " + locals(30) + "do");
        endsEarly(locals(39) + "local function f(" + ten + ") " + locals(30) + "end do");
        BENCH.refuses(locals(40) + "f = function() " + locals(40) + "end local w", 3, (locals(40) + "f = function() " + locals(40) + "end ").length() + 6);
    }

    private static void variablesOfFors() {
        // Three of its own, at the word for, then its names.
        for (String kind : new String[] {"for i = 1, 2 do ", "for k in x do "}) {
            endsEarly(locals(36) + kind);
            BENCH.refuses(locals(37) + kind, 3, locals(37).length() + 4);
            BENCH.refuses(locals(38) + kind, 3, locals(38).length());
            BENCH.refuses(locals(39) + kind, 3, locals(39).length());
            BENCH.refuses(locals(40) + kind, 3, locals(40).length());
            endsEarly(locals(35) + kind + "local a do");
            BENCH.refuses(locals(36) + kind + "local a", 3, (locals(36) + kind).length() + 6);
            endsEarly(locals(32) + kind + kind);
            BENCH.refuses(locals(33) + kind + kind, 3, (locals(33) + kind).length() + 4);
            BENCH.refuses(locals(34) + kind + kind, 3, (locals(34) + kind).length());
        }
        endsEarly(locals(27) + "for " + Bench.numbered("k%", 10, ",") + " in x do ");
        BENCH.refuses(locals(28) + "for " + Bench.numbered("k%", 10, ",") + " in x do ", 3,
                locals(28).length() + 4 + Bench.numbered("k%", 9, ",").length() + 1);
        BENCH.refuses(locals(36) + "for k, v in x do ", 3, locals(36).length() + 7);
        BENCH.writes(Bench.numbered("local v% = %", 36, " ") + " for i = v1, v36, 12 do print(i, v36) end", "1 36\n13 36\n25 36\n");
    }

    private static void variablesOutOfScope() {
        String some = locals(39);
        endsEarly(some + "do local a end do local b end local c do");
        endsEarly(some + "while x do local a end local c do");
        endsEarly(some + "repeat local a until x local c do");
        endsEarly(some + "if x then local a elseif y then local b else local c end local d do");
        endsEarly(locals(36) + "for i = 1, 2 do end local a local b local c local d do");
        BENCH.refuses(locals(36) + "for i = 1, 2 do end local a local b local c local d local e", 3,
                (locals(36) + "for i = 1, 2 do end local a local b local c local d ").length() + 6);
        endsEarly(locals(36) + "for k in x do end for i = 1, 2 do end local a local b local c local d do");
        BENCH.refuses(some + "do local a local b", 3, (some + "do local a ").length() + 6);
        BENCH.refuses(some + "repeat local a local b", 3, (some + "repeat local a ").length() + 6);
    }

    private static void keptVariables() {
        String outer = locals(21) + "f = function() ";
        String twenty = Bench.numbered("v% = 1", 20, " ") + " ";
        endsEarly(outer + twenty + "do");
        BENCH.refuses(outer + twenty + "v21 = 1", 3, (outer + twenty).length());
        // Each counts once, however often it is named.
        endsEarly(outer + twenty + twenty + "do");
        endsEarly(outer + twenty + "v1(v2) v3.v21 = {v21 = v4} do");
        BENCH.refuses(outer + twenty + "v1(v21)", 3, (outer + twenty).length() + 3);
        BENCH.refuses(outer + twenty + "x = {v21}", 3, (outer + twenty).length() + 5);
        BENCH.refuses(outer + twenty + "x = v21.y", 3, (outer + twenty).length() + 4);
        BENCH.refuses(outer + twenty + "x, v21 = 1", 3, (outer + twenty).length() + 3);
        BENCH.refuses(outer + twenty + "x = y[v21]", 3, (outer + twenty).length() + 6);
        BENCH.refuses(outer + twenty + "function v21() end", 3, (outer + twenty).length() + 9);
        BENCH.refuses(outer + twenty + "function v21.y() end", 3, (outer + twenty).length() + 9);
        BENCH.refuses(outer + twenty + "for i = 1, v21 do end", 3, (outer + twenty).length() + 11);
        // Its own variables and globals are none.
        endsEarly(outer + twenty + "local v21 v21 = 1 g1, g2 = 1 do");
        BENCH.refuses(outer + twenty + "local v21 = v21", 3, (outer + twenty).length() + 12);
        // Of two variables of one name each counts.
        BENCH.refuses(locals(20) + "local w f = function() " + twenty + "w = 1", 3, (locals(20) + "local w f = function() " + twenty).length());
        BENCH.writes(Bench.numbered("local v% = %", 20, " ") + " local f = function() return " + Bench.numbered("v%", 20, "+") + " end print(f())", "210\n");
    }

    private static void keptByOthersWithin() {
        String ten = Bench.numbered("v% = 1", 10, " ") + " ";
        String otherTen = Bench.numbered("w% = 1", 10, " ") + " ";
        String text = locals(20) + "f = function() " + Bench.numbered("local w%", 11, " ") + " g = function() " + ten + otherTen;
        // Ten of the text's and ten of the procedure around it.
        endsEarly(text + "do");
        BENCH.refuses(text + "w11 = 1", 3, text.length());
        BENCH.refuses(text + "v11 = 1", 3, text.length());
        // The procedure around it keeps ten only, and so may name ten more.
        endsEarly(text + "end " + Bench.numbered("v% = 1", 20, " ") + " do");
        BENCH.refuses(locals(21) + "f = function() local a g = function() a = 1 " + Bench.numbered("v% = 1", 20, " ") + " do", 3,
                (locals(21) + "f = function() local a g = function() a = 1 " + Bench.numbered("v% = 1", 19, " ")).length() + 1);
        // One in it names the 21st of those around it.
        String around = locals(21) + "f = function() " + Bench.numbered("v% = 1", 20, " ") + " g = function() ";
        endsEarly(around + "v20 = 1 do");
        BENCH.refuses(around + "v21 = 1", 3, around.length());
        BENCH.refuses(around + "return function() v1 = 1 v21 = 1", 3, around.length() + 25);
        // Each of two beside one another keeps its own twenty.
        endsEarly(locals(40) + "f = function() " + Bench.numbered("v% = 1", 20, " ") + " end g = function() "
                + Bench.numbered("v% = 1", 40, " ").substring(Bench.numbered("v% = 1", 20, " ").length()) + " do");
    }

    private static void listsOfExps() {
        String ten = Bench.numbered("%", 10, ",");
        String[] begins = {"f(", "x = ", "local x = ", "return ", "for k in ", "t:m(", "print(1, (f(", "x = {f("};
        for (String begin : begins) {
            BENCH.same("ten in " + begin, BENCH.run(begin + ten + " ?", 9), 1);
            BENCH.same("its place", BENCH.script().place(), begin.length() + ten.length() + 1);
            BENCH.refuses(begin + ten + ",11", 3, begin.length() + ten.length() + 1);
            BENCH.refuses(begin + ten + ", 11, 12", 3, begin.length() + ten.length() + 2);
            BENCH.refuses(begin + ten + ",", 1, begin.length() + ten.length() + 1);
        }
        BENCH.writes("local function f(...) return " + ten + " end local " + Bench.numbered("a%", 10, ",") + " = f(" + ten + ") print(" + Bench.numbered("a%", 10, ",") + ")", "1 2 3 4 5 6 7 8 9 10\n");
        BENCH.writes("local t = {m = function(...) return select('#', ...) end} print(t:m(" + ten + "))", "11\n");
        // Lists within lists count by themselves.
        BENCH.writes("print(select('#', " + Bench.numbered("%", 8, ",") + ", type(" + ten + ")))", "9\n");
    }

    private static void listsOfNamesAndTargets() {
        String ten = Bench.numbered("a%", 10, ",");
        String[] begins = {"local ", "for ", "function f(", "x = function(", "local function f(", "function t:m(", ""};
        for (String begin : begins) {
            BENCH.same("ten in " + begin, BENCH.run(begin + ten + " ?", 9), 1);
            BENCH.same("its place", BENCH.script().place(), begin.length() + ten.length() + 1);
            BENCH.refuses(begin + ten + ",a11", 3, begin.length() + ten.length() + 1);
            BENCH.refuses(begin + ten + ",1", 1, begin.length() + ten.length() + 1);
        }
        BENCH.refuses(ten + ",(f).x = 1", 3, ten.length() + 1);
        BENCH.refuses(ten + ",a11.x = 1", 3, ten.length() + 1);
        BENCH.refuses(Bench.numbered("a%.x", 10, ",") + ",a11[1] = 1", 3, Bench.numbered("a%.x", 10, ",").length() + 1);
        BENCH.writes(Bench.numbered("a%", 10, ",") + " = " + Bench.numbered("%", 10, ",") + " print(a1, a9, a10)", "1 9 10\n");
        // ... is no name.
        BENCH.writes("local function f(" + ten + ", ...) return ... end print(f(1,2,3,4,5,6,7,8,9,10))", "\n");
        endsEarly("function f(" + ten + ", ...) do");
        BENCH.refuses("function f(" + ten + ", a11, ...) end", 3, ("function f(" + ten).length() + 2);
    }

    private static void whatIsNoList() {
        BENCH.writes("print(#{" + Bench.numbered("%", 11, ",") + "}, #{" + Bench.numbered("%", 99, ";") + ";})", "11 99\n");
        BENCH.writes("local t = {" + Bench.numbered("x% = %", 30, ", ") + "} print(t.x1, t.x30)", "1 30\n");
        BENCH.writes("local t = {} t.t = t print(t" + Bench.times(".t", 40) + " == t)", "true\n");
        BENCH.writes("local t = {} t.t = t function t" + Bench.times(".t", 20) + ".f() return 5 end print(t.f())", "5\n");
        BENCH.writes("local function f() return print end f" + Bench.times("()", 1) + "(1)", "1\n");
        BENCH.writes("local f f = function() return f end print(f" + Bench.times("()", 40) + " == f)", "true\n");
        BENCH.writes("if nil then " + Bench.times("elseif nil then ", 20) + "else print(1) end", "1\n");
        BENCH.writes(Bench.times("x = 1 ", 100) + Bench.times(";", 100) + "print(x)", "1\n");
    }

    private static void firstTokensOfTheEleventh() {
        String begin = "f(" + Bench.numbered("%", 10, ",") + ",";
        String[] exps = {"nil", "false", "true", "1", "0x1", "'a'", "\"a\"", "...", "function() end", "a", "(a)", "{}", "-a", "not a", "#a", "a.b", "a()"};
        for (String exp : exps) {
            BENCH.refuses(begin + exp + ")", 3, begin.length());
        }
        String[] none = {")", ",", "]", "}", "+", "*", "..", "==", "and", "or", "then", "end", "do", "=", ";", ":", ".", "'a", "0x", "1a", "~", "\u0001", ""};
        for (String token : none) {
            BENCH.refuses(begin + token, 1, begin.length());
        }
        BENCH.refuses(begin + "-- comment\n  a)", 3, begin.length() + 13);
    }

    /** In 15 statements this may stand, in 16 it may not: the token that brings one more is so far behind. */
    private static void nests(String text, int behind) {
        endsEarly(Bench.times("do ", 15) + text + " do");
        BENCH.refuses(Bench.times("do ", 16) + text + " do", 3, 48 + behind);
    }

    /** As above, with one more that is nested in it. */
    private static void nestsTwice(String text, int outer, int inner) {
        endsEarly(Bench.times("do ", 14) + text + " do");
        BENCH.refuses(Bench.times("do ", 15) + text + " do", 3, 45 + inner);
        BENCH.refuses(Bench.times("do ", 16) + text + " do", 3, 48 + outer);
    }

    private static void nestingOfStatements() {
        endsEarly(Bench.times("do ", 16));
        BENCH.refuses(Bench.times("do ", 17), 3, 48);
        nests("do end", 0);
        nests("while a do end", 0);
        nests("repeat until a", 0);
        nests("if a then end", 0);
        nests("if a then elseif b then else end", 0);
        nests("for i = 1, 2 do end", 0);
        nests("for k in x do end", 0);
        nestsTwice("if a then else do end end", 0, 15);
        nestsTwice("if a then elseif b then repeat until c end", 0, 24);
        // The exps of a statement stand in it.
        nestsTwice("while -a do end", 0, 6);
        nestsTwice("if a + b then end", 0, 5);
        nestsTwice("if a then elseif a + b then end", 0, 19);
        nestsTwice("repeat until -a", 0, 13);
        nestsTwice("for i = -a, 2 do end", 0, 8);
        nestsTwice("for i = 1, -a do end", 0, 11);
        nestsTwice("for i = 1, 2, -a do end", 0, 14);
        nestsTwice("for k in (x) do end", 0, 9);
        BENCH.writes(Bench.times("while true do ", 16) + "print'a' " + Bench.times("break end ", 16), "a\n");
        BENCH.writes(Bench.times("if 1 then ", 16) + "print'a' " + Bench.times("else print'b' end ", 16), "a\n");
        BENCH.writes(Bench.times("repeat ", 16) + "print'a' " + Bench.times("break until x ", 16), "a\n");
    }

    private static void nestingOfProcedures() {
        nestsTwice("f = function() end", 4, 12);
        nestsTwice("function f() end", 0, 10);
        nestsTwice("function f.g.h() end", 0, 14);
        nestsTwice("function f:g() end", 0, 12);
        nestsTwice("local function f() end", 6, 16);
        nestsTwice("f = function(a, ...) do end end", 4, 12);
        nestsTwice("f = function() do end end", 4, 12);
        nestsTwice("local function f() do end end", 6, 16);
        nestsTwice("function f() if a then end end", 0, 10);
        String eight = Bench.times("f = function() do ", 8);
        endsEarly(eight);
        BENCH.refuses(eight + "do", 3, eight.length());
        BENCH.refuses(eight + "f = function() end", 3, eight.length() + 4);
        endsEarly(Bench.times("f = function() ", 15) + "do");
        // The sixteenth procedure's bracket is the seventeenth.
        BENCH.refuses(Bench.times("f = function() ", 16), 3, 15 * 15 + 12);
        BENCH.refuses(Bench.times("f = function() ", 15) + "do do", 3, 15 * 15 + 3);
        BENCH.writes("local n = 0 " + Bench.times("local function f() n = n + 1 ", 15) + Bench.times("end f() ", 15) + "print(n)", "15\n");
    }

    private static void nestingOfBrackets() {
        nests("x = (a)", 4);
        nests("x = {}", 4);
        nests("x = {a, b; c}", 4);
        nests("x = a[1]", 5);
        nests("a[1] = 1", 1);
        nests("f()", 1);
        nests("f(1)", 1);
        nests("f{}", 1);
        nests("f{a}", 1);
        nests("t:m()", 3);
        nests("t:m{}", 3);
        nests("(f).x = 1", 0);
        nestsTwice("x = {[1] = 2}", 4, 5);
        nestsTwice("x = {{}}", 4, 5);
        nestsTwice("x = ((a))", 4, 5);
        nestsTwice("x = a[b[1]]", 5, 7);
        nestsTwice("f(g())", 1, 3);
        nestsTwice("f{g()}", 1, 3);
        nestsTwice("f({})", 1, 2);
        nestsTwice("x = {y = {}}", 4, 9);
        endsEarly("x = " + Bench.times("(", 16) + "1" + Bench.times(")", 16) + " do");
        BENCH.refuses("x = " + Bench.times("(", 17), 3, 20);
        endsEarly("x = " + Bench.times("{", 16) + Bench.times("}", 16) + " do");
        BENCH.refuses("x = " + Bench.times("{", 17), 3, 20);
        endsEarly("x = a" + Bench.times("[a", 16) + Bench.times("]", 16) + " do");
        BENCH.refuses("x = a" + Bench.times("[a", 17), 3, 5 + 32);
        endsEarly("f" + Bench.times("(f", 16) + Bench.times(")", 16) + " do");
        BENCH.refuses("f" + Bench.times("(f", 17), 3, 33);
        endsEarly("f" + Bench.times("{f", 16) + Bench.times("}", 16) + " do");
        BENCH.refuses("f" + Bench.times("{f", 17), 3, 33);
    }

    private static void nestingOfSigns() {
        for (String sign : "+ - * // % .. == ~= < <= > >= and or".split(" ")) {
            nests("x = a " + sign + " b", 6);
            // Left sides do not nest, but for .., whose right side is all that stands behind it.
            if (!sign.equals("..")) {
                nests("x = a" + Bench.times(" " + sign + " b", 20), 6);
            }
            nestsTwice("x = a " + sign + " (b)", 6, 7 + sign.length());
            nests("x = (a) " + sign + " b", 4);
        }
        nests("x = - a", 4);
        nests("x = # a", 4);
        nests("x = not a", 4);
        nests("x = - a - b", 4);
        nestsTwice("x = - - a", 4, 6);
        nestsTwice("x = not # a", 4, 8);
        nestsTwice("x = a .. b .. c", 6, 11);
        nestsTwice("x = a + b * c", 6, 10);
        nestsTwice("x = a or b and c", 6, 11);
        nestsTwice("x = a and b < c", 6, 12);
        nestsTwice("x = a == b .. c", 6, 11);
        nestsTwice("x = a .. b + c", 6, 11);
        nestsTwice("x = a * - b", 6, 8);
        nestsTwice("x = - (a)", 4, 6);
        nests("x = a * b + c", 6);
        nests("x = a and b or c", 6);
        nests("x = a .. b == c", 6);
        nests("x = - a + b", 4);
        endsEarly("x = " + Bench.times("- ", 16) + "a do");
        BENCH.refuses("x = " + Bench.times("- ", 17) + "a", 3, 4 + 32);
        endsEarly("x = " + Bench.times("not ", 16) + "a do");
        BENCH.refuses("x = " + Bench.times("not ", 17) + "a", 3, 4 + 64);
        endsEarly("x = " + Bench.times("# ", 16) + "a do");
        BENCH.refuses("x = " + Bench.times("# ", 17) + "a", 3, 4 + 32);
        endsEarly("x = " + Bench.times("a .. ", 16) + "a do");
        BENCH.refuses("x = " + Bench.times("a .. ", 17) + "a", 3, 4 + 16 * 5 + 2);
        BENCH.writes("x = 0" + Bench.times(" + 1", 200) + " print(x)", "200\n");
    }

    private static void whatDoesNotNest() {
        String deep = Bench.times("do ", 16);
        endsEarly(deep + "x = 1 x, y = y, x local a, b = 'c' ; f'a' t.u.v = w.x t:m'a' x = ... x = nil");
        endsEarly(deep + "local a = true return a, false,");
        endsEarly(deep + Bench.times("end ", 16) + "do");
        // What is behind its end is not in it.
        endsEarly("x = " + Bench.times("(", 16) + "1" + Bench.times(")", 16) + " + (1) f(1)(2)[3](4) do");
        endsEarly(Bench.times("do ", 8) + "x = (((((((1))))))) + -((((((1)))))) do");
        endsEarly("f" + Bench.times("(1)", 30) + Bench.times("[1]()", 30) + " do");
        endsEarly("x = {" + Bench.times("{}, ", 30) + "} do");
        endsEarly(Bench.times("do end ", 30) + "do");
    }

    private static void breaks() {
        BENCH.refuses("break", 2, 0);
        BENCH.refuses("x = 1 break", 2, 6);
        BENCH.refuses("do break end", 2, 3);
        BENCH.refuses("if a then break end", 2, 10);
        BENCH.refuses("function f() break end", 2, 13);
        for (String loop : new String[] {"while a do ", "repeat ", "for i = 1, 2 do ", "for k in x do "}) {
            endsEarly(loop + "break do");
            endsEarly(loop + "do if a then break end break end break; break do");
            BENCH.refuses(loop + "f = function() break", 2, loop.length() + 15);
            BENCH.refuses(loop + "local function f() break", 2, loop.length() + 19);
            BENCH.refuses(loop + "function f() break", 2, loop.length() + 13);
            endsEarly(loop + "f = function() end break do");
            endsEarly(loop + "f = function() " + loop + "break do");
            String ends = loop.startsWith("repeat") ? "until a " : "end ";
            BENCH.refuses(loop + ends + "break", 2, loop.length() + ends.length());
            BENCH.refuses("f = function() " + loop + ends + "break", 2, 15 + loop.length() + ends.length());
            endsEarly(loop + loop + ends + "break do");
        }
        BENCH.refuses("while function() break end do end", 2, 17);
        BENCH.refuses("repeat until function() break end", 2, 24);
    }

    private static void extraValues() {
        BENCH.writes("print(...) local a = ... print(a, ..., (...)) print(#{...})", "\nnil nil nil\n0\n");
        BENCH.writes("do local t = {...} if nil == ... then print(1) end end", "1\n");
        BENCH.refuses("f = function() return ... end", 2, 22);
        BENCH.refuses("f = function(a, b) x = ... end", 2, 23);
        BENCH.refuses("f = function(...) g = function() return ... end end", 2, 40);
        BENCH.refuses("function t:m() f(...) end", 2, 17);
        BENCH.refuses("local function f() return {...} end", 2, 27);
        BENCH.refuses("f = function() end x = ... f = function() return 1, ...", 2, 52);
        endsEarly("f = function(...) do");
        endsEarly("f = function(a, ...) x = ... do");
        endsEarly("function t:m(...) x = {...} do");
        endsEarly("local function f(...) return function(...) return ... end, ...");
        endsEarly("f = function() return function(...) return ... end end x = ... do");
        // Where no exp can stand it is SYNTAX.
        BENCH.refuses("f = function() ... end", 1, 15);
        BENCH.refuses("f = function() x = 1 ... end", 1, 21);
        BENCH.refuses("f = function(..., a) end", 1, 16);
        BENCH.refuses("f = function() local ... end", 1, 21);
    }

    private static void lowerNumbersFirst() {
        // At one token: RULE ahead of LIMIT, SYNTAX ahead of both.
        BENCH.refuses("function f() return " + Bench.numbered("%", 10, ",") + ",... end", 2, 20 + 21);
        BENCH.refuses("function f(...) return " + Bench.numbered("%", 10, ",") + ",... end", 3, 23 + 21);
        BENCH.refuses("f(" + Bench.numbered("%", 10, ",") + ",)", 1, 23);
        BENCH.refuses("local " + Bench.numbered("a%", 10, ",") + ",end", 1, 37);
        BENCH.refuses("local " + Bench.numbered("a%", 10, ",") + "," + Bench.times("b", 21), 1, 37);
        BENCH.refuses(Bench.times("do ", 16) + "'", 1, 48);
        BENCH.refuses(Bench.times("do ", 16) + "x = 1 + 1", 3, 48 + 6);
        BENCH.refuses(Bench.times("do ", 16) + "x = + 1", 1, 48 + 4);
        BENCH.refuses(Bench.times("do ", 16) + "x = 1 (", 3, 48 + 6);
        BENCH.refuses(locals(40) + "local 1", 1, locals(40).length() + 6);
        BENCH.refuses(locals(40) + "local end", 1, locals(40).length() + 6);
    }

    private static void leftmostFirst() {
        BENCH.refuses("break x = = 1", 2, 0);
        BENCH.refuses("x = = 1 break", 1, 4);
        BENCH.refuses("x = " + Bench.times("(", 17) + "1 break", 3, 20);
        BENCH.refuses("break x = " + Bench.times("(", 17), 2, 0);
        BENCH.refuses("x = " + Bench.times("(", 17) + "\u0001", 3, 20);
        BENCH.refuses("x = \u0001 break", 1, 4);
        BENCH.refuses("break \u0001", 2, 0);
        BENCH.refuses("break --\u0001", 2, 0);
        BENCH.refuses("--\u0001\nbreak", 1, 2);
        BENCH.refuses(locals(41) + "break", 3, locals(40).length() + 6);
        BENCH.refuses("do " + locals(41) + "= =", 3, 3 + locals(40).length() + 6);
        BENCH.refuses("function f() return ... end break", 2, 20);
        // Nothing is run, nothing is written.
        BENCH.refuses("print(1) print(2) x", 1, 19);
        BENCH.refuses("print(1) while true do end break", 2, 27);
    }

    /** Texts of 3000 bytes with as many of one thing as there can be. */
    private static void longTexts() {
        BENCH.writes(Bench.times(";", 3000), "");
        BENCH.refuses(Bench.times(";", 2999) + "x", 1, 3000);
        BENCH.refuses(Bench.times(";", 2999) + ")", 1, 2999);
        BENCH.writes("x=" + Bench.times("1+", 1494) + "1 print(x)", "1495\n");
        BENCH.heap(8000);
        BENCH.writes("x={" + Bench.times("{},", 900) + "} print(#x)", "900\n");
        BENCH.writes("x=0 " + Bench.times("x=x+1 ", 490) + "print(x)", "490\n");
        BENCH.writes("local t={" + Bench.times("function()return 9 end,", 125) + "} local n=0 for i=1,#t do n=n+t[i]() end print(n,#t)", "1125 125\n");
        BENCH.writes("local a,b,c,d,e,f,g,h,i,j=1,2,3,4,5,6,7,8,9,10 local t={" + Bench.times("function()return a+b+c+d+e+f+g+h+i+j end,", 65) + "} local n=0 for k=1,#t do n=n+t[k]() end print(n)", "3575\n");
        BENCH.writes(Bench.numbered("n%=%", 330, " ") + " print(n1,n99,n330)", "1 99 330\n");
        // Assignments of ten targets, each in a procedure that the one around it sets.
        String targets = "a,b,c,d,e,f,g,h,i,j=1,2,3,4,5,6,7,8,9,";
        BENCH.writes(Bench.times(targets + "function() ", 15) + targets + "10 " + Bench.times("end ", 15) + "for k=1,15 do j() end print(a,i,j)", "1 9 10\n");
        BENCH.refuses(Bench.times("do ", 1000), 3, 48);
        BENCH.refuses("x=" + Bench.times("(", 2998), 3, 18);
        BENCH.refuses("f=" + Bench.times("function()", 299), 1, 20);
        BENCH.writes("x=0 " + Bench.times("do x=x+1 end ", 220) + "print(x)", "220\n");
        BENCH.writes("x=0 for i=1,2 do " + Bench.times("if i==1 then x=x+1 end ", 120) + "end print(x)", "120\n");
    }
}
