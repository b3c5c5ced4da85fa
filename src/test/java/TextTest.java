/** Promise 3: tokens, grammar, rules, limits and their faults, with the places of promise 4. */
final class TextTest {
    private static final Bench BENCH = new Bench("TextTest");

    public static void main(String[] args) {
        blanksAndComments();
        names();
        numbers();
        strings();
        signs();
        statements();
        exps();
        rules();
        variableLimits();
        listLimits();
        nestingLimits();
        firstFaults();
        BENCH.finish();
    }

    private static String times(String part, int n) {
        return Bench.times(part, n);
    }

    private static String numbered(String part, int n, String between) {
        return Bench.numbered(part, n, between);
    }

    private static void blanksAndComments() {
        BENCH.writes("\t\r\n print(1)--x", "1\n");
        BENCH.writes("print(1)--x\rprint(2)\nprint(3)", "1\n3\n");
        BENCH.writes("print(5--[[ \n--3\n- 2)", "3\n");
        BENCH.refuses("x=1 --a\u0001b", 1, 7);
        BENCH.refuses("x=1 \u0000", 1, 4);
        BENCH.refuses("x=1 \u007F", 1, 4);
        BENCH.refuses("x=1 \u00E4", 1, 4);
        BENCH.refuses("x=1 --\u00FF", 1, 6);
        BENCH.refuses("x=1 'a\u0001b'", 1, 4);
        BENCH.refuses("x=1 \u000B", 1, 4);
    }

    private static void names() {
        BENCH.writes("abcdefghijklmnopqrst = 1 print(abcdefghijklmnopqrst)", "1\n");
        BENCH.refuses("x = abcdefghijklmnopqrstu", 1, 4);
        BENCH.writes("_, _1, Zz = 1, 2, 3 print(_, _1, Zz)", "1 2 3\n");
        for (String word : "and break do else elseif end false for function if in local nil not or repeat return then true until while".split(" ")) {
            BENCH.refuses("x." + word + " = 1", 1, 2);
        }
        BENCH.writes("And = 1 ends = 2 print(And, ends)", "1 2\n");
    }

    private static void numbers() {
        BENCH.writes("print(9223372036854775807, 00012, 0x10, 0xfF)", "9223372036854775807 12 16 255\n");
        BENCH.writes("print(0xffffffffffffffff, 0x8000000000000000, 0x0)", "-1 -9223372036854775808 0\n");
        BENCH.refuses("x = 9223372036854775808", 1, 4);
        BENCH.refuses("x = 0x", 1, 4);
        BENCH.refuses("x = 0x11111111111111111", 1, 4);
        BENCH.refuses("x = 0xg", 1, 4);
        BENCH.refuses("x = 0X1", 1, 4);
        BENCH.refuses("x = 12a", 1, 4);
        BENCH.refuses("x = 12_", 1, 4);
        BENCH.refuses("x = 0x1z", 1, 4);
        BENCH.refuses("x = 1.5", 1, 5);
        BENCH.writes("print(1 ..2, 3..'')", "12 3\n");
        BENCH.refuses("x = 1...2", 1, 5);
    }

    private static void strings() {
        BENCH.writes("print('a\"b', \"a'b\", 'a\\'b', \"\\\"\\\\\")", "a\"b a'b a'b \"\\\n");
        BENCH.writes("print('\\65\\066\\0677\\n\\t|')", "ABC7\n\t|\n");
        BENCH.writes("print(#'\\0\\255', byte('\\255'), byte('\\0'), '\t')", "2 255 0 \t\n");
        BENCH.refuses("x = '\\256'", 1, 4);
        BENCH.refuses("x = '\\a'", 1, 4);
        BENCH.refuses("x = 'a", 1, 4);
        BENCH.refuses("x = 'a\nb'", 1, 4);
        BENCH.refuses("x = 'a\rb'", 1, 4);
        BENCH.refuses("x = 'a\\\nb'", 1, 4);
        BENCH.refuses("x = 'a\\", 1, 4);
        BENCH.refuses("x = 'a\"", 1, 4);
        BENCH.writes("print(#'" + times("x", 200) + "')", "200\n");
        BENCH.refuses("x = '" + times("x", 201) + "'", 1, 4);
        BENCH.writes("print(#'" + times("\\120", 200) + "')", "200\n");
        BENCH.refuses("x = '" + times("\\120", 201) + "'", 1, 4);
    }

    private static void signs() {
        BENCH.refuses("x = 1 / 2", 1, 6);
        BENCH.refuses("x = 1 ~ 2", 1, 6);
        BENCH.refuses("x = ~1", 1, 4);
        BENCH.refuses("x = 2 ^ 3", 1, 6);
        BENCH.refuses("x = a ==== b", 1, 8);
        BENCH.writes("print(1==1, 1~=1, 1<=1, 1>=2, 7//2, 7%4)", "true false true false 3 3\n");
        BENCH.writes("x = {y={z=5}} print(x.y . z, x['y'].z)", "5 5\n");
    }

    private static void statements() {
        BENCH.writes("", "");
        BENCH.writes(";;; do end ; while false do end repeat until true", "");
        BENCH.writes("return", "");
        BENCH.writes("return 1, 2;", "");
        BENCH.refuses("return;;", 1, 7);
        BENCH.refuses("return 1 x = 2", 1, 9);
        BENCH.refuses("do return end x", 1, 15);
        BENCH.refuses("end", 1, 0);
        BENCH.refuses("do", 1, 2);
        BENCH.refuses("do until", 1, 3);
        BENCH.refuses("repeat end", 1, 7);
        BENCH.refuses("if x then else elseif y then end", 1, 15);
        BENCH.refuses("if x else end", 1, 5);
        BENCH.refuses("while x end", 1, 8);
        BENCH.refuses("for a, b = 1, 2 do end", 1, 9);
        BENCH.refuses("for a = 1 do end", 1, 10);
        BENCH.refuses("for a = 1, 2, 3, 4 do end", 1, 15);
        BENCH.refuses("for a.b in x do end", 1, 5);
        BENCH.refuses("function (a) end", 1, 9);
        BENCH.refuses("function a:b.c() end", 1, 12);
        BENCH.refuses("function a[1]() end", 1, 10);
        BENCH.refuses("local function a.b() end", 1, 16);
        BENCH.refuses("local a.b = 1", 1, 7);
        BENCH.refuses("function f(a,) end", 1, 13);
        BENCH.refuses("function f(..., a) end", 1, 14);
        BENCH.refuses("x", 1, 1);
        BENCH.refuses("x y", 1, 2);
        BENCH.refuses("x.y z = 1", 1, 4);
        BENCH.refuses("(x) = 1", 1, 4);
        BENCH.refuses("x() = 1", 1, 4);
        BENCH.refuses("x(), y = 1, 2", 1, 3);
        BENCH.refuses("x, y() = 1, 2", 1, 7);
        BENCH.refuses("x, 1 = 2", 1, 3);
        BENCH.refuses("'a'()", 1, 0);
        BENCH.refuses("x = ", 1, 4);
        BENCH.refuses("x = 1,", 1, 6);
        BENCH.refuses("f(1,)", 1, 4);
        BENCH.refuses("f(,1)", 1, 2);
        BENCH.refuses("x:y = 1", 1, 4);
        BENCH.refuses("x:y", 1, 3);
        BENCH.writes("local t = {} (t).x, t['y'] = 1, 2 print(t.x, t.y)", "1 2\n");
    }

    private static void exps() {
        BENCH.writes("print(2 + 3 * 4, (2 + 3) * 4, 2 - 3 - 4, 20 // 3 // 2, 2 * 3 % 4)", "14 20 -5 3 2\n");
        BENCH.writes("print(1 .. 2 + 3 .. 4, 'a' .. 'b' == 'ab', 1 < 2 == true)", "154 true true\n");
        BENCH.writes("print(not 1 == 2, - 2 .. '', #'ab' + 1, - - 3, not not nil)", "false -2 3 3 false\n");
        BENCH.writes("print(nil or false and 1, 1 and 2 or 3, false == false or x.y)", "false 2 true\n");
        BENCH.writes("local f = function(x) return x end print(f'a', f\"b\", type(f{}), #f{1, 2; 3,})", "a b table 3\n");
        BENCH.writes("local t = {f = function(s, a) return a end} print(t:f(1), t:f'x', t:f{} ~= nil, t.f(t, 2))", "1 x true 2\n");
        BENCH.writes("x = 1 local t = {x = 2, [x] = 3, x == 1; 'e'} print(t.x, t[1], t[2])", "2 true e\n");
        BENCH.refuses("x = {1, , 2}", 1, 8);
        BENCH.refuses("x = {,}", 1, 5);
        BENCH.refuses("x = {[1]}", 1, 8);
        BENCH.refuses("x = {a = }", 1, 9);
        BENCH.refuses("x = {1 2}", 1, 7);
        BENCH.refuses("x = 1 + * 2", 1, 8);
        BENCH.refuses("x = (1, 2)", 1, 6);
        BENCH.refuses("x = ()", 1, 5);
        BENCH.refuses("x = function a() end", 1, 13);
        BENCH.refuses("x = a.b.1", 1, 8);
        BENCH.refuses("x = a[1", 1, 7);
        BENCH.refuses("x = {}.y", 1, 6);
        BENCH.writes("function f() end print(#{f()}, #{f(), 1}, #{(f()), 1})", "0 0 0\n");
    }

    private static void rules() {
        BENCH.refuses("break", 2, 0);
        BENCH.refuses("do break end", 2, 3);
        BENCH.refuses("if x then break end", 2, 10);
        BENCH.refuses("while x do f = function() break end end", 2, 26);
        BENCH.refuses("while x do end break", 2, 15);
        BENCH.refuses("repeat until x break", 2, 15);
        BENCH.writes("while true do do if 1 then break end end end for i = 1, 2 do break end repeat break until true print(1)", "1\n");
        BENCH.refuses("function f() return ... end", 2, 20);
        BENCH.refuses("function f(a) g(a, ...) end", 2, 19);
        BENCH.refuses("function f(...) return function() return ... end end", 2, 41);
        BENCH.writes("print(...) function f(...) return ... end print(f(1, 2))", "\n1 2\n");
        BENCH.refuses("x = 1 ...", 1, 6);
    }

    private static void variableLimits() {
        BENCH.writes(numbered("local a%", 40, " ") + " print(1)", "1\n");
        String full = numbered("local a%", 40, " ") + " ";
        BENCH.refuses(full + "local b", 3, full.length() + 6);
        BENCH.refuses(full + "local function b() end", 3, full.length() + 15);
        BENCH.refuses(full + "for i = 1, 2 do end", 3, full.length());
        BENCH.writes(full + "do end f = function(b, c) local d end print(2)", "2\n");
        String most = numbered("local a%", 36, " ") + " ";
        BENCH.writes(most + "for i = 1, 2 do end for k in next, {} do end print(3)", "3\n");
        BENCH.refuses(most + "for k, v in x do end", 3, most.length() + 7);
        BENCH.refuses(most + "for i = 1, 2 do local j end", 3, most.length() + 22);
        String near = numbered("local a%", 37, " ") + " ";
        BENCH.refuses(near + "for i = 1, 2 do end", 3, near.length() + 4);
        String three = numbered("local a%", 38, " ") + " ";
        BENCH.refuses(three + "for i = 1, 2 do end", 3, three.length());
        BENCH.refuses(three + "local b, c, d = 1", 3, three.length() + 12);
        String inner = "function t:m(" + numbered("p%", 10, ",") + ") " + numbered("local a%", 29, " ") + " ";
        BENCH.refuses(inner + "local b end", 3, inner.length() + 6);
        BENCH.refuses(inner + "end x", 1, inner.length() + 5);
        String outer = numbered("local a%", 21, " ") + " f = function() return ";
        BENCH.refuses(outer + numbered("a%", 21, "+"), 3, outer.length() + numbered("a%", 20, "+").length() + 1);
        BENCH.refuses(outer + numbered("a%", 20, "+") + " a1 end", 1, outer.length() + numbered("a%", 20, "+").length() + 1);
        BENCH.writes(numbered("local a%", 21, " ") + " f = function() return " + numbered("a%", 20, " or ") + " or a1 end print(4)", "4\n");
        // One in it names it: so it keeps it, too.
        String around = numbered("local a%", 21, " ") + " f = function() local x = " + numbered("a%", 20, " or ") + " g = function() return ";
        BENCH.refuses(around + "a21 end end", 3, around.length());
    }

    private static void listLimits() {
        BENCH.writes("print(" + numbered("%", 10, ",") + ")", "1 2 3 4 5 6 7 8 9 10\n");
        BENCH.refuses("f(" + numbered("%", 10, ",") + ",a)", 3, 23);
        BENCH.refuses("f(" + numbered("%", 10, ",") + ",)", 1, 23);
        BENCH.refuses("return " + numbered("%", 10, ",") + ",-1", 3, 28);
        BENCH.refuses("local " + numbered("a%", 11, ","), 3, 37);
        BENCH.refuses("local " + numbered("a%", 10, ",") + ",1", 1, 37);
        BENCH.refuses(numbered("a%", 11, ",") + "=1", 3, 31);
        BENCH.refuses(numbered("a%", 10, ",") + ",(x).y=1", 3, 31);
        BENCH.refuses(numbered("a%", 10, ",") + ",=1", 1, 31);
        BENCH.refuses("function f(" + numbered("a%", 11, ",") + ") end", 3, 42);
        BENCH.writes("function f(" + numbered("a%", 10, ",") + ",...) return ... end print(f(1,2,3,4,5,6,7,8,9,10))", "\n");
        BENCH.writes("function t(...) end x = {} function x:m(" + numbered("a%", 10, ",") + ") return self == x end print(x:m())", "true\n");
        BENCH.refuses("for " + numbered("a%", 11, ",") + " in x do end", 3, 35);
        BENCH.refuses("function f() g(" + numbered("%", 10, ",") + ",...) end", 2, 36);
        BENCH.writes("print(#{" + numbered("%", 50, ",") + "})", "50\n");
    }

    private static void nestingLimits() {
        BENCH.writes("x = " + times("(", 16) + "1" + times(")", 16) + " print(x)", "1\n");
        BENCH.refuses("x = " + times("(", 17) + "1" + times(")", 17), 3, 20);
        BENCH.refuses("x = " + times("{", 17), 3, 20);
        BENCH.refuses("x = " + times("-", 1) + times(" -", 16) + "1", 3, 4 + 32);
        BENCH.refuses("x = " + times("not ", 17) + "1", 3, 4 + 64);
        BENCH.writes("x = " + times("not ", 16) + "1 print(x)", "true\n");
        BENCH.writes("print(" + times("1 ..", 15) + "1)", times("1", 16) + "\n");
        BENCH.refuses("x = " + times("1 ..", 17) + "1", 3, 4 + 64 + 2);
        BENCH.writes("x = " + times("1 + ", 100) + "1 print(x)", "101\n");
        BENCH.refuses("x = 1 + " + times("(", 16) + "1", 3, 8 + 15);
        BENCH.writes(times("do ", 16) + times("end ", 16) + "print(1)", "1\n");
        BENCH.refuses(times("do ", 17), 3, 48);
        BENCH.refuses(times("do ", 16) + "x = 1 + 1", 3, 48 + 6);
        BENCH.refuses(times("do ", 16) + "f()", 3, 48 + 1);
        BENCH.writes(times("do ", 16) + "x = 1 print'a' " + times("end ", 16), "a\n");
        BENCH.refuses(times("do ", 16) + "f{}", 3, 48 + 1);
        BENCH.refuses(times("do ", 16) + "t[1] = 2", 3, 48 + 1);
        BENCH.refuses(times("do ", 15) + "function f() end", 3, 45 + 10);
        BENCH.refuses(times("do ", 16) + "function f() end", 3, 48);
        BENCH.refuses(times("do ", 16) + "local function f() end", 3, 48 + 6);
        BENCH.writes(times("do ", 14) + "local function f() end " + times("end ", 14) + "print(2)", "2\n");
        for (String open : new String[] {"while x do ", "repeat ", "if x then ", "for i = 1, 2 do ", "for k in x do "}) {
            BENCH.refuses(times("do ", 16) + open, 3, 48);
        }
        BENCH.writes("if 1 then " + times("elseif 1 then ", 20) + "end print(3)", "3\n");
        BENCH.writes("x = {} x.x = x print(x" + times(".x", 30) + " == x" + times("['x']", 20) + ")", "true\n");
    }

    private static void firstFaults() {
        BENCH.refuses("break x = = 1", 2, 0);
        BENCH.refuses("x = = 1 break", 1, 4);
        BENCH.refuses("x = " + times("(", 17) + "'", 3, 20);
        BENCH.refuses("f(" + numbered("%", 10, ",") + ",'", 1, 23);
        BENCH.refuses("x = {y 'a' z 'b}", 1, 11);
        BENCH.refuses("x = {y 'a', z 'b}", 1, 14);
        BENCH.refuses("x = {y z = 1}", 1, 7);
    }
}
