/** The boundaries of bytes, blanks, comments and tokens (promise 3), with the places of their faults (promise 4). */
final class TokenBoundaryTest {
    private static final Bench BENCH = new Bench("TokenBoundaryTest");

    public static void main(String[] args) {
        bytesOfTexts();
        bytesInComments();
        bytesInStrings();
        comments();
        namesOf20();
        wordsAreNoNames();
        numbersBelow2To63();
        hexNumbers();
        whatStandsBehindNumbers();
        escapes();
        digitsInStrings();
        stringsOf200();
        stringsWithinOneLine();
        signsAsLongAsTheyCanBe();
        BENCH.finish();
    }

    private static boolean isTextByte(int c) {
        return c == 9 || c == 10 || c == 13 || c >= 32 && c <= 126;
    }

    private static void bytesOfTexts() {
        String begins = "\t\n\r ;abcdefghijklmnopqrstuvwxyzABCDEFGHIJKLMNOPQRSTUVWXYZ_(-";
        for (int c = 0; c < 256; c++) {
            String text = "x = 1 " + (char) c;
            if (!isTextByte(c)) {
                BENCH.refuses(text, 1, 6);
                BENCH.refuses(text + " y = 2", 1, 6);
                BENCH.refuses("x = 1" + (char) c, 1, 5);
            } else if (c == 9 || c == 10 || c == 13 || c == 32 || c == ';') {
                BENCH.writes(text + "print(x)", "1\n");
            } else if (begins.indexOf(c) < 0) {
                BENCH.same("the byte " + c + " behind an exp", BENCH.run(text, 9), 1);
                // A sign that goes on is not the fault, but the end behind it.
                BENCH.same("place of the byte " + c, BENCH.script().place(), "+*%<>,".indexOf(c) < 0 ? 6 : 7);
            }
        }
    }

    private static void bytesInComments() {
        for (int c = 0; c < 256; c++) {
            if (isTextByte(c)) {
                BENCH.writes("print(1) --a" + (char) c, "1\n");
            } else {
                BENCH.refuses("print(1) --a" + (char) c, 1, 12);
                BENCH.refuses("--" + (char) c + "\nprint(1)", 1, 2);
            }
        }
    }

    private static void bytesInStrings() {
        for (int c = 0; c < 256; c++) {
            if (c == '"' || c == '\\') {
                BENCH.same("a string of a single " + (char) c, BENCH.run("x = \"" + (char) c + "\"", 9), 1);
            } else if (isTextByte(c) && c != 10 && c != 13) {
                BENCH.writes("print(#\"" + (char) c + "\", byte(\"" + (char) c + "\"))", "1 " + c + "\n");
            } else {
                BENCH.refuses("x = \"" + (char) c + "\"", 1, 4);
                BENCH.refuses("x = 'ab" + (char) c, 1, 4);
            }
        }
    }

    private static void comments() {
        BENCH.writes("--", "");
        BENCH.writes("-- print(1)", "");
        BENCH.writes("--\nprint(1)", "1\n");
        // A 13 ends no comment.
        BENCH.writes("--\rprint(1)", "");
        BENCH.writes("--\r\nprint(1)", "1\n");
        BENCH.writes("----- - --\nprint(1)--", "1\n");
        BENCH.writes("print(1--1\n)", "1\n");
        BENCH.writes("print(1- -1)", "2\n");
        BENCH.writes("print(3--\n-1)", "2\n");
        BENCH.writes("--'\nprint('--')--\"", "--\n");
        BENCH.writes("x--\n=--\n1--\nprint--\n(--\nx--\n)", "1\n");
        BENCH.refuses("x = 1 -\n- 2 y", 1, 13);
        BENCH.refuses("-", 1, 0);
    }

    private static void namesOf20() {
        String twenty = "a234567890123456789_";
        BENCH.writes(twenty + " = 1 print(" + twenty + ")", "1\n");
        BENCH.refuses(twenty + "1 = 1", 1, 0);
        BENCH.refuses("x = " + twenty + "_", 1, 4);
        BENCH.refuses("x = y." + twenty + "Z", 1, 6);
        BENCH.refuses("local " + Bench.times("a", 21), 1, 6);
        BENCH.refuses("x = {" + Bench.times("a", 21) + " = 1}", 1, 5);
        BENCH.refuses("x = " + Bench.times("a", 2000), 1, 4);
        // They are told apart by their last letter, too.
        String nineteen = Bench.times("b", 19);
        BENCH.writes(nineteen + "1 = 1 " + nineteen + "2 = 2 print(" + nineteen + "1, " + nineteen + "2, " + nineteen + ")", "1 2 nil\n");
        BENCH.writes("_ = 1 A = 2 z9_ = 3 __ = 4 print(_, A, a, z9_, __)", "1 2 nil 3 4\n");
        for (String letter : "A Z a z _ A0 Z9 a0 z9 _0".split(" ")) {
            BENCH.writes(letter + " = 5 print(" + letter + ")", "5\n");
        }
        for (String wrong : "@ [ ` { / : 0a 9a $ ? ! & | ^".split(" ")) {
            BENCH.same("a name that begins with " + wrong, BENCH.run(wrong + " = 5", 5), 1);
            BENCH.same("its place", BENCH.script().place(), 0);
        }
    }

    private static void wordsAreNoNames() {
        String words = "and break do else elseif end false for function if in local nil not or repeat return then true until while";
        for (String word : words.split(" ")) {
            BENCH.refuses("x = y." + word, 1, 6);
            BENCH.refuses("local " + word + "= 1", 1, word.equals("function") ? 14 : 6);
            BENCH.writes(word + "1 = 1 print(" + word + "1)", "1\n");
            BENCH.writes("_" + word + " = 1 print(_" + word + ")", "1\n");
            String other = word.substring(0, 1).toUpperCase() + word.substring(1);
            BENCH.writes(other + " = 1 print(" + other + ")", "1\n");
        }
        // The names of what is built in are none.
        BENCH.writes("local self, print2, goto, table = 1, print, 3, 4 print2(self, goto, table)", "1 3 4\n");
    }

    private static void numbersBelow2To63() {
        BENCH.writes("print(0, 1, 9, 10)", "0 1 9 10\n");
        BENCH.writes("print(9223372036854775806, 9223372036854775807)", "9223372036854775806 9223372036854775807\n");
        BENCH.refuses("x = 9223372036854775808", 1, 4);
        BENCH.refuses("x = -9223372036854775808", 1, 5);
        BENCH.refuses("x = 9223372036854775810", 1, 4);
        BENCH.refuses("x = 10000000000000000000", 1, 4);
        BENCH.refuses("x = 18446744073709551616", 1, 4);
        BENCH.refuses("x = 18446744073709551617", 1, 4);
        BENCH.refuses("x = 92233720368547758070", 1, 4);
        BENCH.writes("print(" + Bench.times("0", 100) + "9223372036854775807)", "9223372036854775807\n");
        BENCH.refuses("x = " + Bench.times("0", 100) + "9223372036854775808", 1, 4);
        BENCH.refuses("x = " + Bench.times("9", 500), 1, 4);
    }

    private static void hexNumbers() {
        BENCH.writes("print(0x0, 0x9, 0xa, 0xf, 0xA, 0xF, 0x1fE)", "0 9 10 15 10 15 510\n");
        BENCH.writes("print(0x7fffffffffffffff, 0x8000000000000000, 0xFFFFFFFFFFFFFFFF, 0x0000000000000001)",
                "9223372036854775807 -9223372036854775808 -1 1\n");
        BENCH.refuses("x = 0x", 1, 4);
        BENCH.refuses("x = 0x ", 1, 4);
        BENCH.refuses("x = 0xg", 1, 4);
        BENCH.refuses("x = 0xG", 1, 4);
        BENCH.refuses("x = 0x_", 1, 4);
        BENCH.refuses("x = 0x/", 1, 4);
        BENCH.refuses("x = 0x:", 1, 4);
        BENCH.refuses("x = 0x@", 1, 4);
        BENCH.refuses("x = 0x`", 1, 4);
        BENCH.refuses("x = 0x00000000000000001", 1, 4);
        BENCH.refuses("x = 0x1234567890abcdef0", 1, 4);
        BENCH.refuses("x = 0X1", 1, 4);
        BENCH.refuses("x = 00x1", 1, 4);
        BENCH.refuses("x = 1x1", 1, 4);
    }

    private static void whatStandsBehindNumbers() {
        for (String behind : "a z A Z _ x g".split(" ")) {
            BENCH.refuses("x = 1" + behind, 1, 4);
            BENCH.refuses("x = 120" + behind, 1, 4);
        }
        for (String behind : "g z G Z _ x".split(" ")) {
            BENCH.refuses("x = 0x1" + behind, 1, 4);
            BENCH.refuses("x = 0x1234567890abcdef" + behind, 1, 4);
        }
        BENCH.refuses("x = 1.", 1, 5);
        BENCH.refuses("x = 1.5", 1, 5);
        BENCH.refuses("x = 0x1.", 1, 7);
        BENCH.refuses("x = 1'a'", 1, 5);
        BENCH.refuses("x = 1 2", 1, 6);
        BENCH.writes("print(1..2, 0x1..0x2, 1 ..'a', 1+1,0xa-1,5%3,{1}[1]==nil)".replace("{1}[1]", "({1})[1]"), "12 12 1a 2 9 2 false\n");
    }

    private static void escapes() {
        BENCH.writes("print(byte('\\n'), byte('\\t'), byte('\\\\'), byte('\\\"'), byte('\\''), byte(\"\\\"\"), byte(\"\\'\"))", "10 9 92 34 39 34 39\n");
        BENCH.writes("print(#'\\n\\t\\\\\\\"\\'')", "5\n");
        for (int c = 32; c < 127; c++) {
            if ("nt\\\"'0123456789".indexOf(c) < 0) {
                BENCH.refuses("x = '\\" + (char) c + "'", 1, 4);
            }
        }
        BENCH.refuses("x = '\\\t'", 1, 4);
        BENCH.refuses("x = '\\", 1, 4);
        BENCH.refuses("x = '\\'", 1, 4);
        BENCH.refuses("x = '\\\\", 1, 4);
        BENCH.writes("print('\\\\')", "\\\n");
    }

    private static void digitsInStrings() {
        BENCH.writes("print(byte('\\0'), byte('\\00'), byte('\\000'), byte('\\9'), byte('\\09'), byte('\\009'))", "0 0 0 9 9 9\n");
        BENCH.writes("print(byte('\\99'), byte('\\100'), byte('\\127'), byte('\\128'), byte('\\199'), byte('\\249'), byte('\\255'))", "99 100 127 128 199 249 255\n");
        BENCH.writes("print(#'\\0', #'\\00', #'\\000', #'\\0000', #'\\1234', '\\0651' == 'A1', '\\65a' == 'Aa', '\\6' == '\\006')", "1 1 1 2 2 true true true\n");
        BENCH.refuses("x = '\\256'", 1, 4);
        BENCH.refuses("x = '\\260'", 1, 4);
        BENCH.refuses("x = '\\300'", 1, 4);
        BENCH.refuses("x = '\\999'", 1, 4);
        BENCH.refuses("x = '\\2551\\256'", 1, 4);
    }

    private static void stringsOf200() {
        for (String quote : new String[] {"'", "\""}) {
            BENCH.writes("print(#" + quote + quote + ")", "0\n");
            BENCH.writes("print(#" + quote + Bench.times("x", 199) + quote + ")", "199\n");
            BENCH.writes("print(#" + quote + Bench.times("x", 200) + quote + ")", "200\n");
            BENCH.refuses("x = " + quote + Bench.times("x", 201) + quote, 1, 4);
            BENCH.refuses("x = " + quote + Bench.times("x", 1500) + quote, 1, 4);
        }
        BENCH.writes("print(#'" + Bench.times("\\n", 200) + "')", "200\n");
        BENCH.refuses("x = '" + Bench.times("\\n", 201) + "'", 1, 4);
        BENCH.writes("print(#'" + Bench.times("\\255", 200) + "')", "200\n");
        BENCH.refuses("x = '" + Bench.times("\\255", 200) + "y'", 1, 4);
        BENCH.refuses("x = '" + Bench.times("y", 200) + "\\0'", 1, 4);
    }

    private static void stringsWithinOneLine() {
        BENCH.refuses("x = '", 1, 4);
        BENCH.refuses("x = \"", 1, 4);
        BENCH.refuses("x = 'abc", 1, 4);
        BENCH.refuses("x = 'abc\"", 1, 4);
        BENCH.refuses("x = \"abc'", 1, 4);
        BENCH.refuses("x = 'a\nb'", 1, 4);
        BENCH.refuses("x = 'a\rb'", 1, 4);
        BENCH.refuses("x = 'a\\\nb'", 1, 4);
        BENCH.refuses("x = 'a\\\rb'", 1, 4);
        BENCH.writes("print('\"', \"'\", 'a\tb')", "\" ' a\tb\n");
        BENCH.refuses("x = 'a' 'b", 1, 8);
        BENCH.refuses("f 'a' 'b", 1, 6);
    }

    private static void signsAsLongAsTheyCanBe() {
        BENCH.writes("local a, b = 5, 3 print(a+b, a-b, a*b, a//b, a%b, a..b, a==b) print(a~=b, a<b, a<=b, a>b, a>=b)", "8 2 15 1 2 53 false\ntrue false false true true\n");
        BENCH.writes("local a=-1 print(a<-1, a>-2, a<=-1, a==-1, #'a'==1, not(a==1))", "false true true true true true\n");
        BENCH.refuses("x = a === b", 1, 8);
        BENCH.refuses("x = a <== b", 1, 8);
        BENCH.refuses("x = a >== b", 1, 8);
        BENCH.refuses("x = a = = b", 1, 6);
        BENCH.refuses("x = a < = b", 1, 8);
        BENCH.refuses("x = a ~ = b", 1, 6);
        BENCH.refuses("x = a / / b", 1, 6);
        BENCH.refuses("x = a /", 1, 6);
        BENCH.refuses("x = a ~", 1, 6);
        BENCH.refuses("x = a ~~= b", 1, 6);
        BENCH.refuses("x = a /// b", 1, 8);
        BENCH.refuses("x = a . . b", 1, 8);
        BENCH.refuses("x = a .. . b", 1, 9);
        BENCH.refuses("x = a .... b", 1, 6);
        BENCH.refuses("x = a ... b", 1, 6);
        BENCH.refuses("x = a <> b", 1, 7);
        BENCH.refuses("x = a != b", 1, 6);
        BENCH.refuses("a += 1", 1, 2);
        BENCH.writes("local function f(...) return(...)..'' end print(f(1))", "1\n");
        BENCH.writes("local t={a={b=1}}print(t.a.b,t['a']['b'],t . a . b)", "1 1 1\n");
        // The byte that begins no token, in the place of an exp.
        for (String sign : "~ / ! @ $ ^ & | ? \\ `".split(" ")) {
            BENCH.refuses("x = " + sign, 1, 4);
        }
    }
}
