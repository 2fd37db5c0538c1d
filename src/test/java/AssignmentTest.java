/** Assignments, and what groups give back. */
public final class AssignmentTest extends Asking {
    private static void global() {
        register(5, 0, 0, "{\\global\\count0=5 }");
        register(5, 0, 0, "{\\global\\global\\global\\count0=5 }");
        register(5, 0, 0, "\\def\\s{ }{\\global\\s\\s\\count0=5 }");
        register(5, 0, 0, "\\def\\x{\\global\\count}{\\x0=5 }");
        register(5, 0, 0, "\\let\\g\\global{\\g\\count0=5 }");
        register(5, 0, 0, "\\def\\x{\\count}{\\global\\x0=5 }");
        steps(4, "{\\global\\global\\count0=5 }\\relax");
        error(6, "\\global a");
        error(6, "\\global\\relax");
        error(6, "\\global\\par");
        error(6, "\\global\\hbox{}");
        error(6, "\\global\\x");
        error(6, "\\global{");
        error(6, "\\global}");
        error(6, "\\global\\shipout\\hbox{}");
        error(6, "\\global\\wd0");
        error(2, "\\global");
        error(2, "\\global\\global");
        error(2, "\\global ");
        error(0, "{\\global\\patterns{a1b}}");
        error(0, "{\\global\\def\\x{}}\\x");
        error(0, "{\\global\\edef\\x{}}\\x");
        error(0, "{\\global\\let\\x\\relax}\\x");
        register(10, 7, 0, "{\\global\\setbox0\\hbox{\\setbox0\\hbox{b}a}}");
        register(10, 7, 0, "{\\global\\setbox0\\hbox{\\count0=5 a}}");
        register(0, 0, 0, "{\\global\\setbox0\\hbox{\\count0=5 a}}");
        register(3, 0, 0, "\\count0=1 {\\global\\advance\\count0 by2 }");
    }

    private static void givenBack() {
        // meanings that NAMEs have at first, too
        kinds("1" + "5", -1, "{\\def\\kern{b}}\\setbox0\\hbox{\\kern1 }");
        kinds("1" + "5", -1, "{\\let\\kern=b}\\setbox0\\hbox{\\kern1 }");
        error(1, "{\\def\\x{b}}\\x");
        error(1, "{\\def~{b}}~");
        register(1, 0, 0, "\\count0=1 {\\count0=2 }");
        register(1, 1, 9, "\\len9=1 {\\len9=2 {\\len9=3 }}");
        register(1, 2, 0, "\\skip0=1plus2f{\\skip0=2 }");
        register(2, 3, 0, "\\skip0=1plus2f{\\skip0=2 }");
        register(1, 0, 0, "\\count0=1 {\\advance\\count0 by5 \\multiply\\count0 by5 \\divide\\count0 by3 }");
        signs("ab", -1, "\\toks0{ab}{\\toks0{c}}\\setbox0\\hbox{\\the\\toks0 }");
        signs("ab", -1, "\\output{ab}{\\output{c}}\\setbox0\\hbox{\\the\\output}");
        parameter(100, 0, "{\\hsize5 }");
        classOf(5, 97, "{\\class97=9 }");
        register(10, 7, 0, "\\setbox0\\hbox{a}{\\setbox0\\hbox{b}}");
        register(Catcodia.NONE, 7, 0, "{\\setbox0\\hbox{b}}");
        error(1, "{\\def\\x{}}\\x");
        error(1, "{\\edef\\x{}}\\x");
        error(1, "{\\let\\x\\relax}\\x");
        error(1, "{\\def~{}}~");
        error(1, "{\\csname x\\endcsname}\\x");
        signs("a", -1, "\\def\\x{a}{\\def\\x{b}}\\setbox0\\hbox{\\x}");
        signs("a", -1, "\\def\\x{a}\\setbox1\\hbox{\\def\\x{b}}\\setbox0\\hbox{\\x}");
        signs("a", -1, "\\def\\x{a}\\vbox{\\def\\x{b}}\\setbox0\\hbox{\\x}");
        signs("a", -1, "\\def\\x{a}\\insert{\\def\\x{b}}\\setbox0\\hbox{\\x}");
        signs("a", -1, "\\def\\x{a}\\align{#\\cr\\def\\x{b}\\cr}\\setbox0\\hbox{\\x}");
        signs("a", -1, "\\def\\x{a}\\output{\\def\\x{b}\\setbox1\\box9 }\\hbox{}\\penalty-10000 \\setbox0\\hbox{\\x}");
        // set again and again, in one group and in those around it
        register(1, 0, 0, "\\count0=1 {\\count0=2 \\count0=3 {\\count0=4 }\\count0=5 {{\\count0=6 }}}");
        register(7, 0, 0, "\\count0=1 {\\count0=2 {\\global\\count0=7 }\\count0=3 }");
        register(3, 0, 1, "\\count0=1 {\\count0=2 {\\global\\count0=7 }\\count1=\\count0 {\\count0=4 }\\global\\count1=3 }");
        register(7, 0, 1, "\\count0=1 {\\count0=2 {\\global\\count0=7 }\\global\\count1=\\count0 }");
        register(7, 0, 0, "\\count0=1 {\\count0=2 {\\count0=3 \\global\\count0=7 \\count0=4 }\\count0=5 }");
        register(4, 0, 1, "{\\global\\count0=7 \\count0=4 \\global\\count1=\\count0 }");
        register(7, 0, 0, "{\\global\\count0=7 \\count0=4 \\global\\count1=\\count0 }");
        // an error leaves all as it is then
        register(2, 0, 0, "\\count0=1 {\\count0=2 \\x");
        register(4, 7, 0, "\\setbox0\\hbox{a}{\\setbox0\\hbox{b}}\\hbox{\\setbox0\\hbox{b}\\x");
        classOf(9, 97, "{\\class97=9 \\x}");
    }

    private static void boxesGivenBack() {
        // \box empties also behind groups in which it was not set
        register(Catcodia.NONE, 7, 0, "\\setbox0\\hbox{a}{\\box0 }");
        register(Catcodia.NONE, 7, 0, "\\setbox0\\hbox{a}{{\\setbox1\\box0 }}");
        register(Catcodia.NONE, 7, 0, "\\setbox0\\hbox{a}\\setbox1\\hbox{\\box0 }");
        register(Catcodia.NONE, 7, 0, "\\setbox0\\hbox{a}\\setbox1\\hbox{\\pour0 }");
        register(10, 7, 0, "\\setbox0\\hbox{a}{\\copy0 }");
        // one in which it was set gives back what there was ahead of it
        register(10, 7, 0, "\\setbox0\\hbox{a}{\\setbox0\\hbox{b}\\box0 }");
        register(10, 7, 0, "\\setbox0\\hbox{a}{\\setbox0\\hbox{b}{\\box0 }}");
        register(Catcodia.NONE, 7, 1, "\\setbox0\\hbox{a}{\\setbox0\\hbox{b}{\\box0 }\\global\\setbox1\\box0 }");
        register(Catcodia.NONE, 7, 0, "\\setbox0\\hbox{a}{\\box0 \\setbox0\\hbox{b}}");
        register(4, 7, 0, "\\setbox0\\hbox{a}{\\box0 \\global\\setbox0\\hbox{b}}");
        register(Catcodia.NONE, 7, 0, "\\setbox0\\hbox{a}{\\global\\setbox0\\hbox{b}\\box0 }");
        // an empty one can be set, and used up
        register(Catcodia.NONE, 7, 0, "\\setbox0\\hbox{a}\\setbox0\\box1 ");
        register(Catcodia.NONE, 7, 0, "\\setbox0\\hbox{a}\\setbox0=\\copy1 ");
        register(10, 7, 0, "\\setbox0\\hbox{a}{\\setbox0\\box1 }");
        register(10, 7, 0, "\\setbox0\\hbox{a}\\setbox0\\box0 ");
        register(20, 7, 0, "\\setbox0\\hbox{a}\\setbox0\\hbox{\\copy0\\box0}");
        error(0, "\\box0 \\copy0 \\shipout\\box0 a\\raise1\\box0 \\box0 ");
        due("pages", of("\\shipout\\box0 \\shipout\\copy0 ").pages(), 0);
    }

    private static void macros() {
        // N is a NAME or an ACTIVE character, perhaps behind BLANKs
        error(0, "\\let\\!\\def\\! \\x{}\\x");
        error(0, "\\let\\!\\def\\!  ~{}~");
        error(6, "\\def a{}");
        error(6, "\\def{}");
        error(6, "\\def}");
        error(6, "\\def 1{}");
        error(6, "\\edef a{}");
        error(6, "\\let a=b");
        error(2, "\\def");
        error(2, "\\let");
        error(2, "\\let\\x");
        error(2, "\\let\\x=");
        error(2, "\\let\\x= ");
        error(2, "\\def\\x");
        error(2, "\\def\\x#");
        error(2, "\\def\\x#1");
        error(2, "\\def\\x{");
        error(2, "\\def\\x{{}");
        // PARAMETERs 1, 2, .. 9 in this order
        error(0, "\\def\\x#1#2#3#4#5#6#7#8#9{#9}");
        error(6, "\\def\\x#1#2#3#4#5#6#7#8#9#{}");
        error(6, "\\def\\x#1#2#3#4#5#6#7#8#9#1{}");
        error(6, "\\def\\x#1#2#3#4#5#6#7#8#9#:{}");
        error(6, "\\def\\x#:{}");
        error(6, "\\def\\x#1{#:}");
        error(6, "\\def\\x#1#2#3#4#5#6#7#8#9{#:}");
        error(6, "\\def\\x#0{}");
        error(6, "\\def\\x#2{}");
        error(6, "\\def\\x#1#1{}");
        error(6, "\\def\\x#1#3{}");
        error(6, "\\def\\x#a{}");
        error(6, "\\def\\x##{}");
        error(6, "\\def\\x#{}");
        error(6, "\\def\\x#1#{}");
        error(6, "\\def\\x# 1{}");
        error(6, "\\def\\x#\\y{}");
        error(6, "\\let\\d\\def\\class`\\1=5 \\d\\x#1{}");
        error(0, "\\def\\x#12{#1}\\x a2");
        error(3, "\\def\\x 1#1{#1}\\x 2");
        // a CLOSE among PARAMETERS
        error(6, "{\\def\\x}");
        error(6, "{\\def\\x#1}{}");
        error(6, "{\\def\\x#}{}");
        error(6, "\\def\\x ab}");
        // in BODY a PARAMETER and the digit of one, or two PARAMETERs
        error(6, "\\def\\x{#}");
        error(6, "\\def\\x{#1}");
        error(6, "\\def\\x#1{#2}");
        error(6, "\\def\\x#1{#0}");
        error(6, "\\def\\x#1{#a}");
        error(6, "\\def\\x#1{#{1}}");
        error(6, "\\def\\x#1{# 1}");
        error(6, "\\def\\x#1{#}");
        error(6, "\\def\\x#1{###}");
        error(6, "\\let\\d\\def\\d\\y{\\d\\x##1}\\class`\\1=5 \\y{#1}");
        error(0, "\\def\\x{##}");
        error(7, "\\def\\x{##}\\x");
        error(0, "\\def\\x{####}");
        signs("ab", -1, "\\def\\x#1{\\def\\y##1{#1##1}}\\x a\\setbox0\\hbox{\\y b}");
        signs("abc", -1, "\\def\\x#1{\\def\\y##1{\\def\\z####1{#1##1####1}}}\\x a\\y b\\setbox0\\hbox{\\z c}");
        signs("(a)b", -1, "\\def\\x#1{(#1)}\\setbox0\\hbox{\\x a{b}}");
        // neither is expanded
        error(0, "\\def\\y#1{}\\def\\x\\y{\\y}");
        error(1, "\\def\\x{\\y}\\x");
        error(0, "\\def\\x{\\y}");
        // \edef expands the BODY ahead of that
        error(0, "\\def\\y{##1}\\edef\\x#1{\\y}\\x a");
        signs("a", -1, "\\def\\y{##1}\\edef\\x#1{\\y}\\setbox0\\hbox{\\x a}");
        error(6, "\\def\\y{##}\\edef\\x{\\y}");
        error(6, "\\def\\y{##2}\\edef\\x#1{\\y}");
        error(2, "\\def\\y#1{}\\edef\\x{\\y");
        error(8, "\\def\\y#1{}\\edef\\x{\\y}");
        error(0, "\\edef\\x{\\y}");
        signs("b", -1, "\\def\\y{a}\\edef\\x{\\noexpand\\y}\\def\\y{b}\\setbox0\\hbox{\\x}");
        signs("ab", -1, "\\def\\y{a}\\edef\\x{\\y\\noexpand\\y}\\def\\y{b}\\setbox0\\hbox{\\x}");
        // tokens of \the for \toks or \output stay, if \edef expands it itself
        signs("b", -1, "\\def\\y{a}\\toks0{\\y}\\edef\\x{\\the\\toks0}\\def\\y{b}\\setbox0\\hbox{\\x}");
        signs("b", -1, "\\def\\y{a}\\output{\\y}\\edef\\x{\\the\\output}\\def\\y{b}\\output{}\\setbox0\\hbox{\\x}");
        signs("a", -1, "\\def\\y{a}\\toks0{\\y}\\edef\\x{\\expandafter\\relax\\the\\toks0}\\def\\y{b}\\setbox0\\hbox{\\x}");
        signs("b", -1, "\\def\\y{a}\\toks0{\\y}\\def\\z{\\the\\toks0}\\edef\\x{\\z}\\def\\y{b}\\setbox0\\hbox{\\x}");
        signs("12", -1, "\\count1=12 \\edef\\x{\\the\\count1 }\\count1=5 \\setbox0\\hbox{\\x}");
        signs("x1", -1, "\\toks0{x#1}\\edef\\b#1{\\the\\toks0}\\setbox0\\hbox{\\b1}");
        error(6, "\\toks0{x#}\\edef\\b{\\the\\toks0}");
        // within it groups balance
        error(0, "\\edef\\x{{\\relax}}");
        error(2, "\\edef\\x{{\\relax}");
        // \let takes any token, and expands nothing
        error(0, "\\def\\y{}\\let\\x\\y\\x");
        signs("=", -1, "\\let\\x==\\setbox0\\hbox{\\x}");
        signs("=", -1, "\\let\\x = =\\setbox0\\hbox{\\x}");
        error(9, "\\let\\x{\\x");
        error(0, "\\let\\x}");
        error(0, "\\let\\x\\x");
        error(1, "\\let\\x\\x\\x");
    }

    private static void registers() {
        for (String what : new String[] {"count", "len", "skip", "toks", "setbox"}) {
            String to = what.equals("toks") ? "{}" : what.equals("setbox") ? "\\hbox{}" : "1 ";
            error(0, "\\" + what + "0=" + to);
            error(0, "\\" + what + "9=" + to);
            error(0, "\\" + what + "9 " + to);
            error(0, "\\" + what + "9 = " + to);
            error(6, "\\" + what + "10=" + to);
            error(6, "\\" + what + "-1=" + to);
            error(4, "\\" + what + "=" + to);
            error(4, "\\" + what + " a=" + to);
            error(2, "\\" + what);
            error(2, "\\" + what + "0");
            error(2, "\\" + what + "0=");
        }
        error(6, "\\toks0=a");
        error(6, "\\toks0=\\toks1");
        error(6, "\\toks0=}");
        error(0, "\\output={a}\\output = {}\\output{}");
        signs("a", -1, "\\output={a}\\setbox0\\hbox{\\the\\output}");
        error(6, "\\output=a");
        error(6, "\\output\\relax");
        error(6, "\\patterns a");
        error(6, "\\patterns={}");
        error(6, "\\mark a");
        error(6, "\\insert a");
        error(6, "\\align a");
        error(2, "\\toks0={a");
        error(2, "\\output");
        error(2, "\\patterns{");
        error(6, "\\setbox0=a");
        error(6, "\\setbox0={");
        error(6, "\\setbox0=\\relax");
        error(6, "\\setbox0=\\raise1\\hbox{}");
        error(6, "\\setbox0=\\rule1 1 1 ");
        error(6, "\\setbox0=\\box10 ");
        error(6, "\\setbox0=\\copy-1 ");
        error(0, "\\def\\s{ }\\setbox0\\s\\s=\\s\\s\\hbox\\s\\s{}");
        // "=" is looked for once
        error(4, "\\count0==5 ");
        error(6, "\\toks0=={}");
        register(5, 0, 0, "\\class`\\==5 \\count0=5 ");
        register(5, 0, 0, "\\def\\x{=}\\count0\\x5 ");
        // values at the edges
        register(1000000, 1, 0, "\\len0=1000000 ");
        register(-1000000, 1, 0, "\\len0=-1000000 ");
        error(5, "\\len0=1000001 ");
        for (String name : new String[] {"hsize", "vsize", "indent", "base", "tol", "loose", "linepen", "hyphpen"}) {
            error(0, "\\" + name + "=1000000 ");
            error(0, "\\" + name + "-1000000 ");
            error(5, "\\" + name + "=1000001 ");
            error(4, "\\" + name + "=a");
            error(2, "\\" + name + "=");
        }
    }

    private static void calculations() {
        register(1000000, 0, 0, "\\count0=999999 \\advance\\count0 by1 ");
        error(5, "\\count0=999999 \\advance\\count0 by2 ");
        register(-1000000, 0, 0, "\\count0=-999999 \\advance\\count0 by-1 ");
        error(5, "\\count0=-999999 \\advance\\count0 by-2 ");
        register(999999, 0, 0, "\\count0=999999 \\advance\\count0 by2 ");
        register(1000000, 0, 0, "\\count0=1000 \\multiply\\count0 by1000 ");
        register(-1000000, 0, 0, "\\count0=-1000 \\multiply\\count0 by1000 ");
        error(5, "\\count0=1000 \\multiply\\count0 by1001 ");
        error(5, "\\count0=1000000 \\multiply\\count0 by1000000 ");
        error(5, "\\count0=1000000 \\multiply\\count0 by-1000000 ");
        // 65536 times 65536 would be 0 as an int
        error(5, "\\count0=65536 \\multiply\\count0 by65536 ");
        register(0, 0, 0, "\\count0=1000000 \\multiply\\count0 by0 ");
        register(3, 0, 0, "\\count0=7 \\divide\\count0 by2 ");
        register(-3, 0, 0, "\\count0=-7 \\divide\\count0 by2 ");
        register(-3, 0, 0, "\\count0=7 \\divide\\count0 by-2 ");
        register(3, 0, 0, "\\count0=-7 \\divide\\count0 by-2 ");
        register(7, 0, 0, "\\count0=7 \\divide\\count0 by1 ");
        register(-7, 0, 0, "\\count0=7 \\divide\\count0 by-1 ");
        for (int n = 0; n < 10; n++) {
            register(3, 0, n, "\\count" + n + "=1 \\advance\\count" + n + " by2 ");
            register(3, 1, n, "\\len" + n + "=1 \\advance\\len" + n + " by2 ");
            register(3, 2, n, "\\skip" + n + "=1 \\advance\\skip" + n + " by2 ");
        }
        register(0, 0, 0, "\\count0=7 \\divide\\count0 by8 ");
        error(12, "\\count0=7 \\divide\\count0 by0 ");
        error(12, "\\divide\\skip0 by0 ");
        error(12, "\\divide\\hsize by-0 ");
        // BLANKs and by may be missing
        register(3, 0, 0, "\\count0=1 \\advance\\count0 2 ");
        register(3, 0, 0, "\\count0=1 \\advance\\count0by2 ");
        register(3, 0, 0, "\\def\\s{ }\\count0=1 \\advance\\s\\s\\count0\\s\\s by\\s\\s2 ");
        register(103, 0, 0, "\\count0=3 \\advance\\count0\\hsize");
        error(4, "\\advance\\count0 b2 ");
        error(4, "\\advance\\count0 by by2 ");
        error(4, "\\advance\\count0=2 ");
        error(2, "\\advance\\count0 by");
        error(2, "\\advance\\count0 ");
        error(2, "\\advance");
        // for glue the natural part alone
        String skip = "\\skip0=3plus4fminus5ff \\skip1=1plus9fff ";
        for (int what = 2; what <= 6; what++) {
            int[] first = {3, 4, 1, 5, 2};
            register(what == 2 ? 4 : first[what - 2], what, 0, skip + "\\advance\\skip0 by\\skip1 ");
            register(what == 2 ? 2 : first[what - 2], what, 0, skip + "\\advance\\skip0 by-\\skip1 ");
            register(what == 2 ? 10 : first[what - 2], what, 0, skip + "\\advance\\skip0 7plus8minus9 ");
            register(what == 2 ? -6 : first[what - 2], what, 0, skip + "\\multiply\\skip0 by-2 ");
            register(what == 2 ? 1 : first[what - 2], what, 0, skip + "\\divide\\skip0 by2 ");
        }
        kinds("1000004", -1, skip + "\\setbox0\\hbox{\\multiply\\skip0 by2plus1 }");
        error(4, skip + "\\multiply\\skip0 by\\skip1 ");
        error(4, "\\advance\\count0 by\\skip1 ");
        error(5, "\\skip0=1000000 \\advance\\skip0 by1 ");
        error(5, "\\skip0=-1000000 \\multiply\\skip0 by2 ");
        // others
        for (String what : new String[] {"\\toks0", "\\output", "\\class65", "\\wd0", "\\box0", "\\relax", " a", "5", "{", "\\x",
            "\\setbox0", "\\count10", "\\len-1", "\\skip10", "\\advance\\count0"}) {
            error(6, "\\advance" + what + " by1 ");
            error(6, "\\multiply" + what + " by1 ");
            error(6, "\\divide" + what + " by1 ");
        }
        parameter(33, 0, "\\divide\\hsize by3 ");
        parameter(-120, 1, "\\multiply\\vsize by-1 ");
        parameter(100, 0, "{\\advance\\hsize by1 }");
        parameter(101, 0, "{\\global\\advance\\hsize by1 }");
    }

    public static void main(String[] args) {
        global();
        givenBack();
        boxesGivenBack();
        macros();
        registers();
        calculations();
        end();
    }
}
