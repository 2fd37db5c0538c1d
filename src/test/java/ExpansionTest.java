/** Expansion: \expandafter, \noexpand, \csname, \the and conditionals; and NUMBERs, GLUE and keywords. */
public final class ExpansionTest extends Asking {
    private static void held() {
        // \expandafter reads two tokens, and expands the second one once
        error(2, "\\expandafter");
        error(2, "\\expandafter a");
        signs("ab", -1, "\\setbox0\\hbox{\\expandafter ab}");
        signs("(b)", -1, "\\def\\x{\\y}\\def\\y{b}\\def\\z#1{(#1)}\\setbox0\\hbox{\\expandafter\\z\\x}");
        count(1, "\\def\\x{\\y}\\def\\y{b}\\def\\z#1{\\ifx#1\\y\\count0=1\\fi}\\expandafter\\z\\x");
        signs("ab", -1, "\\setbox0\\hbox{a\\expandafter b}");
        error(8, "\\expandafter}\\relax");
        steps(3, "\\expandafter\\relax\\relax");
        // \noexpand: the token is not EXPANDABLE when it is read next
        error(2, "\\noexpand");
        signs("a", -1, "\\setbox0\\hbox{\\noexpand a}");
        signs("b", -1, "\\def\\x{a}\\setbox0\\hbox{\\noexpand\\x b}");
        error(0, "\\noexpand\\fi\\noexpand\\else\\noexpand\\the");
        error(1, "\\noexpand\\x");
        error(1, "\\noexpand~");
        error(8, "\\noexpand}");
        error(11, "\\noexpand\\endcsname");
        error(11, "\\noexpand\\cr");
        steps(2, "\\noexpand\\fi");
        steps(2, "\\noexpand\\relax");
        count(5, "\\noexpand\\count0=5 ");
        // if it stays to be read, it is as ever from then on
        signs("a", -1, "\\def\\x{a}\\setbox0\\hbox{\\count0=1\\noexpand\\x}");
        error(11, "\\count0=1\\noexpand\\fi");
        error(11, "\\count0=`a\\noexpand\\fi");
        error(11, "\\skip0=1\\noexpand\\fi");
        error(11, "\\hskip1\\noexpand\\fi");
        error(11, "\\count0\\noexpand\\fi");
        signs("aa", -1, "\\def\\x{a}\\def\\y#1{#1#1}\\setbox0\\hbox{\\expandafter\\y\\noexpand\\x}");
        // or is kept
        signs("b", -1, "\\def\\x{a}\\edef\\y{\\noexpand\\x}\\def\\x{b}\\setbox0\\hbox{\\y}");
        signs("b", -1, "\\def\\x{a}\\toks0{\\noexpand\\x b}\\setbox0\\hbox{\\the\\toks0}");
        // \expandafter does not expand it, and puts it back
        signs("ab", -1, "\\def\\x{a}\\setbox0\\hbox{\\expandafter\\expandafter\\expandafter\\relax\\noexpand\\x b}");
        signs("b", -1, "\\def\\x{a}\\setbox0\\hbox{\\expandafter\\relax\\noexpand\\x b}");
        // where something else has to come, it is that no more than others
        error(4, "\\def\\x{1}\\count0=-\\noexpand\\x");
        error(4, "\\def\\x{1}\\kern\\noexpand\\x");
        error(6, "\\def\\x{\\hbox{}}\\shipout\\noexpand\\x");
        // what looks for = or a keyword puts it back, so that it is as ever when it is read again
        register(1, 0, 0, "\\def\\x{1}\\count0=\\noexpand\\x");
        error(0, "\\def\\x{\\hbox{}}\\setbox0\\noexpand\\x");
        error(0, "\\def\\x{{}}\\hbox\\noexpand\\x");
        error(4, "\\def\\x{\\hsize}\\the\\noexpand\\x");
        error(6, "\\def\\x{\\count}\\global\\noexpand\\x0=1");
        // whichever macro it is
        for (int n = 1; n < 60; n++) {
            String text = times(n, "\\def~{}") + "\\noexpand~";
            error(0, text);
            steps(n + 2, text);
        }
    }

    private static void namesMade() {
        error(2, "\\csname");
        error(2, "\\csname abc");
        error(2, "\\csname\\endcsname\\csname a");
        // what it is made of has to be characters
        error(6, "\\csname\\relax\\endcsname");
        error(6, "\\csname\\x\\endcsname");
        error(6, "\\let\\x=a\\csname\\x\\endcsname");
        error(6, "\\def\\x{a}\\csname\\noexpand\\x\\endcsname");
        error(6, "\\csname a\n\nb\\endcsname");
        error(0, "\\csname a#&$1 {}\\endcsname");
        count(3, "\\expandafter\\def\\csname a#&$1 {}\\endcsname{\\count0=3 }\\csname a#&$1 {}\\endcsname");
        // ACTIVE ones that are not EXPANDABLE are characters, too
        error(0, "\\csname~\\endcsname");
        error(0, "\\let~=a\\csname~\\endcsname");
        count(4, "\\def\\~{\\count0=4 }\\csname~\\endcsname");
        count(4, "\\def\\~{\\count0=4 }\\let~=a\\csname~\\endcsname");
        count(4, "\\def\\~{\\count0=4 }\\def~{a}\\csname\\noexpand~\\endcsname");
        count(4, "\\def\\a{\\count0=4 }\\def~{a}\\csname~\\endcsname");
        // what ends it is any token that means \endcsname
        count(4, "\\def\\a{\\count0=4 }\\let\\e\\endcsname\\csname a\\e");
        count(4, "\\def\\a{\\count0=4 }\\let~\\endcsname\\csname a~");
        error(6, "\\let\\endcsname\\relax\\csname a\\endcsname");
        // without a meaning it means \relax, within the group
        error(0, "\\csname a\\endcsname\\a");
        error(1, "{\\csname a\\endcsname}\\a");
        error(0, "\\csname a\\endcsname{\\csname a\\endcsname}\\a");
        count(1, "\\csname a\\endcsname\\ifx\\a\\relax\\count0=1\\fi");
        count(1, "\\edef\\x{\\csname a\\endcsname}\\ifx\\a\\relax\\count0=1\\fi");
        count(1, "\\def\\y{\\a}\\edef\\x{\\csname a\\endcsname}\\ifx\\x\\y\\count0=1\\fi");
        // one within another one
        count(4, "\\def\\abc{\\count0=4 }\\def\\x{b}\\csname a\\csname x\\endcsname c\\endcsname");
        error(6, "\\csname a\\csname b\\endcsname c\\endcsname");
        // expanded, it comes in place of all that, and may be expanded again
        signs("q", -1, "\\def\\a{q}\\setbox0\\hbox{\\csname a\\endcsname}");
        steps(2, "\\csname a\\endcsname");
    }

    private static void told() {
        signs("0", -1, "\\setbox0\\hbox{\\the\\count0 }");
        signs("-1000000", -1, "\\count0=-1000000 \\setbox0\\hbox{\\the\\count0 }");
        signs("1000000", -1, "\\len9=1000000 \\setbox0\\hbox{\\the\\len9 }");
        signs("0", -1, "\\setbox0\\hbox{\\the\\skip0 }");
        kinds("10", -1, "\\setbox0\\hbox{\\the\\skip0 }");
        kinds("104000040400000400", -1, "\\skip0=0plus1 minus1f\\setbox0\\hbox{\\the\\skip0 }");
        signs("0plus-1fffminus-2f", -1, "\\skip0=0plus-1fff minus-2f\\setbox0\\hbox{\\the\\skip0 }");
        signs("5minus7ff", -1, "\\skip0=5minus7ff\\setbox0\\hbox{\\the\\skip0 }");
        kinds("104000040000", -1, "\\skip0=5plus7fff\\setbox0\\hbox{\\the\\skip0 }");
        // order without a number is not told
        signs("5", -1, "\\skip0=5plus0fff\\setbox0\\hbox{\\the\\skip0 }");
        signs("6", -1, "\\setbox0\\hbox{\\the\\class`\\! }");
        signs("10", -1, "\\setbox0\\hbox{\\the\\class`\\& }");
        String[] names = {"hsize", "vsize", "indent", "base", "tol", "loose", "linepen", "hyphpen"};
        String[] first = {"100", "120", "10", "12", "200", "0", "10", "50"};
        for (int i = 0; i < names.length; i++) signs(first[i], -1, "\\setbox0\\hbox{\\the\\" + names[i] + "}");
        signs("200", -1, "\\setbox0\\hbox{\\the\\tol}");
        signs("ab", -1, "\\toks3{ab}\\setbox0\\hbox{\\the\\toks3 }");
        signs("", -1, "\\setbox0\\hbox{\\the\\toks3 }");
        signs("xy", -1, "\\output{xy}\\setbox0\\hbox{\\the\\output}");
        signs("", -1, "\\setbox0\\hbox{\\the\\output}");
        // they are characters of the class OTHER, not LETTERs and not of the class that the code has
        register(5, 0, 0, "\\let\\x\\count\\count1=5 \\class`\\5=5 \\x0=\\the\\x1 ");
        error(4, "\\let\\x\\count\\count1=5 \\class`\\5=5 \\x0=5 ");
        count(1, "\\count1=7 \\class`\\7=5 \\edef\\x{\\the\\count1 }\\class`\\7=6 \\def\\y{7}\\ifx\\x\\y\\count0=1 \\fi");
        count(0, "\\skip1=1plus1 \\edef\\x{\\the\\skip1 }\\def\\y{1 plus 1}\\ifx\\x\\y\\count0=1 \\fi");
        count(1, "\\let\\c\\class\\skip1=1plus1 \\edef\\x{\\the\\skip1 }\\let\\k\\ifx\\let\\o\\count"
            + "\\c`\\p=6 \\c`\\l=6 \\c`\\u=6 \\c`\\s=6 \\def\\y{1 plus 1}\\k\\x\\y\\o0=1 \\fi");
    }

    private static void toldWrong() {
        error(4, "\\the a");
        error(4, "\\the\\relax");
        error(4, "\\the\\x");
        error(4, "\\the\\wd0");
        error(4, "\\the\\ht0");
        error(4, "\\the\\dp0");
        error(4, "\\the\\box0");
        error(4, "\\the 5");
        error(4, "\\the\\advance");
        error(6, "\\the\\count10");
        error(6, "\\the\\skip-1");
        error(6, "\\the\\toks10");
        error(6, "\\the\\class0");
        error(6, "\\the\\class128");
        error(2, "\\the");
        error(2, "\\the\\count");
        error(0, "\\count0=\\the\\count0");
    }

    private static void conditions() {
        count(1, "\\ifnum1<2 \\count0=1\\fi");
        count(0, "\\ifnum2<2 \\count0=1\\fi");
        count(1, "\\ifnum2=2 \\count0=1\\fi");
        count(0, "\\ifnum1=2 \\count0=1\\fi");
        count(1, "\\ifnum2>1 \\count0=1\\fi");
        count(0, "\\ifnum2>2 \\count0=1\\fi");
        count(1, "\\ifnum-1000000<1000000 \\count0=1\\fi");
        // the sign between: BLANKs may be ahead, and its class does not matter
        count(1, "\\def\\s{ }\\ifnum1\\s\\s<\\s\\s2 \\count0=1\\fi");
        count(1, "\\class`\\<=5 \\ifnum1<2 \\count0=1\\fi");
        count(1, "\\class`\\<=10 \\ifnum1<2 \\count0=1\\fi");
        count(1, "\\def\\x{<}\\ifnum1\\x2 \\count0=1\\fi");
        error(4, "\\ifnum1a2\\fi");
        error(4, "\\ifnum1 a2\\fi");
        error(4, "\\ifnum1\\relax2\\fi");
        error(4, "\\ifnum1;2\\fi");
        error(4, "\\ifnum1?2\\fi");
        error(4, "\\let\\x<\\ifnum1\\x2\\fi");
        error(4, "\\ifnum<2\\fi");
        error(11, "\\ifnum1<\\fi");
        error(2, "\\ifnum");
        error(2, "\\ifnum1");
        error(2, "\\ifnum1<");
        error(9, "\\ifnum1<2");
        error(2, "\\ifnum2<1");
        error(11, "\\ifnum1<2\\fi");
        error(11, "\\ifnum1<2\\else\\fi");
        error(0, "\\ifnum1<2 \\fi");
        error(0, "\\ifnum1<\\hsize\\fi");
        // one that is looked at by a NUMBER belongs to the one around
        count(2, "\\ifnum1<2 \\ifnum1<2\\fi\\count0=2 \\fi");
        error(9, "\\ifnum1<2 \\ifnum1<2\\fi");
        error(9, "\\ifnum1<2 \\ifnum1=1\\else\\count0=1 \\x\\fi");
        error(11, "\\ifnum1<2 \\ifnum1=1\\else\\count0=1 \\x\\fi\\fi");
        error(0, "\\ifnum1<2 \\ifnum1=1\\else\\count0=1 \\x\\fi\\relax\\fi");
        // \ifx: two tokens that are not expanded
        error(2, "\\ifx");
        error(2, "\\ifx a");
        error(2, "\\ifx ab");
        error(9, "\\ifx aa");
        count(1, "\\ifx aa\\count0=1 \\fi");
        count(0, "\\ifx aA\\count0=1 \\fi");
        count(0, "\\def\\x{!}\\class`\\!=5 \\expandafter\\ifx\\x!\\count0=1 \\fi");
        count(1, "\\def\\x{!}\\expandafter\\ifx\\x!\\count0=1 \\fi");
        count(1, "\\def~{a}\\def\\x{a}\\ifx~\\x\\count0=1 \\fi");
        count(0, "\\def\\x{a}\\def\\y{b}\\ifx\\x\\y\\count0=1 \\fi");
        count(0, "\\def\\x{a}\\def\\y{\\x}\\ifx\\x\\y\\count0=1 \\fi");
        count(0, "\\def\\x{a}\\ifx\\x a\\count0=1 \\fi");
        count(0, "\\def\\x#1{}\\def\\y{}\\ifx\\x\\y\\count0=1 \\fi");
        count(0, "\\def\\x#1{}\\def\\y#1#2{}\\ifx\\x\\y\\count0=1 \\fi");
        count(0, "\\def\\x#1{#1}\\def\\y#1{}\\ifx\\x\\y\\count0=1 \\fi");
        count(0, "\\def\\x a#1{}\\def\\y#1a{}\\ifx\\x\\y\\count0=1 \\fi");
        count(0, "\\def\\x#1#2{#1}\\def\\y#1#2{#2}\\ifx\\x\\y\\count0=1 \\fi");
        count(1, "\\def\\x#1#2{#1}\\edef\\y#1#2{#1}\\ifx\\x\\y\\count0=1 \\fi");
        count(1, "\\ifx\\x\\y\\count0=1 \\fi");
        count(1, "\\ifx\\x~\\count0=1 \\fi");
        count(0, "\\ifx\\x\\relax\\count0=1 \\fi");
        count(1, "\\let\\x\\ifx\\ifx\\x\\ifx\\count0=1 \\fi");
        count(0, "\\ifx\\hbox\\vbox\\count0=1 \\fi");
        count(1, "\\let\\x=a\\let\\y=a\\ifx\\x\\y\\count0=1 \\fi");
        count(0, "\\let\\x=a\\ifx\\x A\\count0=1 \\fi");
        count(1, "\\let\\x{\\ifx\\x{\\count0=1 \\fi");
        // \ifvoid
        count(1, "\\ifvoid0 \\count0=1 \\fi");
        count(0, "\\setbox0\\hbox{}\\ifvoid0 \\count0=1 \\fi");
        count(1, "\\setbox0\\hbox{}\\setbox1\\box0 \\ifvoid0 \\count0=1 \\fi");
        error(6, "\\ifvoid10 \\fi");
        error(6, "\\ifvoid-1 \\fi");
        error(11, "\\ifvoid\\fi");
        error(2, "\\ifvoid");
        error(11, "\\ifvoid0\\else\\fi");
        error(0, "\\ifvoid0 \\else\\fi");
    }

    private static void passedOver() {
        // up to its \else or \fi; nothing in it is expanded or executed
        count(2, "\\ifnum1=2 \\count0=1 \\x}{#\\else\\count0=2 \\fi");
        count(0, "\\ifnum1=2 \\count0=1 \\fi");
        count(1, "\\ifnum1=1 \\count0=1 \\else\\count0=2 \\x\\y}\\fi");
        count(2, "\\def\\x{\\fi}\\ifnum1=2 \\x\\count0=1 \\else\\count0=2 \\fi");
        // each that means \ifnum, \ifx or \ifvoid begins another one
        count(2, "\\ifnum1=2 \\ifnum\\ifx\\ifvoid\\fi\\fi\\else\\count0=1 \\fi\\else\\count0=2 \\fi");
        count(2, "\\let\\i\\ifx\\let\\f\\fi\\ifnum1=2 \\i\\else\\count0=1 \\f\\else\\count0=2 \\f");
        count(2, "\\def\\i{\\ifx}\\ifnum1=2 \\i\\count0=1 \\else\\count0=2 \\fi");
        count(2, "\\let\\ifx\\relax\\ifnum1=2 \\ifx\\count0=1 \\else\\count0=2 \\fi");
        // an \else that is passed over behind an \else is nothing
        count(1, "\\ifnum1=1 \\count0=1 \\else\\else\\count0=2 \\fi");
        count(3, "\\ifnum1=2 \\ifnum1=1 \\else\\else\\count0=1 \\fi\\else\\count0=3 \\fi");
        // but it is the error 11 where it is come upon
        error(11, "\\ifnum1=2 \\else\\else\\fi");
        error(11, "\\ifnum1=2 \\else\\ifnum1=1 \\else\\fi\\else\\fi");
        error(0, "\\ifnum1=2 \\else\\ifnum1=1 \\else\\fi\\fi");
        error(11, "\\ifnum1=1 \\fi\\fi");
        error(11, "\\ifnum1=1 \\fi\\else");
        error(11, "\\else\\fi");
        error(2, "\\ifnum1=2 ");
        error(2, "\\ifnum1=2 \\ifnum\\fi");
        error(2, "\\ifnum1=1 \\else");
        error(2, "\\ifnum1=1 \\else\\ifx\\fi");
        // groups do not matter to them
        error(0, "{\\ifnum1=1 }\\fi");
        error(0, "\\ifnum1=1 {\\else}\\fi}");
        error(9, "\\ifnum1=1 {\\fi");
        // within \edef, too
        signs("b", -1, "\\edef\\x{\\ifnum1=2 a\\else b\\fi}\\setbox0\\hbox{\\x}");
        error(9, "\\edef\\x{\\ifnum1=1 a}");
        steps(2, "\\ifnum1=2 aaa\\x\\fi\\relax");
        steps(3, "\\ifnum1=1 \\else aaa\\x\\fi\\relax");
        steps(3, "\\ifnum1=2 aaa\\else\\fi\\relax");
    }

    private static void numbers() {
        register(0, 0, 0, "\\count0=0 ");
        register(0, 0, 0, "\\count0=-0 ");
        register(7, 0, 0, "\\count0=0000000000007 ");
        register(1000000, 0, 0, "\\count0=1000000 ");
        register(1000000, 0, 0, "\\count0=0001000000 ");
        register(-1000000, 0, 0, "\\count0=-1000000 ");
        error(5, "\\count0=1000001 ");
        error(5, "\\count0=-1000001 ");
        error(5, "\\count0=10000000000000000000000");
        error(5, "\\count0=4294967297 ");
        error(5, "\\count10000000000=1 ");
        // as soon as digits come to more: what follows is not looked at
        error(5, "\\count0=10000011\\x");
        error(11, "\\count0=1000000\\fi");
        error(5, "\\count0=1000001\\fi");
        // signs and BLANKs
        register(5, 0, 0, "\\count0=+5 ");
        register(5, 0, 0, "\\count0=--5 ");
        register(-5, 0, 0, "\\count0=- - -5 ");
        register(5, 0, 0, "\\def\\s{ }\\count0=\\s\\s+\\s-\\s\\s-\\s5 ");
        register(-5, 0, 0, "\\def\\x{-}\\count0=\\x5 ");
        register(-97, 0, 0, "\\count0=-`a ");
        register(-100, 0, 0, "\\count0=-\\hsize");
        register(-5, 0, 0, "\\count1=5 \\count0=-\\count1 ");
        register(5, 0, 0, "\\count1=-5 \\count0=-\\count1 ");
        error(4, "\\class45=5 \\count0=-5 ");
        error(4, "\\class43=5 \\count0=+5 ");
        error(4, "\\let\\x-\\count0=\\x5 ");
        error(4, "\\let\\x5\\count0=\\x");
        error(4, "\\class`\\5=5 \\count0=5 ");
        register(1, 0, 0, "\\class`\\5=5 \\count0=15 ");
        // without one
        error(4, "\\count0=a");
        error(4, "{\\count0=}");
        error(4, "\\count0=:");
        error(4, "\\count0=/");
        register(1, 0, 0, "\\count0=1:");
        error(4, "\\count0=-a");
        error(4, "\\count0=\\relax");
        error(4, "\\count0=\\x");
        error(4, "\\count0=\\skip0 ");
        error(4, "\\count0=\\toks0 ");
        error(4, "\\count0=\\output");
        error(4, "\\count0=\\box0 ");
        error(4, "\\count0=\n\n5");
        error(2, "\\count0=");
        error(2, "\\count0=-");
        error(2, "\\count0=  ");
        error(2, "\\count0=\\count");
        // ` and a character, or a NAME of one sign, not expanded
        register(97, 0, 0, "\\count0=`a ");
        register(97, 0, 0, "\\count0=`\\a ");
        register(126, 0, 0, "\\def~{5}\\count0=`~ ");
        register(126, 0, 0, "\\def\\~{5}\\count0=`\\~ ");
        register(92, 0, 0, "\\count0=`\\\\ ");
        register(123, 0, 0, "\\count0=`{ ");
        register(125, 0, 0, "\\count0=`} ");
        register(35, 0, 0, "\\count0=`# ");
        register(32, 0, 0, "\\count0=` ");
        register(32, 0, 0, "\\count0=`\\ ");
        register(1, 0, 0, "\\count0=`" + (char) 1);
        register(127, 0, 0, "\\count0=`" + (char) 127);
        error(4, "\\count0=`\\ab ");
        error(4, "\\count0=`\\relax");
        error(2, "\\count0=`");
        error(4, "\\class96=5 \\count0=`a ");
        error(4, "\\csname\\endcsname\\count0=`\\");
        // behind digits and codes one BLANK is passed over, behind others none
        String two = "\\def\\s{ }\\setbox0\\hbox{\\count0=";
        kinds("140", -1, two + "5\\s\\s a}");
        kinds("10", -1, two + "5\\s a}");
        kinds("140", -1, two + "`a\\s\\s a}");
        kinds("10", -1, two + "`a\\s a}");
        kinds("140", -1, two + "\\hsize\\s a}");
        kinds("140", -1, two + "\\count1\\s\\s a}");
        kinds("10", -1, two + "\\count1\\s a}");
        kinds("140", -1, two + "\\class`a\\s\\s a}");
        // registers, codes and boxes that there are not
        for (String what : new String[] {"count", "len", "wd", "ht", "dp"}) {
            error(0, "\\count0=\\" + what + "9 ");
            error(6, "\\count0=\\" + what + "10 ");
            error(6, "\\count0=\\" + what + "-1 ");
            register(0, 0, 0, "\\count0=\\" + what + "3 ");
        }
        error(6, "\\count0=\\class0 ");
        error(6, "\\count0=\\class128 ");
        register(6, 0, 0, "\\count0=\\class127 ");
        register(6, 0, 0, "\\count0=\\class1 ");
        register(14, 0, 0, "\\setbox3\\hbox{ab}\\count0=\\wd3 ");
        // one within another one
        register(4, 0, 0, "\\count1=2 \\count2=3 \\count3=4 \\count0=\\count\\count\\count1 ");
    }

    private static void glues() {
        glue("1 0 0 0 0", "1");
        glue("1 2 0 0 0", "1plus2");
        glue("1 0 0 2 0", "1minus2");
        glue("1 2 0 3 0", "1plus2minus3");
        glue("1 2 0 3 0", "1 plus 2 minus 3 ");
        glue("1 2 1 3 2", "1plus2fminus3ff");
        glue("1 2 3 0 0", "1plus2fff");
        glue("1 2 3 0 0", "1plus2ffff");
        glue("-1 2 0 3 0", "-1plus2minus3");
        glue("-1 -2 0 -3 0", "- 1plus-2minus- + 3 ");
        glue("1000000 -1000000 3 1000000 2", "1000000plus-1000000fff minus1000000ff");
        glue("1 0 0 3 0", "1minus3plus2");
        glue("1 0 3 0 0", "1plus0fff");
        glue("100 10 0 120 0", "\\hsize plus\\indent minus\\vsize");
        glue("100 10 1 120 2", "\\hsize plus\\indent f minus\\vsize ff");
        glue("1 2 2 0 0", "1 plus 2 ff f");
        glue("1 2 1 0 0", "1 plus 2 f ff");
        error(5, "\\skip0=1000001 ");
        error(5, "\\skip0=1plus1000001 ");
        error(5, "\\skip0=1minus1000001 ");
        error(4, "\\skip0=1plus a");
        error(4, "\\skip0=1minus plus2");
        error(4, "\\skip0=plus2");
        error(2, "\\skip0=1plus");
        error(2, "\\skip0=");
        error(6, "\\skip0=\\skip10 ");
        error(6, "\\skip0=\\skip-1 ");
        error(6, "\\skip10=1 ");
        // \skip gives all parts, turned by -, and nothing may follow
        String full = "\\skip1=1plus2fminus-3fff ";
        glueOf("1 2 1 -3 3", full + "\\skip0=\\skip1 ");
        glueOf("-1 -2 1 3 3", full + "\\skip0=-\\skip1 ");
        glueOf("1 2 1 -3 3", full + "\\skip0=- + -\\skip1 ");
        glueOf("1 2 1 -3 3", full + "\\skip0=\\skip1 plus9 ");
        // an order is 0 to 3 f that come next; one BLANK behind any f is passed over
        kinds("140", -1, "\\setbox0\\hbox{\\hskip1plus1ffff}");
        kinds("14", -1, "\\setbox0\\hbox{\\hskip1plus1fff}");
        kinds("14", -1, "\\def\\s{ }\\setbox0\\hbox{\\hskip1plus1f\\s}");
        kinds("144", -1, "\\def\\s{ }\\setbox0\\hbox{\\hskip1plus1f\\s\\s}");
        kinds("144", -1, "\\def\\s{ }\\setbox0\\hbox{\\hskip1plus\\hsize\\s}");
        kinds("14", -1, "\\def\\s{ }\\setbox0\\hbox{\\hskip1plus\\hsize f\\s}");
        kinds("1400", -1, "\\def\\s{ }\\setbox0\\hbox{\\hskip1plus1f\\s ff}");
        // what was read of a keyword that does not come whole stays, the BLANKs ahead of it, too
        signs("plux", -1, "\\setbox0\\hbox{\\hskip1plux}");
        kinds("140000", -1, "\\setbox0\\hbox{\\hskip1 plux}");
        kinds("1440000", -1, "\\def\\s{ }\\setbox0\\hbox{\\hskip1\\s\\s plux}");
        kinds("14440000", -1, "\\def\\s{ }\\setbox0\\hbox{\\hskip1\\s\\s\\s minu}");
        kinds("1440000", -1, "\\def\\s{ }\\setbox0\\hbox{\\hskip1plus2\\s\\s minu}");
        signs("PLUS2", -1, "\\setbox0\\hbox{\\hskip1PLUS2}");
        signs("plus2", -1, "\\let\\x=s\\setbox0\\hbox{\\hskip1plu\\x2}");
        // they are characters with these codes, of whatever class but ACTIVE
        register(2, 3, 0, "\\let\\x\\skip\\let\\c\\class\\c`\\p=6 \\c`\\l=10 \\c`\\u=3 \\x0=1plus2 ");
        register(2, 3, 0, "\\let\\x\\skip\\let\\c\\class\\c`\\p=1 \\c`\\s=2 \\x0=1plus2 ");
        register(2, 3, 0, "\\def\\x{plus}\\skip0=1\\x2 ");
        register(2, 3, 0, "\\def\\x{us}\\skip0=1pl\\x2 ");
        register(1, 4, 0, "\\class`\\f=6 \\skip0=1plus2f");
        register(1, 4, 0, "\\def\\x{f}\\skip0=1plus2\\x");
        register(0, 3, 0, "\\let\\x\\skip\\let\\y\\let\\class`\\s=7 \\ys=a\\x0=1plus2 ");
        register(0, 4, 0, "\\let\\x\\skip\\class`\\f=7 \\letf=a\\x0=1plus2f");
    }

    private static void glue(String want, String glue) {
        glueOf(want, "\\skip0=" + glue);
    }

    private static void glueOf(String want, String text) {
        Catcodia x = of(text);
        String got = "";
        for (int what = 2; what <= 6; what++) got += (what > 2 ? " " : "") + x.register(what, 0);
        due(text + " gives " + got + " and not " + want, got.equals(want) ? 1 : 0, 1);
    }

    private static void within() {
        String numbers = "\\count0=" + times(39, "\\count");
        error(0, numbers + "0 ");
        error(10, numbers + "\\count0 ");
        // an expansion within 40 NUMBERs, and 39
        error(10, "\\def\\x{0 }" + numbers + "\\x");
        error(0, "\\def\\x{0 }\\count0=" + times(38, "\\count") + "\\x");
        error(10, "\\count0=" + times(39, "\\count") + "0\\fi");
        error(11, "\\count0=" + times(38, "\\count") + "0\\fi");
        // expansions within expansions
        String expansions = times(39, "\\e\\relax");
        error(0, "\\let\\e\\expandafter\\def\\x{}" + times(39, "\\e.") + "\\x");
        error(10, "\\let\\e\\expandafter\\def\\x{}" + times(40, "\\e.") + "\\x");
        error(11, "\\let\\e\\expandafter" + expansions + "\\fi");
        error(10, "\\let\\e\\expandafter\\e\\relax" + expansions + "\\fi");
        // each \csname is within the one ahead of it
        error(2, "\\let\\c\\csname" + times(40, "\\c"));
        error(10, "\\let\\c\\csname" + times(41, "\\c"));
        // \the in a BODY is an expansion likewise
        error(0, "\\edef\\x{\\the" + times(39, "\\count") + "0 }");
        error(10, "\\edef\\x{\\the" + times(40, "\\count") + "0 }");
        // those that are ended do not count
        error(0, "\\edef\\x{" + times(45, "\\the\\tol ") + "}");
        error(0, times(45, "\\the\\tol "));
        error(0, "\\def\\t#1{#1#1#1#1#1#1#1#1#1#1}\\t{\\t{\\skip1\\skip2 }}");
        error(0, "\\def\\t#1{#1#1#1#1#1#1#1#1#1#1}\\t{\\t{\\skip1-\\count2 plus3 }}");
    }

    /** Signs ahead of \skip are the GLUE's own, and stand in no NUMBER; those of a NUMBER do. */
    private static void withinGlue() {
        for (String glue : new String[] {"\\skip1=+", "\\hskip", "\\vskip", "\\advance\\skip1by", "\\leaders\\hbox{x}\\vskip"}) {
            error(0, nested("\\skip0") + glue + times(39, "\\e+") + "\\a");
            error(10, nested("\\skip0") + glue + times(40, "\\e+") + "\\a");
            error(0, nested("5 ") + glue + times(38, "\\e+") + "\\a");
            error(10, nested("5 ") + glue + times(39, "\\e+") + "\\a");
            error(10, nested("\\tol") + glue + times(39, "\\e+") + "\\a");
        }
        String signs = "\\skip1=-+" + times(39, "\\e-") + "\\a";
        register(7, 2, 1, "\\skip0=7plus3minus2ff" + nested("\\skip0 ") + signs);
        register(3, 3, 1, "\\skip0=7plus3minus2ff" + nested("\\skip0 ") + signs);
        register(2, 5, 1, "\\skip0=7plus3minus2ff" + nested("\\skip0 ") + signs);
        register(2, 6, 1, "\\skip0=7plus3minus2ff" + nested("\\skip0 ") + signs);
        // \let, \def, \skip, 39 or 40 expansions, and those of the parts that \skip takes from no signs
        steps(43, nested("\\skip0") + signs);
        error(10, nested("\\skip0") + "\\skip1=+" + times(40, "\\e-") + "\\a");
        steps(43, nested("\\skip0") + "\\skip1=+" + times(40, "\\e-") + "\\a");
        // behind = nothing is in a NUMBER yet, because BLANKs are looked for there
        error(0, nested("5 ") + "\\skip1=" + times(39, "\\e-") + "\\a");
        error(0, nested("5 ") + "\\count1=" + times(39, "\\e-") + "\\a");
        // a NUMBER ends the run in place of what is within too many, as one that is in no GLUE does
        steps(42, nested("5 ") + signs);
        steps(42, nested("5 ") + "\\count1=+" + times(39, "\\e-") + "\\a");
        error(10, nested("5 ") + "\\count1=+" + times(39, "\\e-") + "\\a");
        // a second time for one GLUE, and for the next one
        error(0, nested("\\skip0 ") + signs + "\\skip2=5 ");
        error(0, nested("\\skip0 ") + signs + "\\skip2=-5plus\\count0 ");
        error(10, "\\let\\e\\expandafter\\def\\x{}\\skip0=-\\skip0 " + times(40, "\\e.") + "\\x");
        error(10, "\\skip0=-\\skip" + times(40, "\\count") + "0 ");
        error(0, "\\skip0=-\\skip" + times(39, "\\count") + "0 ");
        error(10, "\\skip0=-5plus" + times(40, "\\count") + "0 ");
        error(0, "\\skip0=-5plus" + times(39, "\\count") + "0 ");
        error(10, "\\skip0=-" + times(40, "\\count") + "0 ");
        error(0, "\\skip0=-" + times(39, "\\count") + "0 ");
        // NUMBERs in expansions of signs count likewise
        String compared = "0=0 -\\fi\\a";
        error(0, "\\def\\a{\\skip0 }\\hskip\\ifnum" + times(38, "\\count") + compared);
        error(10, "\\def\\a{\\skip0 }\\hskip\\ifnum" + times(39, "\\count") + compared);
        error(0, "\\def\\a{5 }\\hskip\\ifnum" + times(37, "\\count") + compared);
        error(10, "\\def\\a{5 }\\hskip\\ifnum" + times(38, "\\count") + compared);
    }

    /** For \e + \e + .. \a, each expanded within those ahead of it; \a becomes the text. */
    private static String nested(String text) {
        return "\\let\\e\\expandafter\\def\\a{" + text + "}";
    }

    /** Where a NUMBER comes, what follows is none of a GLUE. */
    private static void noGlue() {
        kinds("1" + "5" + "00000" + "4", -1, "\\setbox0\\hbox{\\kern1plus2 }");
        kinds("1" + "00000" + "4", -1, "\\setbox0\\hbox{\\len0=1plus2 }");
        kinds("1" + "00000" + "4", -1, "\\setbox0\\hbox{\\count0=1plus2 }");
        kinds("1" + "00000" + "4", -1, "\\setbox0\\hbox{\\hsize=1plus2 }");
        kinds("1" + "00000" + "4", -1, "\\setbox0\\hbox{\\copy1plus2 }");
        kinds("1" + "00000", -1, "\\setbox0\\hbox{\\ifnum1<2plus3\\fi}");
        kinds("1" + "3" + "00000" + "4", -1, "\\setbox0\\hbox{\\rule1 2 3plus4 }");
        error(4, "\\rule1plus1 2 3 ");
        error(4, "\\rule1 2plus1 3 ");
        error(4, "\\ifnum1plus2<3 \\fi");
        error(6, "\\hbox{\\raise1plus2\\hbox{}}");
        error(6, "\\hbox to1plus2{}");
        error(6, "\\vbox spread1minus2{}");
        error(4, "\\count0plus1=2 ");
        error(4, "\\class65=6\\class65plus1=2 ");
    }

    public static void main(String[] args) {
        held();
        namesMade();
        told();
        toldWrong();
        conditions();
        passedOver();
        numbers();
        glues();
        within();
        withinGlue();
        noGlue();
        end();
    }
}
