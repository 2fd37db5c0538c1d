/** How the document is read: its classes and tokens, NAMEs, meanings, and what macros get. */
public final class ReadingTest extends Asking {
    /** \m is 600 times x. */
    static final String SIX = "\\def\\b#1{#1#1#1#1#1#1#1#1#1#1}\\edef\\m{\\b{\\b{xxxxxx}}}";

    private static void names() {
        // the NAME is the longest row of LETTERs; all BLANKs behind it are passed over
        kinds("10", -1, "\\setbox0\\hbox{\\relax  \n\n \n a}");
        kinds("140", -1, "\\setbox0\\hbox{\\relax% \n \n%\na}");
        error(1, "\\relaxa");
        error(0, "\\relax1");
        // without a LETTER it is one sign, whatever its class; BLANKs behind it stay
        kinds("140", -1, "\\let\\!\\relax\\setbox0\\hbox{\\!  a}");
        kinds("140", -1, "\\let\\ \\relax\\setbox0\\hbox{\\   a}");
        signs("ab", -1, "\\def\\%{a}\\def\\{{b}\\setbox0\\hbox{\\%\\{}");
        signs("ab", -1, "\\def\\\\{a}\\def\\~{b}\\setbox0\\hbox{\\\\\\~}");
        signs("a", -1, "\\def\\\n{a}\\setbox0\\hbox{\\\n}");
        signs("b1", -1, "\\def\\1{b}\\setbox0\\hbox{\\11}");
        signs("xb", -1, "\\class`\\a=6 \\def\\a{x}\\setbox0\\hbox{\\ab}");
        signs("xb", -1, "\\class`\\!=9 \\def\\!{x}\\setbox0\\hbox{\\!b}");
        // the NAME is empty at the end of the document
        error(1, "\\");
        error(0, "\\csname\\endcsname\\");
        steps(3, "\\csname\\endcsname\\");
        error(4, "\\count0=`\\");
        error(2, "\\def\\");
        // NAMEs are told apart by all their signs
        signs("ab", -1, "\\def\\x{a}\\def\\xx{b}\\setbox0\\hbox{\\x\\xx}");
        signs("ab", -1, "\\def\\x{a}\\def\\X{b}\\setbox0\\hbox{\\x\\X}");
        error(1, "\\hboxx{}");
        error(1, "\\Hbox{}");
    }

    private static void blanks() {
        kinds("1040", -1, "\\setbox0\\hbox{a   b}");
        kinds("1040", -1, "\\setbox0\\hbox{a \n b}");
        kinds("1040", -1, "\\setbox0\\hbox{a\nb}");
        // two or more of the code 10 are the NAME par, whatever it means
        kinds("100", -1, "\\setbox0\\hbox{a\n\nb}");
        kinds("100", -1, "\\setbox0\\hbox{a \n \n \n b}");
        signs("axb", -1, "\\def\\par{x}\\setbox0\\hbox{a\n\nb}");
        signs("axb", -1, "\\class`\\_=4 \\def\\par{x}\\setbox0\\hbox{a\n_\nb}");
        kinds("1040", -1, "\\class`\\_=4 \\def\\par{x}\\setbox0\\hbox{a__\n_b}");
        // a row of BLANKs that is parted by a COMMENT or by what is IGNORED is two
        kinds("10440", -1, "\\setbox0\\hbox{a\n%\n%\n b}");
        kinds("10440", -1, "\\class`\\!=9 \\setbox0\\hbox{a\n!\nb}");
        kinds("1040", -1, "\\class10=6 \\class`\\_=4 \\setbox0\\hbox{a__b}");
        // 10 can be any other class, and BLANKs are the character 32 whatever their codes
        item("\\class10=6 \\setbox0\\hbox{\n}", -1, 1, 0, 7, 7, 2, 10);
        register(32, 0, 0, "\\class`\\_=4 \\count0=`_");
        register(32, 0, 0, "\\count0=`\n");
        error(4, "\\count0=`\n\n");
        // a COMMENT goes to the next code 10, or to the end of the document
        signs("ab", -1, "\\setbox0\\hbox{a%}\\x\nb}");
        signs("ab", -1, "\\class10=6 \\setbox0\\hbox{a%}\\x\nb}");
        error(9, "\\setbox0\\hbox{a%}");
        error(0, "%");
        steps(1, "a%");
        signs("b", -1, "\\class10=8 \\setbox0\\hbox{\nxx\nb}");
        // what is IGNORED is passed over, also ahead of a NAME's BLANKs
        signs("ab", -1, "\\class`\\!=9 \\setbox0\\hbox{!a!!b!}");
        error(1, "\\class`\\!=9 \\re!lax");
    }

    private static void classesOfTokens() {
        // a token is read by the classes of then: what was looked at stays as it was read
        kinds("10", -1, "\\setbox0\\hbox{\\class`\\!=9!}");
        kinds("1", -1, "\\setbox0\\hbox{\\class`\\!=9 !}");
        error(0, "\\class`\\!=3!");
        error(7, "\\class`\\!=3 !");
        error(7, "\\class`\\!=10 !");
        error(9, "\\class`\\!=1 !");
        error(8, "\\class`\\!=2 !");
        error(0, "\\class`\\!=4 !");
        error(1, "\\class`\\!=7 !");
        error(1, "\\class`\\!=0 !");
        error(0, "\\class`\\!=8 !\\x");
        // tokens of macros keep their classes
        error(0, "\\def\\x{!}\\class`\\!=3 \\x");
        error(7, "{\\class`\\!=3 \\global\\def\\x{!!}}\\x");
        signs("!", -1, "\\toks0{!}\\class`\\!=2 \\setbox0\\hbox{\\the\\toks0}");
        // an ACTIVE character has a meaning of its own, which is not that of a NAME
        signs("ab", -1, "\\def\\~{b}\\def~{a}\\setbox0\\hbox{~\\~}");
        error(1, "\\def\\~{b}~");
        signs("a", -1, "\\class`\\!=7 \\def!{a}\\setbox0\\hbox{\\let~!~}");
        for (int kind = 0; kind <= 10; kind++) classOf(kind, '!', "\\class`\\!=" + kind + " ");
        error(6, "\\class`\\!=11 ");
        error(6, "\\class`\\!=-1 ");
        error(6, "\\class0=1 ");
        error(6, "\\class128=1 ");
        error(6, "\\class-1=1 ");
        classOf(1, 127, "\\class127=1 ");
        classOf(10, 1, "\\class1=10 ");
    }

    private static void meanings() {
        // a NAME or ACTIVE character without a meaning
        error(1, "\\x");
        error(1, "~");
        error(1, "\\let\\x\\y\\x");
        error(1, "\\let\\x~\\x");
        error(0, "\\let\\x\\y");
        // one that was let to another one means what that meant then
        signs("a", -1, "\\def\\y{a}\\let\\x\\y\\def\\y{b}\\setbox0\\hbox{\\x}");
        signs("b", -1, "\\let\\x\\y\\def\\y{a}\\let~\\y\\def\\y{c}\\def\\x{b}\\setbox0\\hbox{\\x}");
        // one that was let to a character is executed as that
        signs("ab", -1, "\\let\\x=a\\let~b\\setbox0\\hbox{\\x~}");
        signs("b", -1, "\\let\\x=a\\class`\\a=9 \\let\\y\\x\\let\\x=b\\setbox0\\hbox{\\x}");
        error(7, "\\let\\x#\\x");
        error(7, "\\let\\x&\\x");
        error(8, "\\let\\x}\\x");
        error(9, "\\let\\x{\\x");
        error(0, "\\let\\x{\\let\\y}\\x\\y");
        error(0, "\\let\\x{\\x}");
        // but within parameters, bodies and TOKENS OPEN and CLOSE are those characters alone
        signs("ax", -1, "\\let\\y}\\def\\x#1{#1x}\\toks0{\\y}\\setbox0\\hbox{\\x{a}}");
        error(2, "\\let\\y}\\toks0{a\\y");
        error(2, "\\let\\y}\\def\\x{a\\y");
        error(2, "\\let\\y}\\def\\x#1{}\\x{a\\y");
        error(0, "\\let\\y{\\let\\z}\\def\\x#1{}\\x\\y");
        error(2, "\\let\\y{\\toks0\\y");
        error(0, "\\let\\y{\\toks0\\y}");
        error(0, "\\let\\y{\\toks0{\\y}");
        // primitive NAMEs can be given another meaning, and others theirs
        signs("a", -1, "\\def\\par{a}\\setbox0\\hbox{\\par}");
        register(5, 0, 0, "\\let\\c\\count\\def\\count{\\x}\\c0=5");
        error(1, "\\let\\hbox\\x\\hbox");
        error(1, "\\wd");
        error(1, "\\ht0=5");
        error(1, "\\dp");
        error(11, "\\cr");
        error(11, "\\let\\x\\cr\\x");
        error(0, "\\let\\cr\\relax\\cr");
        error(11, "\\endcsname");
        steps(1, "\\endcsname");
    }

    private static void parameters() {
        // tokens ahead of #1, or of the body: the same characters and classes, or NAMEs
        signs("x", -1, "\\def\\x a{x}\\setbox0\\hbox{\\x a}");
        error(3, "\\def\\x a{x}\\x b");
        error(3, "\\def\\x\\y{x}\\x\\relax");
        error(3, "\\let\\z\\y\\def\\x\\y{x}\\x\\z");
        error(0, "\\def\\x\\y{}\\x\\y");
        error(3, "\\def\\x!{x}\\class`\\!=10 \\x!");
        error(0, "\\def\\x!{x}\\def\\y{\\x!}\\class`\\!=10 \\y");
        error(3, "\\def\\x ab#1{x}\\x ac");
        error(2, "\\def\\x ab#1{x}\\x a");
        error(2, "\\def\\x ab{x}\\x");
        error(3, "\\def\\x a{x}\\x}");
        error(3, "\\def\\x a{x}\\x{");
        error(3, "\\def\\!a{x}\\! a");
        error(0, "\\def\\! a{}\\!   a");
        // without a TAIL: the next token that is no BLANK, or all up to the CLOSE
        signs("[a]", -1, "\\def\\x#1{[#1]}\\setbox0\\hbox{\\x  a}");
        signs("[a]b", -1, "\\def\\!#1{[#1]}\\setbox0\\hbox{\\! \n ab}");
        signs("[]b", -1, "\\def\\x#1{[#1]}\\setbox0\\hbox{\\x{}b}");
        kinds("10400", -1, "\\def\\x#1{[#1]}\\setbox0\\hbox{\\x{ }b}");
        signs("[aaa]b", -1, "\\def\\x#1{[#1]}\\setbox0\\hbox{\\x{a{a}a}b}");
        signs("[]]", -1, "\\def\\x#1{[#1]}\\let\\y]\\setbox0\\hbox{\\x\\y}");
        error(2, "\\def\\x#1{}\\x");
        error(2, "\\def\\x#1{}\\x  ");
        error(2, "\\def\\x#1{}\\x{a{b}");
        error(8, "\\def\\x#1{}\\x}");
        error(8, "\\def\\x#1#2{}{\\x a}");
        error(8, "\\def\\x#1.{}{\\x a}.");
        error(2, "\\def\\x#1.{}\\x a");
        error(2, "\\def\\x#1.{}\\x{a.");
        // with a TAIL: up to where it comes for the first time outside of OPEN and CLOSE
        signs("[]b.", -1, "\\def\\x#1.{[#1]}\\setbox0\\hbox{\\x.b.}");
        signs("[.]", -1, "\\def\\x#1.{[#1]}\\setbox0\\hbox{\\x{.}.}");
        signs("[a.b]", -1, "\\def\\x#1.{[#1]}\\setbox0\\hbox{\\x a{.}b.}");
        signs("[a.b].", -1, "\\def\\x#1.;{[#1]}\\setbox0\\hbox{\\x a.b.;.}");
        signs("[a..].", -1, "\\def\\x#1.;{[#1]}\\setbox0\\hbox{\\x a...;.}");
        signs("[aab]", -1, "\\def\\x#1aabaa;{[#1]}\\setbox0\\hbox{\\x aabaabaa;}");
        signs("[.]", -1, "\\def\\x#1.;{[#1]}\\setbox0\\hbox{\\x.{}.;}");
        signs("[.;]", -1, "\\def\\x#1.;{[#1]}\\setbox0\\hbox{\\x.{};.;}");
        kinds("14000", -1, "\\def\\!#1.{#1[]}\\setbox0\\hbox{\\! a.}");
        kinds("10400", -1, "\\def\\!#1.{#1[]}\\setbox0\\hbox{\\!a .}");
        // it loses an OPEN at its beginning and its CLOSE at its end, once
        signs("(ab)", -1, "\\def\\x#1.{\\y{#1}}\\def\\y#1{(#1)}\\setbox0\\hbox{\\x{ab}.}");
        count(1, "\\def\\x#1.{\\toks0{#1}}\\x{a}.\\def\\y{a}\\edef\\z{\\the\\toks0}\\ifx\\y\\z\\count0=1\\fi");
        count(1, "\\def\\x#1.{\\toks0{#1}}\\x{{a}}.\\def\\y{{a}}\\edef\\z{\\the\\toks0}\\ifx\\y\\z\\count0=1\\fi");
        count(1, "\\def\\x#1.{\\toks0{#1}}\\x{a}{a}.\\def\\y{{a}{a}}\\edef\\z{\\the\\toks0}\\ifx\\y\\z\\count0=1\\fi");
        count(1, "\\def\\x#1.{\\toks0{#1}}\\x{a}b.\\def\\y{{a}b}\\edef\\z{\\the\\toks0}\\ifx\\y\\z\\count0=1\\fi");
        count(1, "\\def\\x#1.{\\toks0{#1}}\\x b{a}.\\def\\y{b{a}}\\edef\\z{\\the\\toks0}\\ifx\\y\\z\\count0=1\\fi");
        count(1, "\\def\\x#1.{\\toks0{#1}}\\x{}.\\def\\y{}\\edef\\z{\\the\\toks0}\\ifx\\y\\z\\count0=1\\fi");
        // what the last parameter gets without a TAIL stays a token
        count(1, "\\def\\x#1{\\toks0{#1}}\\x{{a}}\\def\\y{{a}}\\edef\\z{\\the\\toks0}\\ifx\\y\\z\\count0=1\\fi");
        // nine of them, each with or without a TAIL
        signs("987654321", -1, "\\def\\x#1#2#3.#4#5#6#7#8#9{#9#8#7#6#5#4#3#2#1}\\setbox0\\hbox{\\x123.456789}");
        // BLANKs are left out ahead of one without a TAIL alone
        kinds("14000", -1, "\\def\\!#1#2.{#2#1}\\setbox0\\hbox{\\! a bc.}");
        kinds("1000", -1, "\\def\\!#1#2.{#2#1}\\setbox0\\hbox{\\! abc.}");
    }

    private static void limits() {
        String get = "\\def\\q#1{}\\expandafter\\q\\expandafter";
        error(0, SIX + get + "{\\m}");
        error(10, SIX + get + "{\\m x}");
        error(10, SIX + get + "{\\m x");
        error(2, SIX + get + "{\\m");
        // OPENs and CLOSEs within it count, those around it do not
        error(0, "\\def\\b#1{#1#1#1#1#1#1#1#1#1#1}\\edef\\m{\\b{\\b{xxxx{}}}}" + get + "{\\m}");
        error(10, "\\def\\b#1{#1#1#1#1#1#1#1#1#1#1}\\edef\\m{\\b{\\b{xxxx{}}}}" + get + "{\\m{}}");
        // BLANKs ahead of it do not
        error(0, SIX + "\\def\\q#1{}\\def\\s{ }\\expandafter\\q\\expandafter\\s\\expandafter{\\m}");
        // with a TAIL the { and } around it count: 598 and 2
        String most = SIX.replace("xxxxxx}}", "xxxxx}}\\b{xxxxxxxxx}xxxxxxxx");
        String tail = "\\def\\q#1.{}\\expandafter\\q\\expandafter";
        error(0, most + tail + "{\\m}.");
        error(10, most + tail + "{\\m x}.");
        // the TAIL itself does not count, nor what may be its beginning
        String two = "\\def\\q#1..{}\\expandafter\\q";
        error(0, SIX + two + "\\m..");
        error(2, SIX + two + "\\m.");
        error(2, SIX + two + "\\m");
        error(10, SIX + two + "\\m x");
        error(10, SIX + two + "\\m.x");
        error(10, SIX + two + "\\m{");
        error(8, SIX + two + "\\m}");
        error(8, SIX + two + "\\m.}");
        // the longest beginning of it that may have come
        error(2, SIX + "\\def\\q#1xx.{}\\expandafter\\q\\m xx");
        error(0, SIX + "\\def\\q#1xx.{}\\expandafter\\q\\m xx.");
        error(10, SIX + "\\def\\q#1xx.{}\\expandafter\\q\\m xxx.");
        error(10, SIX + "\\def\\q#1xx.{}\\expandafter\\q\\m xxx");
        error(0, SIX + "\\def\\q#1xxxxx.{}\\expandafter\\q\\m xxxxx.");
        error(0, SIX + "\\def\\q#1.#2.{}\\expandafter\\q\\m.a.");
        error(10, SIX + "\\def\\q#1.#2.{}\\expandafter\\q\\m a.a.");
        // each parameter has 600 of its own; a body that is put in place has 600 in all
        String two600 = "\\toks0\\expandafter{\\m}\\expandafter\\q\\expandafter{\\the\\expandafter\\toks"
            + "\\expandafter0\\expandafter}\\expandafter{\\m";
        error(0, SIX + "\\def\\q#1#2{#1}" + two600 + "}");
        error(10, SIX + "\\def\\q#1#2{#1}" + two600 + " x}");
        error(10, SIX + "\\def\\q#1#2{#1x}" + two600 + "}");
        error(10, SIX + "\\def\\q#1#2{#1#2}" + two600 + "}");
        error(0, SIX + "\\def\\q#1{#1}\\setbox0\\hbox{\\expandafter\\q\\expandafter{\\m}}");
        error(10, SIX + "\\def\\q#1{#1y}\\setbox0\\hbox{\\expandafter\\q\\expandafter{\\m}}");
        error(10, SIX + "\\def\\q#1{#1#1}\\setbox0\\hbox{\\expandafter\\q\\expandafter{\\m}}");
        error(0, SIX + "\\def\\q#1{}\\setbox0\\hbox{\\expandafter\\q\\expandafter{\\m}}");
        items(601, -1, SIX + "\\setbox0\\hbox{\\m}");
        items(601, -1, SIX + "\\def\\q#1{#1}\\setbox0\\hbox{\\expandafter\\q\\expandafter{\\m}}");
        // TOKENS between { and }
        error(0, SIX + "\\toks0\\expandafter{\\m}");
        error(10, SIX + "\\toks0\\expandafter{\\m x}");
        error(10, SIX + "\\toks0\\expandafter{\\m x");
        error(2, SIX + "\\toks0\\expandafter{\\m");
        error(10, SIX + "\\toks0\\expandafter{\\m{");
        error(0, SIX + "\\output\\expandafter{\\m}");
        error(10, SIX + "\\output\\expandafter{\\m x}");
        error(0, SIX + "\\patterns\\expandafter{\\m}");
        error(10, SIX + "\\patterns\\expandafter{\\m x}");
        error(0, SIX + "\\mark{\\m}");
        error(10, SIX + "\\mark{\\m x}");
        error(0, SIX + "\\edef\\q{\\m}");
        error(10, SIX + "\\edef\\q{\\m x}");
        error(10, SIX + "\\edef\\q{\\m\\m}");
        error(0, SIX + "\\expandafter\\def\\expandafter\\q\\expandafter{\\m}");
        error(10, SIX + "\\expandafter\\def\\expandafter\\q\\expandafter{\\m x}");
        error(0, SIX + "\\toks0\\expandafter{\\m}\\edef\\q{\\the\\toks0}");
        error(10, SIX + "\\toks0\\expandafter{\\m}\\edef\\q{\\the\\toks0 \\the\\toks0}");
        error(10, SIX + "\\toks0\\expandafter{\\m}\\edef\\q{\\the\\toks0 x}");
        // 597 of them, x, # and \cr
        String cells = SIX.replace("xxxxxx}}", "xxxxx}}\\b{xxxxxxxxx}xxxxxxx");
        error(0, cells + "\\align\\expandafter{\\m x#\\cr}");
        error(10, cells + "\\align\\expandafter{\\m xx#\\cr}");
        error(10, SIX + "\\align\\expandafter{\\m#\\cr}");
        // steps, groups, and what is within others
        steps(1500, "\\def\\a{\\a}\\a");
        error(10, "\\def\\a{\\a}\\a");
        // 1 and 111 expansions and 1000 times \relax, and 388 signs
        String most1500 = "\\def\\b#1{#1#1#1#1#1#1#1#1#1#1}\\b{\\b{\\b{\\relax}}}" + times(387, "a");
        error(0, most1500 + "a");
        steps(1500, most1500 + "a");
        error(1, most1500 + "~");
        error(10, most1500 + "aa");
        steps(1500, most1500 + "aa");
        error(10, most1500 + "a~");
        error(10, most1500 + "a\\noexpand");
        error(10, most1500 + "a\\fi");
        error(11, most1500 + "\\fi");
        error(0, times(40, "{") + times(40, "}"));
        error(10, times(40, "{") + "{");
        error(9, times(40, "{"));
        error(10, times(40, "{") + "\\hbox{}");
        error(0, times(39, "{") + "\\hbox{}" + times(39, "}"));
        error(10, times(40, "{") + "\\insert{}");
        error(10, times(40, "{") + "\\align{#\\cr a}");
        error(0, times(40, "{") + "\\align{#\\cr}" + times(40, "}"));
        error(10, "\\output{\\box9}\\hbox{}" + times(40, "{") + "\\penalty-10000 ");
        error(13, "\\output{}\\output{\\relax}\\hbox{}" + times(39, "{") + "\\penalty-10000 ");
    }

    /** Where a TAIL comes for the first time, for tails that can begin within themselves. */
    private static void tails() {
        for (int size = 1; size <= 4; size++) {
            for (int bits = 0; bits < 1 << size; bits++) {
                String tail = "";
                for (int i = 0; i < size; i++) tail += (bits >> i & 1) == 0 ? "a" : "b";
                for (int text = 0; text < 64; text++) {
                    String comes = "";
                    for (int i = 0; i < 6; i++) comes += (text >> i & 1) == 0 ? "a" : "b";
                    comes += tail;
                    int at = comes.indexOf(tail);
                    String want = "[" + comes.substring(0, at) + "]" + comes.substring(at + size);
                    signs(want, -1, "\\def\\x#1" + tail + "{[#1]}\\setbox0\\hbox{\\x " + comes + "}");
                }
            }
        }
        // the end of what was taken for one begins another one
        signs("aaba", -1, "\\def\\m#1aabaaac{\\setbox0\\hbox{#1}}\\m aabaaabaaac");
        signs("aabaa", -1, "\\def\\m#1aabaaac{\\setbox0\\hbox{#1}}\\m aabaaaabaaac");
        // each TAIL by itself
        signs("ab", -1, "\\def\\m#1aab{}\\def\\n#1abc{\\setbox0\\hbox{#1}}\\m aab\\n ababc");
        // each parameter counts for the body by itself
        error(0, "\\def\\t#1{#1#1#1#1#1#1#1#1#1#1}\\edef\\b{\\t{\\t{xx}}\\t{xxxxx}}\\def\\m#1#2{\\hbox{#1#2}}"
            + "\\expandafter\\m\\expandafter{\\b}{\\b}");
    }

    public static void main(String[] args) {
        names();
        blanks();
        classesOfTokens();
        meanings();
        parameters();
        limits();
        tails();
        end();
    }
}
