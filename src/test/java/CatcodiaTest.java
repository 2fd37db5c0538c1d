/** What the document promises, each promise by documents and the answers that are due. */
public final class CatcodiaTest extends Asking {
    // ---- the promises

    private static void aNewObject() {
        Catcodia x = new Catcodia();
        due("new error", x.error(), 0);
        due("new steps", x.steps(), 0);
        due("new pages", x.pages(), 0);
        due("new paragraphs", x.paragraphs(), 0);
        due("new cut", x.cut(0), 0);
        for (int n = 0; n < 10; n++) {
            for (int what = 0; what < 7; what++) due("new register", x.register(what, n), 0);
            for (int what = 7; what < 10; what++) due("new box", x.register(what, n), Catcodia.NONE);
            due("new box", x.items(-1 - n), 0);
        }
        due("NONE", Catcodia.NONE, -1000000000);
    }

    private static void feed() {
        Catcodia x = new Catcodia();
        due("feed", x.feed(0x6261L, 2), 2);
        due("feed the low signs alone", x.feed(0xFF00000063L, 1), 3);
        due("feed eight", x.feed(0x6161616161616161L, 8), 11);
        refused("feed of none", IllegalArgumentException.class, () -> x.feed(0x61, 0));
        refused("feed of nine", IllegalArgumentException.class, () -> x.feed(0x6161616161616161L, 9));
        refused("feed of a 0", IllegalArgumentException.class, () -> x.feed(0x610061, 3));
        refused("feed of 128", IllegalArgumentException.class, () -> x.feed(128, 1));
        refused("feed of a sign below 0", IllegalArgumentException.class, () -> x.feed(-1L, 8));
        due("refused calls change nothing", x.cut(0), 11);
        signs("abcaaaaaaaa", -1, "\\setbox0\\hbox{abcaaaaaaaa}");
        Catcodia y = of(times(476, "%"));
        refused("feed beyond 480", IllegalStateException.class, () -> y.feed(0x2525252525L, 5));
        due("feed up to 480", y.feed(0x25252525L, 4), 480);
        refused("feed beyond 480", IllegalStateException.class, () -> y.feed(0x25L, 1));
        due("480 stay", y.cut(0), 480);
    }

    private static void cut() {
        Catcodia x = of("\\count0=57");
        due("count", x.register(0, 0), 57);
        due("cut", x.cut(1), 9);
        due("count behind cut", x.register(0, 0), 5);
        refused("cut of too many", IllegalArgumentException.class, () -> x.cut(10));
        refused("cut of -1", IllegalArgumentException.class, () -> x.cut(-1));
        due("cut of all", x.cut(9), 0);
        due("count of nothing", x.register(0, 0), 0);
    }

    private static void errors() {
        error(1, "\\x");
        error(1, "~");
        error(1, "\\");
        error(1, "\\wd0 ");
        error(1, "\\ht");
        error(2, "\\count");
        error(2, "\\count0=");
        error(2, "\\count0=`");
        error(2, "\\hbox");
        error(2, "\\toks0={a");
        error(2, "\\def\\a");
        error(2, "\\ifnum1=2 a");
        error(2, "\\ifnum1");
        error(2, "\\def\\a#1.{}\\a b");
        error(2, "\\csname a");
        error(2, "\\expandafter\\relax");
        error(2, "\\setbox0=");
        error(2, "\\global");
        error(3, "\\def\\a.{}\\a!");
        error(3, "\\def\\a.{}\\a}");
        error(4, "\\count0=x");
        error(4, "\\count0=\\skip0");
        error(4, "\\count0=`\\ab");
        error(4, "\\the a");
        error(4, "\\the\\wd0");
        error(4, "\\ifnum1a2\\fi");
        error(0, "\\count0=1000000 ");
        error(5, "\\count0=1000001 ");
        error(5, "\\count0=1000000\\advance\\count0 by1 ");
        error(5, "\\count0=-1000000\\advance\\count0-1 ");
        error(5, "\\count0=1001\\multiply\\count0 by1000 ");
        error(0, "\\count0=1000\\multiply\\count0 by-1000 ");
        error(5, "\\setbox0\\hbox{\\kern1000000 \\kern1 }");
        error(5, "\\setbox0\\vbox{\\kern-1000000 \\kern-1 }");
        error(5, "\\setbox0\\hbox spread 1000000{a}");
        error(5, "\\hbox{\\raise1000000\\hbox{a}}");
        error(6, "\\count10=1");
        error(6, "\\count-1=1");
        error(6, "\\class0=1");
        error(6, "\\class128=1");
        error(6, "\\class65=11");
        error(6, "\\box10");
        error(6, "\\setbox0=a");
        error(6, "\\hbox a");
        error(6, "\\def a{}");
        error(6, "\\let a=b");
        error(6, "\\def\\a#2{}");
        error(6, "\\def\\a{#1}");
        error(6, "\\def\\a#1{#2}");
        error(6, "\\def\\a}");
        error(6, "\\global a");
        error(6, "\\global\\relax");
        error(6, "\\advance\\toks0 by1");
        error(6, "\\csname\\relax\\endcsname");
        error(6, "\\patterns{A}");
        error(6, "\\patterns{\\x}");
        error(6, "\\leaders\\box0\\hskip1");
        error(7, "#");
        error(7, "&");
        error(7, "\\hbox{\\vskip1}");
        error(7, "\\hbox{\\align{#\\cr}}");
        error(7, "\\-");
        error(0, "a\\-");
        error(7, "\\raise1\\hbox{}");
        error(7, "\\vbox{\\insert{}}");
        error(7, "\\hbox{\\insert{}}");
        error(0, "a\\insert{}");
        error(7, "\\leaders\\hbox{}\\hskip1");
        error(7, "a\\leaders\\hbox{}\\vskip1");
        error(7, "\\leaders\\hbox{}a");
        error(7, "\\setbox0\\vbox{a}\\hbox{\\pour0}");
        error(0, "\\hbox{\\pour0}\\vbox{\\pour0}");
        error(8, "}");
        error(8, "\\def\\a#1{}\\a}");
        error(8, "\\def\\a#1.{}\\a b}");
        error(9, "{");
        error(9, "\\hbox{a");
        error(9, "\\ifnum1=1 a");
        error(9, "{a\\end}");
        error(0, "a\\end}");
        error(11, "\\fi");
        error(11, "\\else");
        error(11, "\\ifnum1=1\\fi");
        error(11, "\\ifnum1=2 \\else\\else\\fi");
        error(0, "\\ifnum1=1 \\else\\else\\fi");
        error(11, "\\endcsname");
        error(11, "\\cr");
        error(12, "\\divide\\count0 by0");
        error(12, "\\divide\\hsize by\\count1");
        error(13, "\\output{\\relax}\\hbox{a}");
    }

    private static void limits() {
        steps(1500, "\\def\\a{\\a}\\a");
        error(10, "\\def\\a{\\a}\\a");
        error(0, times(40, "{") + times(40, "}"));
        error(10, times(41, "{") + times(41, "}"));
        error(0, "\\count0=" + times(39, "\\count") + "0 ");
        error(10, "\\count0=" + times(40, "\\count") + "0 ");
        error(0, "\\let\\e\\expandafter" + times(40, "\\e.") + "a");
        error(10, "\\let\\e\\expandafter" + times(41, "\\e.") + "a");
        error(0, "\\let\\e\\expandafter\\kern" + times(39, "\\e-") + "1 ");
        error(10, "\\let\\e\\expandafter\\kern" + times(40, "\\e-") + "1 ");
        String ten = "\\def\\a{xxxxxxxxxx}\\def\\b{\\a\\a\\a\\a\\a\\a\\a\\a\\a\\a}\\def\\c{\\b\\b\\b\\b\\b\\b}";
        error(0, ten + "\\edef\\d{\\c}");
        error(10, ten + "\\edef\\d{\\c x}");
        error(0, ten + "\\mark{\\c}");
        error(10, ten + "\\mark{\\c x}");
        error(0, ten + "\\edef\\d{\\c}\\def\\e#1{}\\expandafter\\e\\expandafter{\\d}");
        error(0, ten + "\\edef\\d{\\c}\\toks0\\expandafter{\\d}");
        error(10, ten + "\\edef\\d{\\c}\\toks0\\expandafter{\\d x}");
        error(10, ten + "\\edef\\d{\\c}\\def\\e#1{#1x}\\expandafter\\e\\expandafter{\\d}");
        error(0, ten + "\\edef\\d{\\c}\\def\\e#1.{}\\expandafter\\e\\d.");
        error(10, ten + "\\edef\\d{\\c}\\def\\e#1.{}\\expandafter\\e\\d x.");
        error(10, ten + "\\edef\\d{\\c}\\def\\e#1.{}\\expandafter\\e\\expandafter{\\d}.");
        error(0, ten + "\\edef\\d{\\c}\\def\\e#1..{}\\expandafter\\e\\d..");
        error(2, ten + "\\edef\\d{\\c}\\def\\e#1..{}\\expandafter\\e\\d.");
        error(10, ten + "\\edef\\d{\\c}\\def\\e#1..{}\\expandafter\\e\\d.x");
        // within an OPEN no TAIL begins, and its CLOSE is one more token: 2 and 598 of them are the most
        String most = "\\def\\b#1{#1#1#1#1#1#1#1#1#1#1}\\edef\\m{\\b{\\b{xxxxx}}\\b{xxxxxxxxx}xxxxxxxx}\\def\\q#1ab{}"
            + "\\def\\z{\\expandafter\\q\\expandafter}";
        error(0, most + "\\z{\\m}ab");
        error(2, most + "\\z{\\m}a");
        error(10, most + "\\z{\\m}aa");
        error(10, most + "\\z{\\m}{");
        error(2, most + "\\z{\\m");
        error(10, most + "\\z{\\m x");
        error(10, most + "\\z{\\m x}ab");
        error(10, most + "\\z{\\m xa");
        error(10, most + "\\z{\\m {");
        String box = "\\setbox0\\hbox{aaaaaaaaa}\\setbox0\\hbox{" + times(11, "\\copy0") + "}";
        // 10 and 1 + 11 * 10 = 111; 18 * 111 = 1998, with the box itself 1999
        items(1999, -1, box + "\\setbox0\\hbox{" + times(18, "\\copy0") + "}");
        items(2000, -1, box + "\\setbox0\\hbox{a" + times(18, "\\copy0") + "}");
        error(10, box + "\\setbox0\\hbox{aa" + times(18, "\\copy0") + "}");
        error(10, box + "\\setbox0\\hbox to 1000000{\\kern1000000 aa" + times(18, "\\copy0") + "}");
        // a box, a penalty and 1998 more are on the page; the glue that breaks it and the box behind that come anew
        String full = "\\def\\t#1{#1#1#1#1#1#1#1#1#1#1}\\def\\k{\\kern0 }\\setbox0\\vbox{\\t{\\t\\k}\\t\\k}"
            + "\\def\\c{\\setbox1\\copy0\\pour1 }\\vsize20 \\output{\\shipout\\box9 \\ifnum\\count0=0 \\hbox{x}"
            + "\\penalty0 \\!\\fi\\global\\count0=1 }\\hbox{a}\\penalty0 \\t\\c" + times(8, "\\c") + "\\t\\k";
        String behind = times(6, "\\k") + "\\kern30 \\mark{}\\hbox{b}";
        error(0, full.replace("\\!", "") + behind);
        due("pages", of(full.replace("\\!", "") + behind).pages(), 3);
        error(10, full.replace("\\!", "\\k") + behind);
        due("pages", of(full.replace("\\!", "\\k") + behind).pages(), 1);
        due("pages", of(full.replace("\\!", "") + "\\k" + behind).pages(), 0);
        error(10, full.replace("\\!", "") + "\\k" + behind);
        error(0, times(1, "a") + times(40, " a"));
        error(10, times(1, "a") + times(41, " a"));
        String pages = "\\def\\a{\\hbox{a}\\penalty-10000 }";
        due("pages", of(pages + times(40, "\\a")).pages(), 40);
        due("pages", of(pages + times(41, "\\a")).pages(), 40);
        error(10, pages + times(41, "\\a"));
        // pouring: 10 items twice, then 100 of them, and so on
        String pour = "\\setbox0\\hbox{aaaaaaaaaa}\\def\\p{\\setbox0\\hbox{\\setbox1\\copy0\\pour0\\pour1}}";
        items(21, -1, pour + "\\p");
        items(1281, -1, pour + times(7, "\\p"));
        // 20 + 40 + .. + 1280 = 2540; then 1280 more, and 180 at most
        error(0, pour + times(7, "\\p") + "\\hbox{\\setbox1\\hbox{\\pour0}}");
        error(10, pour + times(7, "\\p") + "\\hbox{\\setbox1\\hbox{\\pour0}\\pour1}");
        error(10, pour + times(7, "\\p") + "\\p");
    }

    private static void stepsMade() {
        steps(0, "");
        steps(0, "%abc");
        steps(3, "abc");
        steps(1, "\n\n");
        steps(1, " \n ");
        steps(3, "\\hbox{a}");
        steps(1, "\\global\\count0=5");
        steps(5, "\\setbox0=\\hbox{ab}{");
        steps(2, "\\def\\a{}\\a");
        steps(5, "\\def\\a{b}\\expandafter\\relax\\a");
        steps(3, "\\noexpand\\fi a");
        steps(3, "\\csname a\\endcsname\\count0=\\count1 ");
        steps(3, "\\ifnum1=1 a\\fi");
        steps(2, "\\ifnum1=2 aaa\\fi b");
        steps(3, "\\ifnum1=2 aaa\\else b\\fi");
        steps(7, "\\align{#x\\cr a\\cr b\\cr}");
        steps(5, "\\output{\\shipout\\box9 }\\hbox{}");
        steps(2, "\\edef\\a{\\the\\count0 }");
        steps(1, "\\x");
        steps(2, "a\\end aaa");
        steps(3, "a\\vskip1 b");
    }

    private static void classes() {
        String at = "\\ \n{}#~%&";
        int[] want = {0, 4, 4, 1, 2, 3, 7, 8, 10};
        for (int i = 0; i < at.length(); i++) classOf(want[i], at.charAt(i), "");
        for (int code = 1; code < 128; code++) {
            boolean letter = code >= 'A' && code <= 'Z' || code >= 'a' && code <= 'z';
            if (at.indexOf(code) < 0) classOf(letter ? 5 : 6, code, "");
        }
        classOf(9, 65, "\\class65=9 ");
        classOf(5, 65, "{\\class65=9 }");
        classOf(9, 65, "{\\global\\class65=9 }");
        classOf(9, 65, "{\\class65=9 {");
        classOf(9, 65, "{\\class65=9 \\x");
        classOf(3, 1, "\\class1 3 ");
        refused("class of 0", IndexOutOfBoundsException.class, () -> new Catcodia().classOf(0));
        refused("class of 128", IndexOutOfBoundsException.class, () -> new Catcodia().classOf(128));
        due("class of 127", new Catcodia().classOf(127), 6);
        // tokens are read by the classes of then, and keep theirs
        signs("ab", -1, "\\class`\\!=9 \\setbox0\\hbox{a!b!}");
        signs("a!b", -1, "\\def\\x{a!b}\\class`\\!=9 \\setbox0\\hbox{\\x}");
        signs("xA", -1, "\\class`\\A=7 \\defA{x}\\setbox0\\hbox{A\\class`\\A=5 A}");
        signs("c", -1, "\\class49=5 \\def\\a1{c}\\setbox0\\hbox{\\a1}");
        signs("ab", -1, "\\class`\\(=1 \\class`\\)=2 \\setbox0\\hbox(ab)");
        signs("ab", -1, "\\class`\\*=0 *setbox0*hbox{ab}");
        signs("ab", -1, "\\class`\\;=8 \\setbox0\\hbox{a;xx\nb}");
        kinds("1404", -1, "\\class`\\_=4 \\setbox0\\hbox{_a _\n_}");
    }

    private static void registers() {
        register(-7, 0, 3, "\\count3=-7");
        register(7, 0, 3, "\\count3 = - + - 7");
        register(7, 1, 9, "\\len9 7");
        register(65, 0, 0, "\\count0=`A");
        register(123, 0, 0, "\\count0=`\\{");
        register(125, 0, 0, "\\count0=`}");
        register(37, 0, 0, "\\count0=`\\%");
        register(12, 0, 0, "\\count1=12\\count0=\\count1");
        register(-12, 0, 0, "\\len1=12\\count0=-\\len1");
        register(5, 0, 0, "\\count0=\\class65");
        register(100, 0, 0, "\\count0=\\hsize");
        register(0, 0, 0, "\\count0=5\\count0=\\wd3");
        register(5, 0, 0, "\\count0=5{\\count0=6}");
        register(7, 0, 0, "\\count0=5{\\count0=6\\global\\count0=7}");
        register(8, 0, 0, "\\count0=5{\\global\\count0=8\\count0=7}");
        register(9, 0, 0, "{\\count0=1{\\count0=6\\global\\count0=9\\count0=7}}");
        register(6, 0, 0, "\\count0=5{\\count0=6");
        register(-3, 0, 0, "\\count0=-7\\divide\\count0 by2");
        register(9, 0, 0, "\\count0=4\\advance\\count0 5");
        register(3, 0, 0, "\\count0=4\\advance\\count0by-1");
        register(-12, 1, 0, "\\len0=4\\multiply\\len0 by-3");
        String skip = "\\skip2=3 plus 4ff minus-5fff ";
        int[] want = {3, 4, 2, -5, 3};
        for (int i = 0; i < 5; i++) register(want[i], 2 + i, 2, skip);
        int[] turned = {-3, -4, 2, 5, 3};
        for (int i = 0; i < 5; i++) register(turned[i], 2 + i, 1, skip + "\\skip1=-\\skip2 ");
        register(10, 2, 2, skip + "\\advance\\skip2 by7 plus 9 ");
        register(4, 3, 2, skip + "\\advance\\skip2 by7 plus 9 ");
        register(1, 2, 2, skip + "\\divide\\skip2 by2 ");
        register(4, 3, 2, skip + "\\multiply\\skip2 by2 ");
        register(1, 4, 0, "\\skip0=1 plus 2 f");
        register(3, 4, 0, "\\skip0=1plus2fffa");
        register(2, 5, 0, "\\skip0=1minus2");
        register(0, 5, 0, "\\skip0=1 min");
        register(14, 7, 0, "\\setbox0\\hbox{ab}");
        register(7, 8, 0, "\\setbox0\\hbox{ab}");
        register(2, 9, 0, "\\setbox0\\hbox{i}");
        register(Catcodia.NONE, 9, 1, "\\setbox0\\hbox{i}");
        register(0, 7, 0, "\\setbox0\\hbox{}");
        register(50, 7, 0, "\\setbox0\\hbox to50{ab}");
        register(20, 7, 0, "\\setbox0\\hbox spread6{ab}");
        register(Catcodia.NONE, 7, 0, "\\setbox0\\hbox{a}\\setbox1\\box0");
        register(Catcodia.NONE, 7, 0, "\\setbox0\\hbox{a}{\\setbox1\\box0}");
        register(10, 7, 0, "\\setbox0\\hbox{a}{\\setbox0\\hbox{b}\\setbox1\\box0}");
        register(10, 7, 0, "\\setbox0\\hbox{a}{\\setbox0\\hbox{b}}");
        register(4, 7, 0, "\\setbox0\\hbox{a}{\\global\\setbox0\\hbox{b}}");
        // a vertical box: 7 and 2 of i, glue of 12 - 2 - 7, 7 of a
        register(9 + 3 + 7, 8, 0, "\\setbox0\\vbox{\\hbox{i}\\hbox{a}}");
        register(0, 9, 0, "\\setbox0\\vbox{\\hbox{i}\\hbox{a}}");
        register(2, 9, 0, "\\setbox0\\vbox{\\hbox{a}\\hbox{i}}");
        register(0, 9, 0, "\\setbox0\\vbox{\\hbox{i}\\kern1 }");
        register(10, 8, 0, "\\setbox0\\vbox{\\hbox{i}\\kern1 }");
        register(10, 7, 0, "\\setbox0\\vbox{\\hbox{i}\\hbox{a}\\rule5 1 1}");
        register(90, 8, 0, "\\setbox0\\vbox to90{\\hbox{i}\\hbox{a}}");
        refused("register 10", IllegalArgumentException.class, () -> new Catcodia().register(10, 0));
        refused("register -1", IllegalArgumentException.class, () -> new Catcodia().register(-1, 0));
        refused("register of 10", IndexOutOfBoundsException.class, () -> new Catcodia().register(0, 10));
        refused("register of -1", IndexOutOfBoundsException.class, () -> new Catcodia().register(9, -1));
    }

    private static void parameters() {
        int[] first = {100, 120, 10, 12, 200, 0, 10, 50};
        String[] names = {"hsize", "vsize", "indent", "base", "tol", "loose", "linepen", "hyphpen"};
        for (int i = 0; i < 8; i++) {
            parameter(first[i], i, "");
            parameter(-9, i, "\\" + names[i] + "=-9");
            parameter(first[i], i, "{\\" + names[i] + "=-9}");
            parameter(first[i] + 2, i, "\\advance\\" + names[i] + " by2");
            due("the", of("\\count0=\\" + names[i]).register(0, 0), first[i]);
        }
        refused("parameter 8", IndexOutOfBoundsException.class, () -> new Catcodia().parameter(8));
        refused("parameter -1", IndexOutOfBoundsException.class, () -> new Catcodia().parameter(-1));
    }

    private static void expansion() {
        signs("(a)(b)", -1, "\\def\\x#1{(#1)}\\setbox0\\hbox{\\x a\\x{b}}");
        signs("ba", -1, "\\def\\x#1#2{#2#1}\\setbox0\\hbox{\\x a b}");
        signs("cab.", -1, "\\def\\x#1.#2;{#2#1}\\setbox0\\hbox{\\x{ab}.c;.}");
        signs("a.bc", -1, "\\def\\x#1;{#1}\\setbox0\\hbox{\\x{a.}{bc};}");
        signs("ab", -1, "\\def\\x!#1!#2{#1#2}\\setbox0\\hbox{\\x!a!b}");
        signs("[aab]", -1, "\\def\\x#1ab;{[#1]}\\setbox0\\hbox{\\x aabab;}");
        signs("xya", -1, "\\def\\x#1{\\def\\y##1{#1##1}}\\setbox0\\hbox{\\x x\\y{ya}}");
        signs("ba", -1, "\\def\\a{a}\\edef\\b{b\\a}\\def\\a{c}\\setbox0\\hbox{\\b}");
        signs("bc", -1, "\\def\\a{a}\\edef\\b{b\\noexpand\\a}\\def\\a{c}\\setbox0\\hbox{\\b}");
        signs("a", -1, "\\def\\a{a}\\toks0{\\a}\\edef\\b{\\the\\toks0}\\setbox0\\hbox{\\b}");
        signs("c", -1, "\\def\\a{a}\\toks0{\\a}\\edef\\b{\\the\\toks0}\\def\\a{c}\\setbox0\\hbox{\\b}");
        signs("x1", -1, "\\toks0{x#1}\\edef\\b#1{\\the\\toks0}\\setbox0\\hbox{\\b1}");
        signs("-12", -1, "\\count1=-12\\setbox0\\hbox{\\the\\count1}");
        signs("3plus-4ffminus5", -1, "\\skip1=3plus-4ffminus5\\setbox0\\hbox{\\the\\skip1}");
        kinds("104000040", -1, "\\skip1=3plus4\\setbox0\\hbox{\\the\\skip1}");
        kinds("104040", -1, "\\toks1{a b c}\\setbox0\\hbox{\\the\\toks1}");
        signs("5", -1, "\\setbox0\\hbox{\\the\\class65 }");
        signs("a", -1, "\\let\\x=a\\setbox0\\hbox{\\x}");
        signs("=", -1, "\\let\\x = =\\setbox0\\hbox{\\x}");
        signs("ac", -1, "\\def\\a{a}\\let\\b=\\a\\def\\a{c}\\setbox0\\hbox{\\b\\a}");
        signs("ab", -1, "\\let\\bg={\\let\\eg=}\\setbox0\\hbox\\bg ab\\eg");
        signs("q", -1, "\\def\\ab{q}\\def\\x{b}\\setbox0\\hbox{\\csname a\\x\\endcsname}");
        signs("", -1, "\\setbox0\\hbox{\\csname ab\\endcsname}");
        error(1, "{\\csname ab\\endcsname}\\ab");
        error(0, "\\csname ab\\endcsname\\ab");
        signs("b", -1, "\\def\\x{a}\\def\\a{\\x}\\def\\y#1{b}\\setbox0\\hbox{\\expandafter\\y\\a}");
        signs("xa", -1, "\\def\\q#1{x}\\def\\a{\\b a}\\def\\b{b}\\setbox0\\hbox{\\expandafter\\q\\a}");
        count(1, "\\ifx ab\\else\\count0=1\\fi");
        count(1, "\\ifx aa\\count0=1\\fi");
        count(1, "\\let\\x=a\\ifx\\x a\\count0=1\\fi");
        count(1, "\\ifx\\x\\y\\count0=1\\fi");
        count(1, "\\ifx\\x~\\count0=1\\fi");
        count(1, "\\def\\x#1.{a#1}\\def\\y#1.{a#1}\\ifx\\x\\y\\count0=1\\fi");
        count(2, "\\def\\x#1.{a#1}\\def\\y#1,{a#1}\\ifx\\x\\y\\count0=1\\else\\count0=2\\fi");
        count(2, "\\def\\x#1{a}\\def\\y{a}\\ifx\\x\\y\\count0=1\\else\\count0=2\\fi");
        count(1, "\\let\\x=\\relax\\ifx\\x\\relax\\count0=1\\fi");
        count(1, "\\ifvoid3 \\count0=1\\fi");
        count(2, "\\setbox3\\hbox{}\\ifvoid3 \\count0=1\\else\\count0=2\\fi");
        count(3, "\\ifnum1>2 \\ifnum1=1 \\else\\fi\\else\\count0=3\\fi");
        count(3, "\\let\\f=\\fi\\ifnum2<1 \\x\\ifx ab\\else\\f\\else\\count0=3\\f");
        count(3, "\\ifnum-1<0\\count0=3 \\fi");
        count(12, "\\ifnum1=1 \\count0=1\\fi2 ");
        count(5, "\\def\\a#1{\\ifnum#1<5 \\expandafter\\b\\else\\count0=#1 \\fi}\\count1=0 "
            + "\\def\\b{\\advance\\count1 by1 \\a{\\count1}}\\b");
        // a blank line is \par
        due("paragraphs", of("a\n\nb").paragraphs(), 2);
        due("paragraphs", of("a\nb").paragraphs(), 1);
        due("paragraphs", of("a\n%\n\nb").paragraphs(), 1);
        due("paragraphs", of("a\\relax\n\nb").paragraphs(), 1);
        signs("ab", -1, "\\def\\x #1{#1}\\setbox0\\hbox{\\x ab}");
    }

    private static void pages() {
        due("pages", of("").pages(), 0);
        due("pages", of("\\vskip5 \\mark{a}").pages(), 0);
        due("pages", of("\\hbox{a}").pages(), 1);
        due("pages", of("\\shipout\\hbox{a}\\shipout\\box0").pages(), 1);
        due("pages", of("\\hbox{\\shipout\\hbox{a}\\x}").pages(), 1);
        due("pages", of("\\hbox{a}\\penalty-10000 \\hbox{b}\\x").pages(), 1);
        due("pages", of("\\hbox{a}\\penalty-10000 \\penalty-10000 \\hbox{b}").pages(), 2);
        due("pages", of("\\insert{\\hbox{a}}").pages(), 0);
        // 2 times 70 is above 120: all is left for a page that is made of it alone, and again; the 41st is too many
        due("pages", of("\\insert{\\rule1 70 0}").pages(), 40);
        error(10, "\\insert{\\rule1 70 0}");
        due("pages", of("\\output{\\box9}\\hbox{a}").error(), 10);
        kinds("2210", 0, "\\hbox{a}");
        kinds("22104", 0, "\\vskip5 \\kern5 \\penalty5 \\hbox{a}\\vskip5 ");
        kinds("228108410", 0, "\\vskip5 \\mark{}\\vskip5 \\hbox{a}\\mark{}\\hbox{b}");
        item("\\hbox{i}", 0, 0, 2, 4, 120, 2, 0, 0, 0);
        item("\\hbox{i}", 0, 1, 2, 4, 120, 2, 10000, 1, 0);
        item("\\hbox{i}", 0, 3, 0, 4, 7, 2, 105, 3, 0);
        // a break at the least cost; the glue at it is gone, the one behind it is ahead of the next page
        String costs = "\\vsize20 \\def\\a{\\hbox{a}\\vskip3 }\\a\\a\\a\\hbox{a}";
        due("pages", of(costs).pages(), 3);
        kinds("2210", 0, costs);
        kinds("2210", 1, costs);
        kinds("22104410", 2, costs);
        // of equal costs the last one: 7, 7 + 12 and 7 + 24 are all below 40, 43 is above
        String equal = "\\vsize40 \\def\\a{\\hbox{a}\\penalty0 }\\a\\a\\a\\a\\a";
        kinds("221064106410", 0, equal);
        kinds("221064106", 1, equal);
        // a penalty that makes the second one dearer than the first one
        String dear = "\\vsize40 \\def\\a{\\hbox{a}\\penalty0 }\\a\\hbox{a}\\penalty9 \\hbox{a}\\penalty8 \\a\\a";
        kinds("2210", 0, dear);
        String split = "\\vsize60 \\insert{\\rule9 20 0\\vskip5 \\rule9 20 0}\\hbox{c}\\penalty-10000 \\hbox{d}";
        kinds("221023", 0, split);
        kinds("2210243", 1, split);
        item(split, 0, 1, 2, 5, 40, 0, 10000);
        kinds("221010", 0, "\\output{\\shipout\\vbox{\\vbox{\\pour9\\pour8}}}\\insert{\\hbox{b}}\\hbox{a}");
        String marks = "\\output{\\shipout\\hbox{\\firstmark/\\botmark}\\setbox1\\box9}\\def\\p{\\hbox{}\\penalty-10000 }";
        signs("/", 0, marks + "\\p");
        signs("a/c", 0, marks + "\\mark{a}\\mark{b}\\hbox{}\\mark{c}\\p\\p\\mark{d}\\p");
        signs("c/c", 1, marks + "\\mark{a}\\mark{b}\\hbox{}\\mark{c}\\p\\p\\mark{d}\\p");
        signs("d/d", 2, marks + "\\mark{a}\\mark{b}\\hbox{}\\mark{c}\\p\\p\\mark{d}\\p");
        // what \\output makes is ahead of what stayed
        kinds("110", 1, "\\output{\\ifnum\\count0=0 \\hbox{b}\\fi\\global\\advance\\count0 by1 "
            + "\\shipout\\hbox{\\hbox{a}}\\setbox1\\box9}\\hbox{a}");
        error(8, "\\let\\g=}\\output{\\g}\\hbox{}");
        error(9, "\\let\\g={\\output{\\g}\\hbox{}");
        error(9, "\\output{\\let\\x=}\\hbox{}");
        error(8, "\\def\\x#1{}\\output{\\x}\\hbox{}");
        error(3, "\\def\\x.{}\\output{\\x}\\hbox{}");
        error(13, "\\output{\\noexpand}\\hbox{}");
        error(13, "\\output{\\count0=1}\\hbox{}");
        refused("items of page 1", IndexOutOfBoundsException.class, () -> of("\\hbox{a}").items(1));
        refused("items of box 10", IndexOutOfBoundsException.class, () -> of("\\hbox{a}").items(-11));
        refused("item of page 1", IndexOutOfBoundsException.class, () -> of("\\hbox{a}").item(1, 0, 7));
        refused("item 4", IndexOutOfBoundsException.class, () -> of("\\hbox{a}").item(0, 4, 0));
        refused("item -1", IndexOutOfBoundsException.class, () -> of("\\hbox{a}").item(0, -1, 0));
        refused("item of an empty box", IndexOutOfBoundsException.class, () -> of("\\hbox{a}").item(-1, 0, 0));
        refused("item number 7", IllegalArgumentException.class, () -> of("\\hbox{a}").item(0, 0, 7));
        refused("item number -1", IllegalArgumentException.class, () -> of("\\hbox{a}").item(0, 0, -1));
    }

    private static void boxes() {
        String glue = "\\setbox0\\hbox to20{a\\hskip0 plus1 \\hskip0plus2 b}";
        item(glue, -1, 0, 1, 20, 7, 0, 800, 0, 0);
        item(glue, -1, 2, 4, 0, 0, 0, 2, 1, 0);
        item(glue, -1, 3, 4, 0, 0, 0, 4, 1, 0);
        String shrunk = "\\setbox0\\hbox to10{a\\hskip5minus3b}";
        item(shrunk, -1, 0, 1, 10, 7, 0, 1000000, 0, 0);
        item(shrunk, -1, 2, 4, 0, 0, 0, 2, 1, 0);
        item("\\setbox0\\hbox to10{a\\hskip5minus1fb}", -1, 2, 4, 0, 0, 0, -4, 1, 0);
        item("\\setbox0\\hbox to10{a\\hskip5minus1fb}", -1, 0, 1, 10, 7, 0, 0, 0, 0);
        item("\\setbox0\\hbox to30{a\\hskip3plus-1b}", -1, 0, 1, 30, 7, 0, 10000, 0, 0);
        item("\\setbox0\\hbox to30{a\\hskip3plus-1b}", -1, 2, 4, 0, 0, 0, 3, 1, 0);
        // the sum of order 2 is 0, so that of order 0 is used
        item("\\setbox0\\hbox to20{a\\hskip0plus1ff\\hskip0plus-1ff\\hskip0plus1b}", -1, 4, 4, 0, 0, 0, 6, 1, 0);
        item("\\setbox0\\hbox to20{a\\hskip0plus1ff\\hskip0plus-1ff\\hskip0plus1b}", -1, 2, 4, 0, 0, 0, 0, 1, 0);
        // rounded down: 7 times 1, 2 and 3 divided by 3, less what is ahead
        String thirds = "\\setbox0\\hbox to7{\\hskip0plus1 \\hskip0plus1 \\hskip0plus1 }";
        item(thirds, -1, 1, 4, 0, 0, 0, 2);
        item(thirds, -1, 2, 4, 0, 0, 0, 2);
        item(thirds, -1, 3, 4, 0, 0, 0, 3);
        item(thirds, -1, 0, 1, 7, 0, 0, 1269);
        String leaders = "\\setbox0\\hbox to100{a\\leaders\\hbox{.}\\hskip0 plus1f}";
        item(leaders, -1, 2, 4, 0, 0, 0, 90, 1, 11);
        items(3, -1, leaders);
        item("\\setbox0\\vbox{\\leaders\\hbox{i}\\vskip30}", -1, 1, 4, 0, 0, 0, 30, 1, 3);
        item("\\setbox0\\vbox{\\leaders\\hbox{}\\vskip30}", -1, 1, 4, 0, 0, 0, 30, 1, 0);
        item("\\setbox0\\vbox{\\leaders\\hbox{i}\\vskip-30}", -1, 1, 4, 0, 0, 0, -30, 1, 0);
        item("\\setbox0\\hbox{\\raise3\\hbox{i}}", -1, 1, 1, 4, 10, -1, 0, 1, 0);
        item("\\setbox0\\hbox{\\raise3\\hbox{i}}", -1, 0, 1, 4, 10, 0, 0, 0, 0);
        item("\\setbox0\\hbox{\\rule1 2 3 }", -1, 1, 3, 1, 2, 3, 0, 1, 0);
        item("\\setbox0\\hbox{\\kern-4 }", -1, 1, 5, 0, 0, 0, -4, 1, 0);
        item("\\setbox0\\hbox{\\penalty-40000 }", -1, 1, 6, 0, 0, 0, -10000, 1, 0);
        item("\\setbox0\\hbox{\\-}", -1, 1, 7, 0, 0, 0, 0, 1, 0);
        item("\\setbox0\\hbox{\\mark{a}}", -1, 1, 8, 0, 0, 0, 0, 1, 0);
        kinds("21100064899", -1, "\\setbox0\\vbox{aaa\\mark{}\\insert{}\\insert{\\hbox{a}}}");
        signs("aab", -1, "\\setbox1\\hbox{aa}\\setbox0\\hbox{\\pour1 b}");
        items(0, -2, "\\setbox1\\hbox{aa}\\setbox0\\hbox{\\pour1 b}");
        item("\\setbox1\\hbox to50{\\hskip1plus1}\\setbox0\\hbox{\\pour1}", -1, 1, 4, 0, 0, 0, 1, 1);
        // no glue comes ahead of what is poured, but behind it
        kinds("21010410", -1, "\\setbox1\\vbox{\\hbox{a}}\\setbox0\\vbox{\\hbox{a}\\pour1\\hbox{a}}");
        kinds("2310", -1, "\\setbox0\\vbox{\\rule1 1 1\\hbox{a}}");
        kinds("2105410", -1, "\\setbox0\\vbox{\\hbox{a}\\kern1 \\hbox{a}}");
        item("\\setbox0\\vbox{\\hbox{i}\\hbox{i}}", -1, 3, 4, 0, 0, 0, 3, 1);
        item("\\base2 \\setbox0\\vbox{\\hbox{i}\\hbox{i}}", -1, 3, 4, 0, 0, 0, 0, 1);
        String align = "\\setbox0\\vbox{\\align{#x&\\hskip0plus1f#\\cr a&b\\cr aa\\cr {a&\\cr}}}";
        error(7, align);
        align = "\\setbox0\\vbox{\\align{#x&\\hskip0plus1f#\\cr a&b\\cr aa\\cr &ccc }}";
        kinds("2" + "1" + "100" + "140" + "4" + "1" + "1000" + "4" + "1" + "10" + "140004", -1, align);
        // x is 5 wide: 120 % 7 is 1; the columns are 25 and 15 + 6 wide
        item(align, -1, 2, 1, 25, 7, 2, 10000, 2);
        item(align, -1, 5, 1, 21, 7, 0, 0, 2);
        item(align, -1, 6, 4, 0, 0, 0, 17, 3);
        error(6, "\\align{a\\cr}");
        error(6, "\\align{##\\cr}");
        // without the NAME cr outside of { and } there is no TEMPLATE
        error(6, "\\align{#}");
        error(6, "\\align{#x&#}");
        error(6, "\\align{#{\\cr}}");
        error(6, "\\let\\r\\cr\\align{#\\r}");
        error(6, "\\align{}");
        error(0, "\\let\\cr\\relax\\align{#\\cr}");
        error(0, "\\align{#\\cr }");
        error(6, "\\align{#&#&#&#&#&#&#\\cr}");
        error(0, "\\align{#&#&#&#&#&#\\cr}");
        error(6, "\\align{#\\cr a\\cr a&b\\cr}");
        due("steps", of("\\align{#\\cr a\\cr a&b\\cr}").steps(), 3);
        signs("aab", -1, "\\setbox0\\vbox{\\align{a#\\cr\\hbox{a}b\\cr}}");
        error(8, "\\let\\g=}\\align{#\\cr\\g\\cr}");
        error(9, "\\let\\g={\\align{#\\cr\\g\\cr}");
    }

    private static void paragraphs() {
        due("paragraphs", of("a\\par\\par b").paragraphs(), 2);
        due("paragraphs", of("\\hskip5 \\par").paragraphs(), 0);
        due("paragraphs", of("\\hskip5 \\kern1 \\par").paragraphs(), 1);
        due("paragraphs", of("\\hbox{a}").paragraphs(), 0);
        due("paragraphs", of("\\vbox{a}").paragraphs(), 1);
        due("paragraphs", of("\\vbox{a").paragraphs(), 0);
        due("paragraphs", of("a\\par\\x").paragraphs(), 1);
        due("paragraphs", of("{a").paragraphs(), 1);
        due("paragraphs", of("a\\vskip1 b\\align{#\\cr}").paragraphs(), 2);
        paragraph("aaa", 0, 1, 100, 100);
        kinds("221100064", 0, "aaa");
        kinds("221100064", 0, "aaa ");
        item("aaa", 0, 8, 4, 0, 0, 0, 60, 3);
        String two = "\\hsize40 aaa bbb";
        paragraph(two, 0, 2, 200, 200);
        kinds("22" + "11000" + "6" + "4" + "1000" + "64", 0, two);
        kinds("2" + "11000" + "86" + "4" + "1000" + "64" + "9", -1, "\\setbox0\\vbox{\\hsize40 a\\mark{}aa bbb\\insert{}}");
        // marks behind the break belong to the next line
        paragraph("\\hsize40 aaa\\penalty-10000 \\mark{}\\hskip1 bbb", 0, 2, 200, 200);
        paragraph("\\hsize40 \\linepen-5 aaa bbb", 0, 2, 50, 50);
        // a penalty of 7 adds its square, one of -7 takes it off
        paragraph("\\hsize40 aaa\\penalty7 bbb", 0, 2, 249, 249);
        paragraph("\\hsize40 aaa\\penalty-7 bbb", 0, 2, 151, 151);
        paragraph("\\hsize40 aaa\\penalty-10000 bbb", 0, 2, 200, 200);
        // a line with the badness 10000 and fitness 3 behind nothing, and one of fitness 1: 3000 more
        paragraph("a\\penalty-10000 b", 0, 2, 10010L * 10010 + 100 + 3000, 10010L * 10010 + 100 + 3000);
        String word = "\\patterns{b1c}\\hsize31 abcde";
        paragraph(word, 0, 2, 2700, 2700);
        kinds("22" + "11000" + "6" + "4" + "1000" + "64", 0, word);
        signs("ab-cde", 0, word);
        paragraph(word.replace("31 abcde", "30 ABCDE"), 0, 2, 2700, 2700);
        paragraph("\\hsize31 ab\\-cde", 0, 2, 2700, 2700);
        paragraph("\\hsize31 abcde", 0, 1, 10010L * 10010, 10010L * 10010);
        paragraph("\\patterns{b1c b2c}\\hsize31 abcde", 0, 1, 10010L * 10010, 10010L * 10010);
        paragraph("\\patterns{b1c b2c .ab3cde.}\\hsize31 abcde", 0, 2, 2700, 2700);
        paragraph("\\patterns{b13c b2c}\\hsize31 abcde", 0, 2, 2700, 2700);
        paragraph("\\patterns{1a a1b c1d d1e}\\hsize31 abcde", 0, 1, 10010L * 10010, 10010L * 10010);
        paragraph("\\patterns{b1c}\\hsize31 abcd", 0, 1, 10010L * 10010, 10010L * 10010);
        paragraph("{\\patterns{b1c}}\\hsize31 abcde", 0, 2, 2700, 2700);
        // the third line is made when the first two have been looked at
        String late = "\\vsize7 \\hsize40 \\base0 aaa\\penalty-10000 bbb\\penalty-10000 c\\kern1000000 \\kern1 c";
        error(5, late);
        due("pages", of(late).pages(), 1);
        due("paragraphs", of(late).paragraphs(), 1);
        // hyphens are not tried as long as there is a row of lines without them
        kinds("22110000064", 0, "\\patterns{b1c}abcde");
        // \\loose: 1, 2 and 3 lines can be
        String loose = "\\tol10000 a a a";
        paragraph(loose, 0, 1, 100, 100);
        due("lines", of("\\loose1 " + loose).lines(0), 2);
        due("lines", of("\\loose2 " + loose).lines(0), 3);
        due("lines", of("\\loose9 " + loose).lines(0), 3);
        due("lines", of("\\loose-9 " + loose).lines(0), 1);
        due("demerits", of("\\loose2 " + loose).demeritsByTrying(0), of("\\loose2 " + loose).demerits(0));
        String twelve = "a" + times(12, " a");
        due("by trying", of("\\hsize1000 " + twelve).demeritsByTrying(0), 100);
        due("by trying", of("\\hsize1000 " + twelve + " a").demeritsByTrying(0), Catcodia.NONE);
        due("demerits", of("\\hsize1000 " + twelve + " a").demerits(0), 100);
        refused("lines 1", IndexOutOfBoundsException.class, () -> of("a").lines(1));
        refused("lines -1", IndexOutOfBoundsException.class, () -> of("a").lines(-1));
        refused("demerits 1", IndexOutOfBoundsException.class, () -> of("a").demerits(1));
        refused("demerits -1", IndexOutOfBoundsException.class, () -> of("a").demerits(-1));
        refused("by trying 1", IndexOutOfBoundsException.class, () -> of("a").demeritsByTrying(1));
        refused("by trying -1", IndexOutOfBoundsException.class, () -> of("a").demeritsByTrying(-1));
    }

    public static void main(String[] args) {
        pages();
        boxes();
        paragraphs();
        aNewObject();
        feed();
        cut();
        errors();
        limits();
        stepsMade();
        classes();
        registers();
        parameters();
        expansion();
        end();
    }
}
