/** Pages: where they are broken, insertions, marks, and programs for pages. */
public final class PageTest extends Asking {
    private static final String END_PAGE = "\\penalty-10000 ";

    /** The heights of the rules of all pages, a | behind each page. */
    private static void rules(String want, String text) {
        Catcodia x = of(text);
        String got = "";
        for (int page = 0; page < x.pages(); page++) {
            for (int i = 0; i < x.items(page); i++) {
                if (x.item(page, i, 0) == Catcodia.RULE) got += x.item(page, i, 2) + " ";
            }
            got += "|";
        }
        if (x.error() != 0) got += "error " + x.error();
        due("rules of " + text + " are " + got + " and not " + want, got.equals(want) ? 1 : 0, 1);
    }

    private static String rule(int height) {
        return "\\rule0 " + height + " 0 ";
    }

    private static void thrownAway() {
        // glue, kerns and penalties ahead of the first box or rule
        kinds("22" + "1", 0, "\\vskip9 \\kern9 \\penalty9 \\penalty-10000 \\hbox{}");
        kinds("22" + "3", 0, "\\vskip9 \\kern9 \\penalty9 \\rule1 1 1 ");
        kinds("22" + "8" + "1", 0, "\\vskip9 \\mark{}\\kern9 \\penalty-10000 \\hbox{}");
        kinds("22" + "1" + "456", 0, "\\hbox{}\\vskip9 \\kern9 \\penalty9 ");
        due("pages", of("\\vskip9 \\kern9 \\penalty-10000 \\mark{}").pages(), 0);
        // those of each page
        kinds("22" + "1", 1, "\\hbox{}" + END_PAGE + END_PAGE + "\\vskip9 \\kern9 \\hbox{}");
        due("pages", of("\\hbox{}" + END_PAGE + END_PAGE + "\\vskip9 \\kern9 ").pages(), 1);
        due("pages", of("\\hbox{}" + END_PAGE + "\\mark{}").pages(), 1);
        // as long as there is a box or rule in the list
        due("pages", of("").pages(), 0);
        due("pages", of("\\hbox{}").pages(), 1);
        due("pages", of("\\rule0 0 0 ").pages(), 1);
        due("pages", of("\\mark{a}\\vskip5 ").pages(), 0);
    }

    private static void breaks() {
        String pen = "\\vsize60 \\def\\p{\\penalty0 }";
        // 20 and 40 cost 10000 each, 60 nothing, 80 is too much
        rules("20 20 20 |20 |", pen + rule(20) + "\\p" + rule(20) + "\\p" + rule(20) + "\\p" + rule(20) + "\\p");
        // at the end it is broken as by a penalty -10000 there
        rules("20 20 20 20 |", pen + rule(20) + "\\p" + rule(20) + "\\p" + rule(20) + "\\p" + rule(20));
        // what stands behind the last place is not looked at as long as none comes
        rules("20 20 20 20 |", pen + rule(20) + rule(20) + rule(20) + rule(20));
        // of equal costs the last one
        rules("20 20 |30 |", pen + rule(20) + "\\p" + rule(20) + "\\p" + rule(30) + "\\p");
        rules("20 |20 30 |", pen + rule(20) + "\\p" + rule(20) + "\\penalty1 " + rule(30) + "\\p");
        rules("20 20 |30 |", pen + rule(20) + "\\penalty1 " + rule(20) + "\\p" + rule(30) + "\\p");
        rules("20 20 |30 |", pen + rule(20) + "\\p" + rule(20) + "\\penalty-1 " + rule(30) + "\\p");
        // there, if there is none ahead
        rules("70 |10 |", pen + rule(70) + "\\p" + rule(10) + "\\p");
        rules("20 50 |10 |", pen + rule(20) + rule(50) + "\\p" + rule(10));
        rules("20 50 |10 |", pen + rule(20) + "\\penalty10000 " + rule(50) + "\\p" + rule(10));
        rules("20 |50 10 |", pen + rule(20) + "\\penalty9999 " + rule(50) + "\\p" + rule(10));
        item(pen + rule(70) + "\\p" + rule(10), 0, 1, 2, 0, 60, 0, 1000000, 1, 0);
        item(pen + rule(60) + "\\p", 0, 1, 2, 0, 60, 0, 0, 1, 0);
        // with the penalty -10000 there, whatever was ahead
        rules("20 20 20 20 |10 |", pen + rule(20) + "\\p" + rule(20) + "\\p" + rule(20) + "\\p" + rule(20) + END_PAGE + rule(10));
        rules("20 |10 |", pen + rule(20) + "\\penalty-20000 " + rule(10));
        rules("20 10 |", pen + rule(20) + "\\penalty-9999 " + rule(10));
        rules("20 |10 |60 |", pen + rule(20) + "\\penalty-9999 " + rule(10) + "\\p" + rule(60) + "\\p");
        // the depth does not count: 60 high and 5 deep
        rules("30 30 |1 |", pen + rule(30) + "\\p\\rule0 30 5 \\p" + rule(1) + "\\p");
        rules("30 |30 1 |", pen + rule(30) + "\\p\\rule0 30 5 \\kern0 \\p" + rule(1) + "\\p");
        rules("30 |31 |", pen + rule(30) + "\\p" + rule(31) + "\\p");
        // what can be stretched and shrunk
        rules("20 30 |11 |", pen + "\\vskip9 " + rule(20) + "\\vskip0plus10 " + rule(30) + "\\p" + rule(11) + "\\p");
        rules("20 30 9 |", pen + "\\vskip9 " + rule(20) + "\\vskip0plus10 " + rule(30) + "\\p" + rule(9) + "\\p");
        rules("30 30 |9 |", pen + rule(30) + "\\vskip5minus5 " + rule(30) + "\\p" + rule(9) + "\\p");
        rules("30 |30 9 |", pen + rule(30) + "\\vskip5minus4 " + rule(30) + "\\p" + rule(9) + "\\p");
        // by the \vsize of then
        rules("20 |20 |20 |", "\\vsize20 " + rule(20) + "\\penalty0 " + rule(20) + "\\penalty0 " + rule(20) + "\\penalty0 ");
        rules("20 20 20 |", "\\vsize20 " + rule(20) + "\\vsize60 \\penalty0 " + rule(20) + "\\penalty0 " + rule(20) + "\\penalty0 ");
    }

    private static void glueAsPlace() {
        String a = "\\vsize60 " + rule(50);
        String b = "\\vskip0 " + rule(50) + "\\penalty0 " + rule(1);
        rules("50 |50 1 |", a + b);
        rules("50 |50 1 |", "\\vsize60 \\vbox{" + rule(50) + "}" + b);
        rules("50 |50 1 |", a + "\\mark{}" + b);
        rules("50 |50 1 |", a + "\\insert{}" + b);
        rules("50 |50 1 |", a + "\\leaders\\hbox{}" + b);
        rules("50 50 |1 |", a + "\\kern0 " + b);
        rules("50 50 |1 |", a + "\\penalty10000 " + b);
        rules("50 |50 1 |", a + "\\vskip0 " + b);
        rules("50 |50 1 |", a + "\\kern0 \\mark{}" + b);
        rules("50 50 |1 |", a + "\\mark{}\\kern0 " + b);
        // the one at the break is thrown away, those behind it are ahead of the first box
        kinds("22" + "3", 0, a + "\\vskip0 \\vskip0 " + b);
        kinds("22" + "363", 1, a + "\\vskip0 \\vskip0 " + b);
        kinds("22" + "38", 0, a + "\\mark{}" + b);
        // what stands behind the break stays: a mark, too
        kinds("22" + "8363", 1, a + "\\penalty0 \\mark{}\\kern0 " + b);
        // glue between boxes is a place
        String boxes = "\\vsize20 \\base0 \\hbox{a}\\hbox{a}\\hbox{a}\\hbox{a}\\hbox{a}\\hbox{a}";
        due("pages", of(boxes).pages(), 3);
        kinds("22" + "10" + "4" + "10", 0, boxes);
        kinds("22" + "10" + "4" + "10", 1, boxes);
        kinds("22" + "10" + "4" + "10", 2, boxes);
        // the glue that breaks the page is looked at anew
        String anew = "\\vsize20 \\base10 \\hbox{a}\\hbox{a}\\hbox{a}\\hbox{a}\\hbox{a}\\hbox{a}";
        kinds("22" + "10" + "4" + "10", 0, anew);
        due("pages", of(anew).pages(), 3);
        item(anew, 0, 4, 4, 0, 0, 0, 3, 2, 0);
        // the first box of a page has no glue ahead of it
        kinds("22" + "1", 1, "\\hbox{}" + END_PAGE + "\\hbox{}");
        kinds("22" + "1" + "4" + "1", 1, "\\hbox{}" + END_PAGE + "\\hbox{}\\hbox{}");
    }

    private static void insertions() {
        String v = "\\vsize60 ";
        // what is left comes to the next page, for which the \vsize is enough
        String end = rule(1) + "\\vsize1000 " + END_PAGE;
        rules("1 30 |", v + "\\insert{" + rule(30) + "}" + end);
        rules("1 |31 |", v + "\\insert{" + rule(31) + "}" + end);
        rules("1 31 |", "\\vsize62 \\insert{" + rule(31) + "}" + end);
        rules("1 |31 |", "\\vsize61 \\insert{" + rule(31) + "}" + end);
        rules("1 10 |", v + "\\insert{\\rule0 10 20 }" + end);
        rules("1 |10 |", v + "\\insert{\\rule0 10 21 }" + end);
        rules("1 10 ||", v + "\\insert{\\rule0 10 20 \\vskip1 }" + end);
        rules("1 10 |", v + "\\insert{\\rule0 10 20 \\vskip0 }" + end);
        // it is come upon at once: here the \vsize is as it was
        rules("1 ||31 |", v + "\\insert{" + rule(31) + "}" + rule(1) + END_PAGE + "\\vsize1000 ");
        // as many items from the end as need be, with those ahead of them that are no boxes or rules
        rules("1 20 |20 |", v + "\\insert{" + rule(20) + "\\kern5 " + rule(20) + "}" + end);
        rules("1 10 10 10 |10 |", v + "\\insert{" + rule(10) + rule(10) + rule(10) + rule(10) + "}" + end);
        rules("1 |50 40 |", v + "\\insert{" + rule(50) + "\\kern-20 " + rule(40) + "}" + end);
        rules("1 50 -20 |40 |", v + "\\insert{" + rule(50) + rule(-20) + rule(40) + "}" + end);
        rules("1 |20 40 |", v + "\\insert{\\kern20 " + rule(20) + rule(40) + "}" + end);
        // box 8 of the first page, and of the next one
        String parts = v + "\\insert{" + rule(20) + "\\kern5 \\penalty0 \\mark{}" + rule(20) + "}" + end;
        kinds("22" + "3" + "23", 0, parts);
        kinds("22" + "25683", 1, parts);
        item(parts, 0, 0, 2, 0, 1000, 0, 0, 0, 0);
        item(parts, 0, 1, 2, 0, 980, 0, 10000, 1, 0);
        item(parts, 0, 3, 2, 0, 20, 0, 0, 1, 0);
        item(parts, 1, 1, 2, 0, 975, 0, 10000, 1, 0);
        item(parts, 1, 2, 2, 0, 25, 0, 0, 1, 0);
        // those taken for this page count, too
        rules("1 20 10 |", v + "\\insert{" + rule(20) + "}\\insert{" + rule(10) + "}" + end);
        rules("1 20 |11 |", v + "\\insert{" + rule(20) + "}\\insert{" + rule(11) + "}" + end);
        rules("1 20 5 5 |5 |", v + "\\insert{" + rule(20) + "}\\insert{" + rule(5) + rule(5) + rule(5) + "}" + end);
        // one that is left does not keep a smaller one behind it from being taken
        rules("1 5 |31 |", v + "\\insert{" + rule(31) + "}\\insert{" + rule(5) + "}" + end);
        rules("1 |31 32 |", v + "\\insert{" + rule(31) + "}\\insert{" + rule(32) + "}" + end);
        // all their items count, and sizes below 0
        rules("1 40 -10 |", v + "\\insert{" + rule(40) + rule(-10) + "}" + end);
        rules("1 5 |", v + "\\insert{\\kern25 " + rule(5) + "\\mark{}\\penalty0 }" + end);
        // without items nothing is taken: box 8 is empty
        kinds("22" + "3", 0, v + "\\insert{}" + end);
        // one that was left and is too high for each page: 40 pages
        due("pages", of(v + "\\insert{" + rule(31) + "}").pages(), 40);
        error(10, v + "\\insert{" + rule(31) + "}");
        // at the end: left by this page, or by the one ahead of it
        rules("", v + "\\insert{" + rule(20) + "}");
        rules("20 |20 |", v + "\\insert{" + rule(20) + rule(20) + "}");
        rules("20 |20 |20 |", v + "\\insert{" + rule(20) + rule(20) + rule(20) + "}");
        rules("1 20 |20 |", v + rule(1) + "\\insert{" + rule(20) + rule(20) + "}");
        // one that stands in a box stays whole, wherever it was split
        String twice = v + "\\setbox0\\vbox{a\\insert{" + rule(20) + rule(5) + rule(6) + "}}\\setbox1\\copy0 \\pour1 ";
        rules("20 5 |6 20 |5 6 |", twice + END_PAGE + "\\setbox1\\copy0 \\pour1 " + END_PAGE);
        rules("20 |30 |25 |", v + "\\insert{" + rule(20) + rule(30) + rule(25) + "}");
        // in a paragraph they come behind the line
        rules("5 |", v + "a\\insert{" + rule(5) + "}");
        kinds("22" + "11064" + "23", 0, v + "a\\insert{" + rule(5) + "}");
        // what was taken makes the page lower: 60 less 20
        rules("20 20 20 |20 |", v + "\\insert{" + rule(20) + "}" + rule(20) + "\\penalty0 " + rule(20) + "\\penalty0 " + rule(20)
            + "\\penalty0 ");
        // also when it comes behind the place with the least cost
        rules("20 20 20 |20 |", v + rule(20) + "\\penalty0 " + rule(20) + "\\penalty0 \\insert{" + rule(20) + "}" + rule(20)
            + "\\penalty0 ");
        rules("40 20 |20 |", "\\vsize40 " + rule(40) + "\\penalty0 \\insert{" + rule(20) + "}" + rule(20) + "\\penalty0 ");
    }

    private static void programs() {
        due("pages", of("\\output{}\\hbox{}").pages(), 1);
        kinds("21", 0, "\\output{\\shipout\\box9 }\\hbox{}");
        kinds("2234210", 0, "\\output{\\shipout\\vbox{\\box8 \\box9 }}\\insert{" + rule(5) + "}\\hbox{a}");
        due("pages", of("\\output{\\setbox1\\box9 }\\hbox{}").pages(), 0);
        items(2, -2, "\\output{\\global\\setbox1\\box9 }\\hbox{}");
        items(0, -2, "\\output{\\setbox1\\box9 }\\hbox{}");
        // box 8 is empty, if nothing was taken
        count(1, "\\output{\\ifvoid8 \\global\\count0=1 \\fi\\shipout\\box9 }\\hbox{}");
        count(1, "\\output{\\ifvoid8 \\global\\count0=1 \\fi\\shipout\\box9 }\\setbox8\\hbox{}\\hbox{}");
        count(0, "\\output{\\ifvoid8 \\global\\count0=1 \\fi\\shipout\\box9 \\setbox1\\box8 }\\insert{\\hbox{}}\\hbox{}");
        // both for all groups
        register(Catcodia.NONE, 7, 9, "{\\setbox9\\hbox{a}\\hbox{}" + END_PAGE + "}");
        register(0, 7, 8, "\\output{\\shipout\\box9 }{\\setbox8\\hbox{a}\\insert{\\hbox{}}\\hbox{}" + END_PAGE + "}");
        items(0, -10, "\\setbox9\\hbox{x}{\\hbox{}" + END_PAGE + "}");
        items(0, -10, "\\output{\\shipout\\box9 }\\setbox9\\hbox{x}{\\hbox{}" + END_PAGE + "}");
        // Error 13, if box 9 is not empty behind it
        error(13, "\\output{\\relax}\\hbox{}");
        error(13, "\\output{ }\\hbox{}");
        error(13, "\\output{\\shipout\\copy9 }\\hbox{}");
        error(13, "\\output{\\shipout\\box9 \\global\\setbox9\\hbox{}}\\hbox{}");
        error(0, "\\output{\\shipout\\box9 \\setbox9\\hbox{}}\\hbox{}");
        error(13, "\\output{\\setbox9\\hbox{}\\shipout\\box9 }\\hbox{}");
        error(0, "\\output{\\shipout\\box9 }\\insert{\\hbox{}}\\hbox{}");
        items(2, -10, "\\output{\\relax}\\hbox{}");
        // without a program both are empty behind a page
        register(Catcodia.NONE, 7, 8, "\\insert{\\hbox{}}\\hbox{}");
        register(Catcodia.NONE, 7, 9, "\\insert{\\hbox{}}\\hbox{}");
        // \vskip ends the paragraph, the page is broken, and then its glue is read
        item("\\vsize7 \\base0 \\hsize10 \\indent0 \\output{\\global\\count0=5 \\shipout\\box9 }a a a\\vskip\\count0 \\hbox{}",
            2, 5, 4, 0, 0, 0, 5, 1, 0);
        // 40 such boxes
        String p = "\\def\\p{\\hbox{}" + END_PAGE + "}";
        due("pages", of(p + times(40, "\\p")).pages(), 40);
        error(0, p + times(40, "\\p"));
        error(10, p + times(41, "\\p"));
        due("pages", of(p + times(41, "\\p")).pages(), 40);
        error(10, p + times(40, "\\p") + "\\hbox{}");
        error(0, p + times(40, "\\p") + "\\shipout\\hbox{}\\shipout\\hbox{}");
        error(10, "\\output{\\box9 }\\hbox{}");
        // its group is in the mode INNER; what it sets is given back, and a paragraph ends with it
        error(7, "\\output{\\shipout\\box9 \\insert{}}\\hbox{}");
        error(7, "\\output{\\shipout\\box9 \\-}\\hbox{}");
        register(0, 0, 0, "\\output{\\shipout\\box9 \\count0=5 }\\hbox{}");
        register(5, 0, 0, "\\output{\\shipout\\box9 \\global\\count0=5}\\hbox{}");
        due("paragraphs", of("\\output{\\ifnum\\count0=0 a\\fi\\global\\count0=1 \\shipout\\box9 }\\hbox{}").paragraphs(), 1);
        due("pages", of("\\output{\\ifnum\\count0=0 a\\fi\\global\\count0=1 \\shipout\\box9 }\\hbox{}").pages(), 2);
        // what comes into its list is ahead of what stayed, behind what was left of insertions
        String puts = "\\vsize60 \\output{\\ifnum\\count0=0 " + rule(2) + "\\fi\\global\\count0=1 ";
        rules("50 |2 30 |", puts + "\\shipout\\box9 }" + rule(50) + "\\penalty0 " + rule(30) + "\\penalty0 ");
        rules("1 |2 |31 |", puts + "\\global\\vsize100 \\shipout\\vbox{\\box9 }\\ifvoid8 \\else\\shipout\\box8 \\fi}"
            + "\\insert{" + rule(31) + "}" + rule(1) + END_PAGE);
        // where it is read by something else
        error(0, "\\output{\\shipout\\box9 \\global\\count0=5}\\hbox{}");
        error(0, "\\output{\\shipout\\box9 \\expandafter\\relax}\\hbox{}");
        error(0, "\\output{\\shipout\\box9 \\noexpand}\\hbox{}");
        error(0, "\\output{\\shipout\\box9 \\expandafter}\\hbox{}" + END_PAGE + "\\relax");
        error(2, "\\output{\\shipout\\box9 \\expandafter}\\hbox{}");
        error(3, "\\def\\x a{}\\output{\\shipout\\box9 \\x}\\hbox{}");
        error(8, "\\def\\x#1{}\\output{\\shipout\\box9 \\x}\\hbox{}");
        error(8, "\\def\\x#1.{}\\output{\\shipout\\box9 \\x}\\hbox{}");
        for (String getter : new String[] {"\\let\\x=", "\\let\\x", "\\ifx", "\\ifx a", "\\ifnum1=2 ", "\\ifnum1=1 \\else", "\\csname",
            "\\csname a", "\\count0=`", "\\def", "\\def\\x", "\\edef\\x a", "\\let"}) {
            error(9, "\\output{\\shipout\\box9 " + getter + "}\\hbox{}");
            error(9, "\\align{#\\cr" + getter + "\\cr}");
        }
        error(9, "\\let\\y{\\output{\\shipout\\box9 \\toks0\\y}\\hbox{}");
        error(9, "\\let\\y{\\output{\\shipout\\box9 \\mark\\y}\\hbox{}");
        // groups that are not ended in it, or more of them
        error(9, "\\let\\y{\\output{\\shipout\\box9 \\y}\\hbox{}");
        error(9, "\\let\\y{\\output{\\shipout\\box9 \\hbox\\y}\\hbox{}");
        error(8, "\\let\\y}\\output{\\shipout\\box9 \\y}\\hbox{}");
        error(8, "\\let\\y}{\\output{\\shipout\\box9 \\y}\\hbox{}" + END_PAGE + "}");
        error(0, "\\let\\y{\\let\\z}\\output{\\shipout\\box9 \\y\\z}\\hbox{}");
        error(9, "\\output{\\shipout\\box9 \\end}\\hbox{}");
        // that } is executed: a step
        steps(5, "\\output{\\shipout\\box9 }\\hbox{}");
        steps(2, "\\hbox{}");
        steps(3, "\\hbox{}" + END_PAGE);
        // an error in it leaves what was done
        due("pages", of("\\output{\\shipout\\box9 \\x}\\hbox{}").pages(), 1);
        due("pages", of("\\hbox{}" + END_PAGE + "\\hbox{}\\x").pages(), 1);
        due("pages", of("\\hbox{}\\x").pages(), 0);
    }

    private static void ending() {
        // a paragraph of the page ends ahead of the error 9
        due("paragraphs", of("{a").paragraphs(), 1);
        error(9, "{a");
        due("pages", of("{a").pages(), 0);
        due("paragraphs", of("{a\\end").paragraphs(), 1);
        due("paragraphs", of("\\ifnum1=1 a").paragraphs(), 1);
        error(9, "\\ifnum1=1 a");
        due("pages", of("\\vsize7 {\\hsize10 \\indent0 a a").pages(), 0);
        due("pages", of("\\vsize7 \\base0 {\\hsize10 \\indent0 a a a a").pages(), 2);
        error(9, "{");
        error(9, "{\\end");
        error(9, "\\hbox{");
        error(9, "\\vbox{a");
        error(9, "\\insert{");
        error(9, "\\setbox0\\hbox{");
        error(9, "\\output{\\hbox{a}}{");
        error(9, "\\ifnum1=1 ");
        error(9, "\\ifnum1=2 \\else");
        error(0, "\\ifnum1=1 \\fi\\end{");
    }

    private static void marks() {
        String m = "\\output{\\shipout\\hbox{\\firstmark/\\botmark}\\setbox1\\box9 }\\def\\p{\\hbox{}" + END_PAGE + "}";
        signs("/", 0, m + "\\p");
        signs("a/a", 0, m + "\\mark{a}\\p");
        signs("a/b", 0, m + "\\mark{a}\\mark{b}\\p");
        signs("a/c", 0, m + "\\mark{a}\\mark{b}\\mark{c}\\p");
        signs("c/c", 1, m + "\\mark{a}\\mark{b}\\mark{c}\\p\\p");
        signs("c/c", 2, m + "\\mark{a}\\mark{b}\\mark{c}\\p\\p\\p");
        signs("d/d", 1, m + "\\mark{a}\\mark{b}\\mark{c}\\p\\mark{d}\\p");
        // a mark of no tokens is one
        signs("/", 1, m + "\\mark{a}\\p\\mark{}\\p");
        signs("/a", 0, m + "\\mark{}\\mark{a}\\p");
        // those in boxes and insertions are none of the page; those of paragraphs are
        signs("/", 0, m + "\\vbox{\\mark{a}}\\insert{\\mark{a}}\\p");
        signs("a/b", 0, m + "x\\mark{a}x\\mark{b}\\par\\p");
        // those behind the break are on the next page
        signs("a/a", 0, "\\vsize20 " + m + "\\mark{a}\\rule0 20 0 \\penalty0 \\mark{b}\\rule0 20 0 \\penalty0 ");
        signs("b/b", 1, "\\vsize20 " + m + "\\mark{a}\\rule0 20 0 \\penalty0 \\mark{b}\\rule0 20 0 \\penalty0 ");
        // no tokens ahead of the first page; from then on they tell the same
        signs("", -1, "\\mark{a}\\hbox{}\\setbox0\\hbox{\\firstmark\\botmark}");
        signs("ab", -1, "\\mark{a}\\mark{b}\\hbox{}" + END_PAGE + "\\setbox0\\hbox{\\firstmark\\botmark}");
        signs("ab", -1, "\\mark{a}\\mark{b}\\hbox{}" + END_PAGE + "\\mark{c}\\setbox0\\hbox{\\firstmark\\botmark}");
        signs("bb", -1, "\\mark{a}\\mark{b}\\hbox{}" + END_PAGE + "\\hbox{}" + END_PAGE + "\\setbox0\\hbox{\\firstmark\\botmark}");
        // TOKENS are expanded as by \edef, PARAMETERs as they are
        signs("a", 0, "\\def\\x{a}" + m.replace("/\\botmark", "") + "\\mark{\\x}\\def\\x{b}\\p");
        signs("b", 0, "\\def\\x{a}" + m.replace("/\\botmark", "") + "\\mark{\\noexpand\\x}\\def\\x{b}\\p");
        error(0, "\\mark{#}");
        error(7, "\\mark{#}\\hbox{}" + END_PAGE + "\\firstmark");
        error(2, "\\mark{a");
        error(8, "\\def\\x#1{}\\mark{\\x}");
    }

    private static void full() {
        // 2000 items in the list of the page; what is thrown away does not count
        String k = "\\def\\t#1{#1#1#1#1#1#1#1#1#1#1}\\def\\k{\\kern0 }\\setbox1\\vbox{\\t{\\t\\k}}\\def\\c{\\setbox2\\copy1 \\pour2 }"
            + "\\def\\n{\\c\\c\\c\\c\\c\\c\\c\\c\\c}";
        String most = k + "\\rule0 0 0 \\n\\n\\c\\t{\\k\\k\\k\\k\\k\\k\\k\\k\\k}\\k\\k\\k\\k\\k\\k\\k\\k\\k";
        error(1, most + "\\x");
        error(10, most + "\\k\\x");
        error(10, most + "\\hbox{}\\x");
        error(1, most + "\\insert{}\\insert{\\k}\\x");
        // its box has 2001
        error(10, most);
        error(1, k + "\\n\\n\\c\\c\\c\\c\\c\\c\\rule0 0 0 \\x");
        error(1, k + "\\n\\c\\rule0 0 0 \\penalty-10000 \\n\\c\\rule0 0 0 \\x");
        // what stays, 1995 kerns and a rule, with what comes of \output: a box, a penalty and two kerns more
        String stays = "\\vsize20 \\output{\\shipout\\box9 \\ifnum\\count0=0 \\hbox{}\\penalty-10000 \\!\\k\\fi\\global\\count0=1 }" + k
            + rule(20) + "\\penalty0 \\n\\n\\c\\t{\\k\\k\\k\\k\\k\\k\\k\\k\\k}\\k\\k\\k\\k\\k" + rule(20) + "\\penalty0 ";
        error(0, "\\def\\!{\\k}" + stays);
        due("pages", of("\\def\\!{\\k}" + stays).pages(), 3);
        error(10, "\\def\\!{\\k\\k}" + stays);
        due("pages", of("\\def\\!{\\k\\k}" + stays).pages(), 1);
        // also if the run ahead of it ended before what broke a page was looked at anew
        String broken = "\\vsize20 \\output{\\x}" + rule(20) + "\\penalty0 " + rule(20) + "\\penalty0 ";
        Catcodia again = of(broken);
        due("error of " + broken, again.error(), 1);
        again.cut(broken.length());
        tell(again, "\\def\\!{\\k\\k}" + stays);
        due("error when told again", again.error(), 10);
        // an insertion that was left is one more
        String left = stays.replace(k + rule(20), k + "\\insert{" + rule(10) + "}\\insert{" + rule(5) + "}" + rule(10));
        error(0, "\\def\\!{}" + left);
        due("pages", of("\\def\\!{}" + left).pages(), 3);
        error(10, "\\def\\!{\\k}" + left);
        due("pages", of("\\def\\!{\\k}" + left).pages(), 1);
        // at a later page what broke the one ahead is in the list
        String later = stays.replace("\\count0=0 ", "\\count0=1 ").replace("\\global\\count0=1 ", "\\global\\advance\\count0 by1 ")
            .replace(k + rule(20), k + rule(20) + "\\penalty0 " + rule(20));
        error(0, "\\def\\!{\\k}" + later);
        due("pages", of("\\def\\!{\\k}" + later).pages(), 4);
        error(10, "\\def\\!{\\k\\k}" + later);
        due("pages", of("\\def\\!{\\k\\k}" + later).pages(), 2);
        // and at the next page: what broke the one ahead has not come yet, as it is not looked at anew
        String next = stays.replace("\\fi\\global\\count0=1 ", "\\fi\\ifnum\\count0=1 \\k\\k\\?\\fi\\global\\advance\\count0 by1 ");
        error(0, "\\def\\!{\\k}\\let\\?\\relax" + next);
        due("pages", of("\\def\\!{\\k}\\let\\?\\relax" + next).pages(), 3);
        error(10, "\\def\\!{\\k}\\def\\?{\\k}" + next);
        due("pages", of("\\def\\!{\\k}\\def\\?{\\k}" + next).pages(), 2);
        // box 8 with 2000 and 2001
        String taken = k + "\\insert{\\n\\n\\c\\t{\\k\\k\\k\\k\\k\\k\\k\\k\\k}\\k\\k\\k\\k\\k\\k\\k\\k";
        error(10, taken + "}" + rule(1));
        String smaller = "\\output{\\shipout\\box9 \\shipout\\box8 }";
        error(0, smaller + taken + "\\k}" + rule(1));
        error(10, smaller + taken + "\\k\\k}" + rule(1));
        error(10, smaller + taken + "}\\insert{\\k\\k}" + rule(1));
        error(0, smaller + taken + "}\\insert{\\k}" + rule(1));
    }

    public static void main(String[] args) {
        thrownAway();
        breaks();
        glueAsPlace();
        insertions();
        programs();
        ending();
        marks();
        full();
        end();
    }
}
