/** Modes, items, boxes, and how glue is set. */
public final class BoxTest extends Asking {
    /** A number of an item of box 0. */
    private static void part(long want, int item, int what, String text) {
        Catcodia x = of(text);
        due("error of " + text, x.error(), 0);
        if (item < x.items(-1)) due("item " + item + " " + what + " of " + text, x.item(-1, item, what), want);
        else due("item " + item + " of " + text, 0, 1);
    }

    private static void badness(int want, String box) {
        part(want, 0, 4, "\\setbox0" + box);
    }

    /** The sizes of the items of box 0. */
    private static void sizes(String box, int... want) {
        Catcodia x = of("\\setbox0" + box);
        due("items of " + box, x.items(-1), want.length + 1);
        for (int i = 0; i < want.length && i + 1 < x.items(-1); i++) {
            due("item " + (i + 1) + " of " + box, x.item(-1, i + 1, 4), want[i]);
        }
    }

    private static void modes() {
        // LETTER and OTHER begin a paragraph in VERTICAL and INNER
        kinds("22" + "110064", 0, "a1");
        kinds("2" + "110064", -1, "\\setbox0\\vbox{a1}");
        kinds("100", -1, "\\setbox0\\hbox{a1}");
        item("\\indent7 a", 0, 3, 1, 7, 0, 0, 0, 3, 0);
        item("\\indent-7 a", 0, 3, 1, -7, 0, 0, 0, 3, 0);
        // BLANK is glue in PARAGRAPH and ROW
        part(6, 1, 4, "\\setbox0\\hbox{ }");
        items(1, -1, "\\setbox0\\vbox{ }");
        due("pages", of("  ").pages(), 0);
        sizes("\\hbox to9{ }", 9);
        badness(100, "\\hbox to9{ }");
        badness(100, "\\hbox to4{ }");
        badness(1000000, "\\hbox to3{ }");
        // PARAMETER and TAB
        for (String sign : new String[] {"#", "&"}) {
            error(7, sign);
            error(7, "a" + sign);
            error(7, "\\hbox{" + sign + "}");
            error(7, "\\vbox{" + sign + "}");
        }
        // \par ends a paragraph, and is nothing in other modes
        error(0, "\\par\\par\\vbox{\\par\\par}\\hbox{\\par}");
        steps(1, "\\par");
        due("paragraphs", of("\\par a\\par\\par\\par").paragraphs(), 1);
        kinds("100", -1, "\\setbox0\\hbox{a\\par b}");
        // \hskip begins a paragraph, \vskip ends it
        kinds("2" + "114064", -1, "\\setbox0\\vbox{\\hskip1 a}");
        kinds("2" + "4", -1, "\\setbox0\\vbox{\\vskip1 }");
        kinds("2" + "11064" + "4", -1, "\\setbox0\\vbox{a\\vskip1 }");
        kinds("2" + "11064" + "44" + "11064", -1, "\\setbox0\\vbox{a\\vskip0 b}");
        error(7, "\\hbox{\\vskip1 }");
        error(7, "\\hbox{\\vskip a}");
        error(7, "\\hbox{\\align{#\\cr}}");
        error(7, "\\hbox{\\align a}");
        // \kern, \penalty, \rule and \mark are in the list at hand
        kinds("25638", -1, "\\setbox0\\vbox{\\kern1 \\penalty1 \\rule1 1 1 \\mark{}}");
        kinds("15638", -1, "\\setbox0\\hbox{\\kern1 \\penalty1 \\rule1 1 1 \\mark{}}");
        kinds("2" + "114563064" + "8", -1, "\\setbox0\\vbox{\\hskip0 \\kern1 \\penalty1 \\rule1 1 1 \\mark{}a}");
    }

    private static void hyphensAndOthers() {
        error(7, "\\-");
        error(7, "\\vbox{\\-}");
        kinds("17", -1, "\\setbox0\\hbox{\\-}");
        kinds("2" + "1147064", -1, "\\setbox0\\vbox{\\hskip0 \\-a}");
        part(10000, 1, 4, "\\setbox0\\hbox{\\penalty10000 }");
        part(10000, 1, 4, "\\setbox0\\hbox{\\penalty10001 }");
        part(-10000, 1, 4, "\\setbox0\\hbox{\\penalty-10000 }");
        part(-10000, 1, 4, "\\setbox0\\hbox{\\penalty-10001 }");
        part(9999, 1, 4, "\\setbox0\\hbox{\\penalty9999 }");
        part(-9999, 1, 4, "\\setbox0\\hbox{\\penalty-9999 }");
        error(7, "\\raise1\\hbox{}");
        error(7, "\\raise a");
        error(7, "\\vbox{\\raise1\\hbox{}}");
        error(6, "\\hbox{\\raise1 a}");
        error(6, "\\hbox{\\raise1 \\relax}");
        error(4, "\\hbox{\\raise\\hbox{}}");
        error(7, "\\hbox{\\insert{}}");
        error(7, "\\vbox{\\insert{}}");
        error(7, "\\hbox{\\insert a}");
        error(6, "\\insert a");
        error(0, "\\insert{}a\\insert{}\\vbox{a\\insert{}}");
        error(4, "\\rule1 1 a");
        error(2, "\\rule1 1");
        error(4, "\\kern a");
        error(4, "\\penalty\\skip0 ");
        // \end ends the run
        error(0, "\\end\\x");
        error(0, "a\\end\\x}");
        error(9, "{\\end}");
        error(9, "\\hbox{\\end}");
        error(9, "\\vbox{a\\end}");
        error(9, "\\ifnum1=1 \\end\\fi");
        steps(2, "a\\end bcd");
        due("pages", of("a\\end\\shipout\\hbox{}").pages(), 1);
    }

    private static void characters() {
        for (int code = 1; code < 128; code++) {
            String escape = code == '\\' ? "/" : "\\";
            String text = "\\let\\1\\setbox\\let\\2\\hbox\\let\\3{\\let\\4}\\class47=0 \\class" + code + "=6 "
                + escape + "10" + escape + "2" + escape + "3" + (char) code + escape + "4";
            item(text, -1, 1, 0, 4 + code % 7, 7, code % 5 == 0 ? 2 : 0, code, 1, 0);
        }
    }

    private static void sizesOfBoxes() {
        item("\\setbox0\\hbox{}", -1, 0, 1, 0, 0, 0, 0, 0, 0);
        item("\\setbox0\\vbox{}", -1, 0, 2, 0, 0, 0, 0, 0, 0);
        item("\\setbox0\\hbox to5{}", -1, 0, 1, 5, 0, 0, 10000, 0, 0);
        item("\\setbox0\\hbox to-5{}", -1, 0, 1, -5, 0, 0, 1000000, 0, 0);
        item("\\setbox0\\vbox to5{}", -1, 0, 2, 0, 5, 0, 10000, 0, 0);
        item("\\setbox0\\hbox spread5{a}", -1, 0, 1, 15, 7, 0, 10000, 0, 0);
        item("\\setbox0\\hbox spread-5{a}", -1, 0, 1, 5, 7, 0, 1000000, 0, 0);
        item("\\setbox0\\vbox spread5{\\rule1 2 3 }", -1, 0, 2, 1, 7, 3, 10000, 0, 0);
        item("\\setbox0\\hbox{ad\\rule3 9 1 \\kern4 }", -1, 0, 1, 23, 9, 2, 0, 0, 0);
        // the greatest height and depth, 0 at least
        item("\\setbox0\\hbox{\\rule1 -5 -6 }", -1, 0, 1, 1, 0, 0, 0, 0, 0);
        item("\\setbox0\\hbox{\\rule-9 5 6 }", -1, 0, 1, -9, 5, 6, 0, 0, 0);
        // the widest item, 0 at least; the depth of the last item alone, if it is a box or rule
        item("\\setbox0\\vbox{\\rule-5 1 2 }", -1, 0, 2, 0, 1, 2, 0, 0, 0);
        item("\\setbox0\\vbox{\\rule5 1 2 \\rule3 1 4 }", -1, 0, 2, 5, 4, 4, 0, 0, 0);
        item("\\setbox0\\vbox{\\rule5 1 2 \\kern0 }", -1, 0, 2, 5, 3, 0, 0, 0, 0);
        item("\\setbox0\\vbox{\\rule5 1 2 \\penalty0 }", -1, 0, 2, 5, 3, 0, 0, 0, 0);
        item("\\setbox0\\vbox{\\rule5 1 2 \\mark{}}", -1, 0, 2, 5, 3, 0, 0, 0, 0);
        item("\\setbox0\\vbox{\\rule5 1 2 \\vskip4 }", -1, 0, 2, 5, 7, 0, 0, 0, 0);
        item("\\setbox0\\vbox{\\rule5 1 -3 }", -1, 0, 2, 5, -2, 0, 0, 0, 0);
        item("\\setbox0\\vbox to50{\\rule5 1 2 }", -1, 0, 2, 5, 50, 2, 10000, 0, 0);
        // hyphens, penalties, marks and insertions are 0
        item("\\setbox0\\hbox{\\-\\penalty5 \\mark{a}}", -1, 0, 1, 0, 0, 0, 0, 0, 0);
        register(7, 7, 0, "\\setbox0\\hbox{\\kern7 \\-\\penalty5 \\mark{a}}");
        // "to" and "spread", perhaps behind BLANKs
        register(5, 7, 0, "\\def\\s{ }\\setbox0\\hbox\\s\\s to\\s\\s5\\s\\s{}");
        register(5, 7, 0, "\\def\\s{ }\\setbox0\\hbox\\s\\s spread\\s\\s5\\s\\s{}");
        error(6, "\\hbox t5{}");
        error(6, "\\hbox sprea5{}");
        error(4, "\\hbox to{}");
        error(6, "\\hbox to5a");
        error(6, "\\hbox to5 to6{}");
        error(6, "\\hbox}");
        error(6, "\\hbox\\relax{}");
        error(2, "\\hbox");
        error(2, "\\hbox to5");
        error(9, "\\hbox{");
        error(9, "\\hbox{a}\\vbox{a");
        error(8, "\\hbox{a}}");
        // Error 5 beyond 1000000 and -1000000, of the natural size and of that wanted
        register(1000000, 7, 0, "\\setbox0\\hbox{\\kern1000000 }");
        register(-1000000, 7, 0, "\\setbox0\\hbox{\\kern-1000000 }");
        error(5, "\\hbox{\\kern1000000 \\kern1 }");
        error(5, "\\hbox{\\kern-1000000 \\kern-1 }");
        error(5, "\\hbox to0{\\kern1000000 \\kern1 }");
        error(5, "\\hbox{\\hskip1000000 \\hskip1 }");
        error(0, "\\setbox0\\hbox{\\kern1000000 \\kern1000000 \\kern-1000000 }");
        register(1000000, 7, 0, "\\setbox0\\hbox to1000000{}");
        register(1000000, 7, 0, "\\setbox0\\hbox spread999990{a}");
        error(5, "\\hbox spread999991{a}");
        error(5, "\\hbox spread-1000000{\\kern-1 }");
        register(1000000, 8, 0, "\\setbox0\\vbox{\\kern1000000 \\rule0 0 5 }");
        error(5, "\\vbox{\\kern1000000 \\rule0 1 5 }");
        error(5, "\\vbox to0{\\kern-1000000 \\rule0 0 5 \\kern-6 }");
        error(0, "\\setbox0\\vbox to1000000{}");
        error(5, "\\vbox spread1000000{\\kern1 }");
    }

    private static void raised() {
        item("\\setbox0\\hbox{\\raise3\\hbox{d}}", -1, 1, 1, 6, 10, -1, 0, 1, 0);
        item("\\setbox0\\hbox{\\raise-3\\hbox{d}}", -1, 1, 1, 6, 4, 5, 0, 1, 0);
        item("\\setbox0\\hbox{\\raise-3\\hbox to9{d}}", -1, 1, 1, 9, 4, 5, 10000, 1, 0);
        item("\\setbox0\\hbox{\\raise9\\vbox{\\rule2 3 4 }}", -1, 1, 2, 2, 12, -5, 0, 1, 0);
        item("\\setbox0\\hbox{\\raise9\\vbox{\\rule2 3 4 }}", -1, 0, 1, 2, 12, 0, 0, 0, 0);
        item("\\setbox1\\hbox{d}\\setbox0\\hbox{\\raise3\\copy1 \\box1 }", -1, 3, 1, 6, 7, 2, 0, 1, 0);
        items(1, -1, "\\setbox0\\hbox{\\raise3\\box1 \\raise3\\copy1 }");
        error(0, "\\setbox0\\hbox{\\raise999993\\hbox{a}}");
        error(5, "\\setbox0\\hbox{\\raise999994\\hbox{a}}");
        error(0, "\\setbox0\\hbox{\\raise-1000000\\hbox{a}}");
        error(5, "\\setbox0\\hbox{\\raise-1000000\\hbox{d}}");
        error(0, "\\setbox0\\hbox{\\raise-999998\\hbox{d}}");
        error(5, "\\setbox0\\hbox{\\raise-999999\\hbox{d}}");
        error(0, "\\setbox0\\hbox{\\raise-1000000\\hbox{}}");
        error(0, "\\setbox0\\hbox{\\raise1000000\\hbox{}}");
        error(5, "\\setbox0\\hbox{\\raise-1000000\\vbox{\\rule0 -1 0 }}");
        error(5, "\\setbox0\\hbox{\\raise1000000\\hbox{\\raise999000\\hbox{a}}}");
        kinds("2" + "1101064", -1, "\\setbox0\\vbox{a\\raise1\\hbox{b}}");
    }

    private static void badnesses() {
        badness(0, "\\hbox to0{}");
        badness(100, "\\hbox to10{\\hskip0plus10}");
        badness(0, "\\hbox to1{\\hskip0plus10}");
        badness(100, "\\hbox to1{\\hskip0plus1}");
        badness(10000, "\\hbox to5{\\hskip0plus1}");
        badness(3, "\\hbox to1{\\hskip0plus3}");
        badness(0, "\\hbox to215{\\hskip0plus1000}");
        badness(1, "\\hbox to216{\\hskip0plus1000}");
        badness(9733, "\\hbox to46{\\hskip0plus10}");
        badness(9996, "\\hbox to4641{\\hskip0plus1000}");
        badness(10000, "\\hbox to4642{\\hskip0plus1000}");
        badness(10000, "\\hbox to5000{\\hskip0plus1000}");
        badness(10000, "\\hbox to1000000{\\hskip0plus1}");
        badness(0, "\\hbox to1000000{\\hskip0plus1f}");
        badness(0, "\\hbox to1000000{\\hskip0plus1fff}");
        // there is no such glue
        badness(10000, "\\hbox to1{}");
        badness(10000, "\\hbox to1{\\hskip0minus9}");
        badness(10000, "\\hbox to1{\\hskip0plus-1}");
        badness(10000, "\\hbox to1{\\hskip0plus1\\hskip0plus-1}");
        badness(10000, "\\hbox to1{\\hskip0plus-1f}");
        badness(10000, "\\hbox to1{\\hskip0plus1\\hskip0plus-1f}");
        badness(1000000, "\\hbox to-1{}");
        badness(1000000, "\\hbox to-1{\\hskip0plus9}");
        badness(1000000, "\\hbox to-1{\\hskip0minus-1}");
        badness(1000000, "\\hbox to-1{\\hskip0minus-1f}");
        badness(1000000, "\\hbox to-1{\\hskip0minus1\\hskip0minus-1}");
        // below 0: held to T, 1000000 beyond it
        badness(100, "\\hbox to-10{\\hskip0minus10}");
        badness(72, "\\hbox to-9{\\hskip0minus10}");
        badness(1000000, "\\hbox to-11{\\hskip0minus10}");
        badness(0, "\\hbox to-1000000{\\hskip0minus1f}");
        // a higher order goes ahead, if its sum is not 0
        badness(0, "\\hbox to10{\\hskip0plus10\\hskip0plus1f}");
        badness(100, "\\hbox to10{\\hskip0plus10\\hskip0plus1f\\hskip0plus-1f}");
        badness(100, "\\vbox to10{\\vskip0plus10}");
        badness(100, "\\vbox to10{\\vskip0plus10 \\rule0 0 5 }");
    }

    private static void glueSet() {
        sizes("\\hbox to10{\\hskip1plus1 \\hskip2plus2 \\hskip3plus1 }", 2, 4, 4);
        sizes("\\hbox to8{\\hskip1plus1 \\hskip2plus2 \\hskip3plus1 }", 1, 3, 4);
        sizes("\\hbox{\\hskip1plus1 \\hskip2minus2 }", 1, 2);
        sizes("\\hbox to9{\\hskip1plus1 \\hskip2plus1f \\hskip3plus1ff }", 1, 2, 6);
        sizes("\\hbox to9{\\hskip1plus1 \\hskip2plus0fff \\hskip3 }", 4, 2, 3);
        sizes("\\hbox to9{\\hskip1plus-1 \\hskip2 }", 1, 2);
        sizes("\\hbox to9{\\hskip1 \\hskip2 }", 1, 2);
        // rounded down, those below 0 too
        sizes("\\hbox to4{\\hskip0plus3 \\hskip0plus-1 }", 6, -2);
        sizes("\\hbox to4{\\hskip0plus-1 \\hskip0plus4 }", -2, 6);
        sizes("\\hbox to1{\\hskip0plus1 \\hskip0plus1 \\hskip0plus1 }", 0, 0, 1);
        sizes("\\hbox to2{\\hskip0plus1 \\hskip0plus1 \\hskip0plus1 }", 0, 1, 1);
        sizes("\\hbox to-2{\\hskip0minus1 \\hskip0minus1 \\hskip0minus1 }", 0, -1, -1);
        sizes("\\hbox to-3{\\hskip0minus1 \\hskip0minus1 \\hskip0minus1 }", -1, -1, -1);
        sizes("\\hbox to-9{\\hskip0minus1 \\hskip0minus1 \\hskip0minus1 }", -1, -1, -1);
        sizes("\\hbox to-9{\\hskip0minus1 \\hskip0minus1f \\hskip0minus1f }", 0, -4, -5);
        sizes("\\hbox to-9{\\hskip0minus-1f \\hskip1minus5 }", 0, 1);
        sizes("\\hbox to-4{\\hskip0minus-1 \\hskip0minus4 }", 1, -4);
        sizes("\\vbox to9{\\vskip1plus1 \\vskip2plus1 }", 4, 5);
        // 1000000 times 1000000 is told by its lower 32 bits
        sizes("\\hbox to1000000{\\hskip0plus1000000 \\hskip0plus-999999 }", (int) 1000000000000L,
            (int) (1000000L - 1000000000000L));
        String wide = "\\setbox0\\hbox to1000000{\\leaders\\hbox{a}\\hskip0plus1000000 \\leaders\\hbox{a}\\hskip0plus-999999 }";
        part(-727379968, 1, 4, wide);
        part(0, 1, 6, wide);
        part(728379968, 2, 4, wide);
        part(72837996, 2, 6, wide);
    }

    private static void between() {
        // glue of \base, less the depth of the one above, less the height of this one, 0 at least
        sizes("\\vbox{\\rule1 1 1 }", 0);
        part(5, 3, 4, "\\setbox0\\vbox{\\hbox{a}\\hbox{a}}");
        part(3, 3, 4, "\\setbox0\\vbox{\\hbox{d}\\hbox{a}}");
        part(0, 3, 4, "\\base9 \\setbox0\\vbox{\\hbox{d}\\hbox{a}}");
        part(0, 3, 4, "\\base8 \\setbox0\\vbox{\\hbox{d}\\hbox{a}}");
        part(0, 3, 4, "\\base-100 \\setbox0\\vbox{\\hbox{d}\\hbox{a}}");
        part(1, 3, 4, "\\base10 \\setbox0\\vbox{\\hbox{d}\\hbox{a}}");
        part(0, 3, 6, "\\base99 \\setbox0\\vbox{\\hbox{a}\\hbox{a}}");
        item("\\base99 \\hbox{a}\\hbox{a}", 0, 4, 4, 0, 0, 0, 92, 2, 0);
        part(12, 2, 4, "\\setbox0\\vbox{\\hbox{}\\hbox{}}");
        kinds("21", -1, "\\setbox0\\vbox{\\hbox{}}");
        kinds("251", -1, "\\setbox0\\vbox{\\kern1 \\hbox{}}");
        kinds("2141", -1, "\\setbox0\\vbox{\\hbox{}\\hbox{}}");
        kinds("2142", -1, "\\setbox0\\vbox{\\hbox{}\\vbox{}}");
        kinds("21586441", -1, "\\setbox0\\vbox{\\hbox{}\\kern1 \\mark{}\\penalty1 \\vskip1 \\hbox{}}");
        // the last box or rule has to be a box
        kinds("231", -1, "\\setbox0\\vbox{\\rule1 1 1 \\hbox{}}");
        kinds("2131", -1, "\\setbox0\\vbox{\\hbox{}\\rule1 1 1 \\hbox{}}");
        kinds("231413", -1, "\\setbox0\\vbox{\\rule1 1 1 \\hbox{}\\hbox{}\\rule1 1 1 }");
        kinds("22" + "1" + "4" + "1", 0, "\\hbox{}\\hbox{}");
        kinds("22" + "1" + "3" + "1", 0, "\\hbox{}\\rule1 1 1 \\hbox{}");
        kinds("22" + "3" + "1", 0, "\\rule1 1 1 \\hbox{}");
    }

    private static void poured() {
        kinds("211", -1, "\\setbox1\\vbox{\\hbox{}}\\setbox0\\vbox{\\hbox{}\\pour1 }");
        kinds("21141", -1, "\\setbox1\\vbox{\\hbox{}}\\setbox0\\vbox{\\hbox{}\\pour1 \\hbox{}}");
        kinds("22" + "11" + "41", 0, "\\setbox1\\vbox{\\hbox{}}\\hbox{}\\pour1 \\hbox{}");
        items(0, -2, "\\setbox1\\vbox{\\hbox{}}\\pour1 ");
        items(0, -2, "\\setbox1\\hbox{a}a\\pour1 ");
        items(0, -2, "\\setbox1\\hbox{}a\\pour1 ");
        // of an \hbox in PARAGRAPH and ROW, of a \vbox in VERTICAL and INNER
        error(7, "\\setbox1\\hbox{}\\pour1 ");
        error(7, "\\setbox1\\hbox{}\\vbox{\\pour1 }");
        error(7, "\\setbox1\\vbox{}\\hbox{\\pour1 }");
        error(7, "\\setbox1\\vbox{}a\\pour1 ");
        register(0, 7, 1, "\\setbox1\\hbox{}\\pour1 ");
        // nothing, if it is empty
        error(0, "\\pour1 \\vbox{\\pour1 }\\hbox{\\pour1 }a\\pour1 ");
        error(6, "\\pour10 ");
        error(6, "\\pour-1 ");
        error(4, "\\pour a");
        // as they were before it was set
        sizes("\\hbox{}\\setbox1\\hbox to50{\\hskip1plus1 \\hskip2plus1f}\\setbox0\\hbox{\\pour1}", 1, 2);
        sizes("\\hbox{}\\setbox1\\hbox to50{\\hskip1plus1 }\\setbox0\\hbox to7{\\pour1 \\hskip1plus2 }", 2, 5);
        // 4000 items in all, those that were poured ahead too
        String ten = "\\def\\t#1{#1#1#1#1#1#1#1#1#1#1}\\setbox1\\hbox{\\t{\\t{\\kern0 }}}\\def\\p{\\setbox3\\copy1 \\setbox2\\hbox{\\pour3 }}";
        error(0, ten + "\\t{\\p\\p\\p\\p}\\setbox2\\hbox{\\setbox3\\hbox{}\\pour3 }");
        error(10, ten + "\\t{\\p\\p\\p\\p}\\setbox3\\hbox{a}\\setbox2\\hbox{\\pour3 }");
        error(0, ten + "\\t{\\p\\p\\p}\\p\\p\\p\\p\\p\\p\\p\\p\\p\\setbox3\\copy1 \\setbox2\\hbox{\\pour3 }");
        error(10, ten + "\\t{\\p\\p\\p\\p}\\p");
    }

    private static void leaders() {
        String ahead = "\\setbox0\\hbox{\\leaders\\hbox{.}\\hskip";
        part(0, 1, 6, ahead + "7 }");
        part(1, 1, 6, ahead + "8 }");
        part(1, 1, 6, ahead + "15 }");
        part(2, 1, 6, ahead + "16 }");
        part(0, 1, 6, ahead + "0 }");
        part(0, 1, 6, ahead + "-8 }");
        part(1, 1, 6, "\\setbox0\\hbox{\\leaders\\hbox to1{}\\hskip1 }");
        part(0, 1, 6, "\\setbox0\\hbox{\\leaders\\hbox to2{}\\hskip1 }");
        part(16, 1, 4, ahead + "16 }");
        part(0, 1, 6, "\\setbox0\\hbox{\\leaders\\hbox{}\\hskip16 }");
        part(0, 1, 6, "\\setbox0\\hbox{\\leaders\\hbox to-4{}\\hskip16 }");
        part(16, 1, 6, "\\setbox0\\hbox{\\leaders\\vbox{\\rule1 9 9 }\\hskip16 }");
        part(2, 1, 6, "\\setbox0\\vbox{\\leaders\\hbox{d}\\vskip18 }");
        part(1, 1, 6, "\\setbox0\\vbox{\\leaders\\hbox{d}\\vskip17 }");
        part(0, 1, 6, "\\setbox0\\vbox{\\leaders\\hbox{d}\\vskip8 }");
        part(0, 1, 6, "\\setbox0\\vbox{\\leaders\\hbox to9{}\\vskip18 }");
        part(0, 1, 6, "\\setbox0\\vbox{\\leaders\\vbox{\\kern-3 }\\vskip18 }");
        part(0, 1, 6, "\\setbox0\\hbox{\\hskip16 }");
        part(3, 1, 6, "\\setbox0\\hbox to24{\\leaders\\hbox{.}\\hskip0plus1f}");
        part(2, 1, 6, "\\setbox0\\hbox to23{\\leaders\\hbox{.}\\hskip0plus1f}");
        for (int what = 1; what <= 3; what++) part(0, 1, what, ahead + "16 }");
        // the box is not among the items
        items(2, -1, ahead + "16 }");
        error(6, "\\leaders a");
        error(6, "\\leaders\\relax");
        error(6, "\\leaders\\box0 a");
        error(6, "\\leaders\\box0 \\vskip1 ");
        error(6, "\\leaders\\copy0 \\vskip1 ");
        error(7, "\\leaders\\hbox{}a");
        error(7, "\\leaders\\hbox{}\\hskip1 ");
        error(7, "a\\leaders\\hbox{}\\vskip1 ");
        error(7, "\\vbox{\\leaders\\hbox{}\\hskip1 }");
        error(7, "\\hbox{\\leaders\\hbox{}\\vskip1 }");
        error(7, "\\leaders\\hbox{}\\kern1 ");
        error(7, "\\leaders\\hbox{}}");
        error(2, "\\leaders");
        error(2, "\\leaders\\hbox{}");
        error(2, "\\leaders\\hbox{}\\vskip");
        error(0, "\\def\\s{ }\\def\\v{\\vskip}\\leaders\\s\\s\\hbox{}\\s\\s\\v1 a\\leaders\\hbox{}\\hskip1 ");
    }

    private static void shipped() {
        due("pages", of("\\shipout\\hbox{}\\shipout\\vbox{}").pages(), 2);
        due("pages", of("\\shipout\\box0 ").pages(), 0);
        due("pages", of("\\setbox0\\hbox{}\\shipout\\copy0 \\shipout\\box0 \\shipout\\box0 ").pages(), 2);
        due("pages", of("a\\shipout\\hbox{\\shipout\\hbox{}}\\hbox{\\shipout\\hbox{}}\\x").pages(), 3);
        item("\\shipout\\hbox{a}", 0, 0, 1, 10, 7, 0, 0, 0, 0);
        error(6, "\\shipout a");
        error(6, "\\shipout\\raise1\\hbox{}");
        error(2, "\\shipout");
        // boxes by their own numbers, and by \let
        items(2, -1, "\\let\\b\\hbox\\setbox0\\b{a}");
        items(2, -1, "\\def\\b{\\hbox}\\setbox0\\b{a}");
        error(6, "\\box10 ");
        error(6, "\\copy-1 ");
        error(4, "\\box a");
        item("\\setbox0\\hbox{\\hbox{\\hbox{a}}}", -1, 3, 0, 10, 7, 0, 97, 3, 0);
        item("\\setbox0\\hbox{\\hbox{\\hbox{a}b}c}", -1, 4, 0, 4, 7, 0, 98, 2, 0);
        item("\\setbox0\\hbox{\\hbox{\\hbox{a}b}c}", -1, 5, 0, 5, 7, 0, 99, 1, 0);
        items(6, -1, "\\setbox0\\hbox{\\hbox{\\hbox{a}b}c}");
        // an insertion is one item
        items(7, -1, "\\setbox0\\vbox{\\hskip0 \\insert{aaaa\\par aaa}}");
    }

    private static void full() {
        // 2000 items in a list, or in a box with itself and all that is in it
        String k = "\\def\\t#1{#1#1#1#1#1#1#1#1#1#1}\\def\\k{\\kern0 }\\setbox1\\hbox{\\t{\\t\\k}}"
            + "\\def\\p#1{\\setbox2\\hbox{\\copy#1\\copy#1\\copy#1\\copy#1}}";
        // 101 items, 5 boxes of them are 506, 405 with 4
        items(101, -2, k);
        items(405, -3, k + "\\p1");
        String most = k + "\\p1\\setbox0\\hbox{\\copy2\\copy2\\copy2\\copy2";
        items(1621, -1, most + "}");
        items(2000, -1, most + "\\copy1\\copy1\\copy1" + times(76, "\\k") + "}");
        error(10, most + "\\copy1\\copy1\\copy1" + times(77, "\\k") + "}");
        // a list of its own can have 2000, a box of it can not
        String list = "\\def\\t#1{#1#1#1#1#1#1#1#1#1#1}\\def\\k{\\kern0 }\\setbox1\\vbox{\\t{\\t\\k}}\\def\\c{\\setbox2\\copy1 \\pour2 }"
            + "\\insert{\\t{\\c\\c}";
        error(0, list + "}");
        error(10, list + "\\k}");
        error(10, list + "\\hbox{}}");
        String box = "\\def\\t#1{#1#1#1#1#1#1#1#1#1#1}\\def\\k{\\kern0 }\\setbox1\\vbox{\\t{\\t\\k}}\\def\\c{\\setbox2\\copy1 \\pour2 }"
            + "\\setbox0\\vbox{\\t{\\c}\\c\\c\\c\\c\\c\\c\\c\\c\\c\\t{\\k\\k\\k\\k\\k\\k\\k\\k\\k}" + times(9, "\\k");
        items(2000, -1, box + "}");
        error(10, box + "\\k}");
        // one within another list
        error(0, "\\setbox3\\hbox{aaa" + box + "}}");
        error(0, "aaa" + box + "}");
        // as deep as groups can be: each with a list of its own, and a paragraph
        error(0, "a" + times(40, "\\vbox{a") + times(40, "}"));
        error(10, "a" + times(41, "\\vbox{a"));
        // ahead of the error 5
        error(5, box.substring(0, box.length() - 4) + "\\kern1000000 \\kern1 }");
        error(10, box + "\\kern1000000 \\kern1 }");
    }

    public static void main(String[] args) {
        modes();
        hyphensAndOthers();
        characters();
        sizesOfBoxes();
        raised();
        badnesses();
        glueSet();
        between();
        poured();
        leaders();
        shipped();
        full();
        end();
    }
}
