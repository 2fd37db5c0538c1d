/** Alignments. */
public final class AlignTest extends Asking {
    private static final String BOX = "\\setbox0\\vbox{\\align{";

    private static void templates() {
        error(0, "\\align{#\\cr}");
        error(0, "\\align{a#b\\cr}");
        error(0, "\\align{#&#&#&#&#&#\\cr}");
        error(6, "\\align{#&#&#&#&#&#&#\\cr}");
        error(6, "\\align{\\cr}");
        error(6, "\\align{a\\cr}");
        error(6, "\\align{##\\cr}");
        error(6, "\\align{#a#\\cr}");
        error(6, "\\align{#&\\cr}");
        error(6, "\\align{&#\\cr}");
        error(6, "\\align{#&##\\cr}");
        error(6, "\\align{#&&#\\cr}");
        // without \cr outside of { and } there is none
        error(6, "\\align{}");
        error(6, "\\align{ }");
        error(6, "\\align{#}");
        error(6, "\\align{#&#}");
        error(6, "\\align{{#\\cr}}");
        error(6, "\\align{#{\\cr}}");
        // by the NAME cr, whatever it means, and not by others that mean it
        error(0, "\\let\\cr\\relax\\align{#\\cr}");
        error(0, "\\def\\cr{\\x}\\align{#\\cr a\\cr}");
        error(6, "\\let\\c\\cr\\align{#\\c}");
        error(6, "\\def\\c{\\cr}\\align{#\\c}");
        error(11, "\\let\\c\\cr\\align{#\\cr\\c\\cr}");
        // it is not expanded
        error(6, "\\def\\x{##}\\align{\\x\\cr}");
        error(0, "\\def\\x{\\cr}\\align{#\\cr}");
        error(6, "\\align a");
        error(6, "\\align\\relax");
        error(6, "\\align}");
        error(2, "\\align");
        error(2, "\\align{#\\cr");
        error(0, "\\let\\b{\\align\\b#\\cr}");
        error(0, "\\def\\s{ }\\align\\s\\s{#\\cr}");
        // other classes of the codes
        signs("a;b", -1, "\\class`\\&=6 \\class`\\!=10 " + BOX + "#!;#\\cr a!b\\cr}}");
        signs("a", -1, "\\class`\\#=6 \\class`\\!=3 " + BOX + "!\\cr a\\cr}}");
        // \cr executed
        error(11, "\\cr");
        error(11, "\\align{#\\cr\\hbox{\\cr}\\cr}");
        error(7, "\\align{#\\cr\\hbox{&}\\cr}");
    }

    private static void rows() {
        // TABs are more than BLANKs
        kinds("2" + "11010" + "4" + "111", -1, "\\setbox0\\vbox{\\align{#&#\\cr a&b\\cr &}}");
        kinds("2" + "11010", -1, "\\setbox0\\vbox{\\align{#&#\\cr a&b\\cr }}");
        // a row is an \hbox of its boxes
        kinds("2", -1, BOX + "#\\cr}}");
        kinds("211", -1, BOX + "#\\cr\\cr}}");
        kinds("211411", -1, BOX + "#\\cr\\cr\\cr}}");
        kinds("2" + "110", -1, BOX + "#\\cr a\\cr}}");
        kinds("2" + "110" + "4" + "110", -1, BOX + "#\\cr a\\cr b\\cr}}");
        kinds("2" + "11010", -1, BOX + "#&#\\cr a&b\\cr}}");
        kinds("2" + "1110", -1, BOX + "#&#\\cr&b\\cr}}");
        kinds("2" + "1101", -1, BOX + "#&#\\cr a&\\cr}}");
        kinds("2" + "110", -1, BOX + "#&#\\cr a\\cr}}");
        // what stands behind the last \cr is one, if it is more than BLANKs
        kinds("2", -1, BOX + "#\\cr }}");
        kinds("2" + "110", -1, BOX + "#\\cr a}}");
        kinds("2" + "110", -1, BOX + "#\\cr a\\cr }}");
        kinds("2" + "110", -1, BOX + "#\\cr a\\cr% \n \n}}");
        kinds("2" + "110" + "4" + "11", -1, BOX + "#\\cr a\\cr{}}}");
        kinds("2" + "110" + "4" + "111", -1, BOX + "#&#\\cr a\\cr&}}");
        kinds("2" + "110" + "4" + "111", -1, BOX + "#&#\\cr a\\cr & }}");
        kinds("2" + "110" + "4" + "11", -1, BOX + "#\\cr a\\cr\\relax}}");
        // BLANKs at the beginning of a part of a row are left out, others stay
        kinds("2" + "110", -1, "\\def\\cr{}" + BOX + "#\\cr  a\\cr}}");
        kinds("2" + "1104", -1, BOX + "#\\cr a \\cr}}");
        kinds("2" + "110410", -1, BOX + "#&#\\cr a & b\\cr}}");
        // and those of the TEMPLATE
        kinds("2" + "11404", -1, BOX + " # \\cr a\\cr}}");
        // outside of { and }
        kinds("2" + "110", -1, BOX + "#\\cr {a}\\cr}}");
        error(7, BOX + "#\\cr {a&}\\cr}}");
        error(11, BOX + "#\\cr {a\\cr}\\cr}}");
        // U part V, in this order; the part may have an OPEN of U
        signs("(a)[b]", -1, BOX + "(#)&[#]\\cr a&b\\cr}}");
        kinds("2" + "1110", -1, BOX + "\\hbox{#}\\cr a\\cr}}");
        kinds("2" + "1100", -1, BOX + "#\\cr ab\\cr}}");
        signs("xa", -1, "\\def\\x#1{x#1}" + BOX + "\\x#\\cr a\\cr}}");
        signs("xa", -1, "\\def\\x#1.{x#1}" + BOX + "\\x#.\\cr a\\cr}}");
        // too many parts
        error(6, "\\align{#\\cr&\\cr}");
        error(6, "\\align{#\\cr a&b}");
        error(6, "\\align{#&#\\cr&&\\cr}");
        error(0, "\\align{#&#\\cr&\\cr}");
        error(6, "\\align{#&#&#&#&#&#\\cr&&&&&&\\cr}");
        // when it is its turn, ahead of its first part
        register(1, 0, 0, "\\align{#\\cr\\global\\advance\\count0 by1 \\cr\\global\\advance\\count0 by1 &\\cr}");
        error(6, "\\align{#\\cr\\cr\\x&\\cr}");
        error(1, "\\align{#\\cr\\x\\cr&\\cr}");
        due("pages", of("\\align{#\\cr a\\cr\\x&\\cr}").pages(), 0);
    }

    private static void groups() {
        // each part is a group of its own
        register(0, 0, 0, "\\align{\\count0=5 #\\cr\\count0=6 \\cr}");
        register(3, 0, 0, "\\align{\\global\\advance\\count0 by1 #&\\advance\\count0 by1 #\\cr a\\cr b&c\\cr d\\cr}");
        kinds("2" + "110" + "4" + "110", -1, BOX + "{#}\\cr a\\cr b\\cr}}");
        // errors 9 and 8 as for \output
        error(8, "\\let\\y}\\align{#\\cr\\y\\cr}");
        error(8, "{\\let\\y}\\align{#\\cr\\y\\cr}}");
        error(9, "\\let\\y{\\align{#\\cr\\y\\cr}");
        error(9, "\\let\\y{\\align{\\y#\\cr a\\cr}");
        error(0, "\\let\\y{\\let\\z}\\align{\\y#\\z\\cr a\\cr}");
        error(9, "\\let\\y{\\align{#\\cr\\hbox\\y\\cr}");
        error(9, "\\align{#\\cr\\let\\x=\\cr}");
        error(8, "\\def\\x#1{}\\align{#\\cr\\x\\cr}");
        error(3, "\\def\\x a{}\\align{#\\cr\\x\\cr}");
        error(0, "\\align{#\\cr\\noexpand\\cr}");
        error(0, "\\align{#\\cr\\expandafter\\relax\\cr}");
        error(0, "\\align{#\\cr\\count0=5\\cr}");
        error(9, "\\align{#\\cr\\end\\cr}");
        // the } of each is a step
        steps(1, "\\align{#\\cr}");
        steps(2, "\\align{#\\cr\\cr}");
        steps(3, "\\align{#\\cr a\\cr}");
        steps(5, "\\align{x#y\\cr a\\cr}");
        steps(6, "\\align{x#&yz#\\cr&\\cr}");
        // 40 groups: the boxes are groups, too
        error(0, times(39, "{") + "\\align{#\\cr a\\cr}" + times(39, "}"));
        error(10, times(40, "{") + "\\align{#\\cr a\\cr}" + times(40, "}"));
        error(0, times(40, "{") + "\\align{#\\cr}" + times(40, "}"));
        // one within another one
        kinds("2" + "11" + "2" + "1101010", -1, BOX + "\\vbox{#}\\cr{\\align{#&#&#\\cr a&b&c\\cr}}\\cr}}");
        signs("abcd", -1, BOX + "\\vbox{#}\\cr{\\align{#&#\\cr a&b\\cr}}\\cr{\\align{#\\cr c\\cr d\\cr}}\\cr}}");
    }

    private static void widths() {
        // those of one alignment are not those of another one
        register(10, 7, 0, "\\setbox1\\vbox{\\align{#\\cr abc\\cr}}\\setbox0\\vbox{\\align{#\\cr a\\cr}}");
        // a column is as wide as its widest box, 0 at least; each box is set anew to it
        String two = BOX + "#&#\\cr a&b\\cr b&a\\cr c\\cr}}";
        item(two, -1, 1, 1, 20, 7, 0, 0, 1, 0);
        item(two, -1, 2, 1, 10, 7, 0, 0, 2, 0);
        item(two, -1, 4, 1, 10, 7, 0, 10000, 2, 0);
        item(two, -1, 7, 1, 20, 7, 0, 0, 1, 0);
        item(two, -1, 8, 1, 10, 7, 0, 10000, 2, 0);
        item(two, -1, 13, 1, 10, 7, 0, 0, 1, 0);
        item(two, -1, 14, 1, 10, 7, 0, 10000, 2, 0);
        item(BOX + "#\\cr\\kern-5 \\cr}}", -1, 2, 1, 0, 0, 0, 10000, 2, 0);
        item(BOX + "#\\cr\\kern-5 \\cr}}", -1, 1, 1, 0, 0, 0, 0, 1, 0);
        item(BOX + "#\\cr\\hskip1plus1\\cr\\kern3 \\cr}}", -1, 3, 4, 0, 0, 0, 3, 3, 0);
        item(BOX + "\\hskip0plus1f#\\cr a\\cr b\\cr}}", -1, 8, 4, 0, 0, 0, 6, 3, 0);
        // glue of \base between rows, and behind what was ahead
        item(two, -1, 6, 4, 0, 0, 0, 5, 1, 0);
        kinds("2" + "14" + "11", -1, "\\setbox0\\vbox{\\hbox{}\\align{#\\cr\\cr}}");
        kinds("2" + "114" + "1", -1, BOX + "#\\cr\\cr}\\hbox{}}");
        // in PARAGRAPH that ends first
        due("paragraphs", of("a\\align{#\\cr b\\cr}c").paragraphs(), 2);
        kinds("2" + "11064" + "4" + "110" + "4" + "11064", -1, "\\setbox0\\vbox{a\\align{#\\cr b\\cr}c}");
        due("paragraphs", of("a\\align b").paragraphs(), 1);
        error(6, "a\\align b");
        // in ROW it is an error
        error(7, "\\hbox{\\align{#\\cr}}");
        error(7, "\\align{#\\cr\\align{#\\cr}\\cr}");
        error(0, "\\align{#\\cr\\vbox{\\align{#\\cr}}\\cr}");
        // all are run ahead of the first row that comes
        due("pages", of("\\vsize5 \\align{#\\cr a\\cr\\penalty-10000 b\\cr\\x\\cr}").pages(), 0);
        kinds("22" + "110" + "4" + "110", 0, "\\align{#\\cr a\\cr b\\cr}");
        // rows are too wide together: 1000000 at most
        error(0, BOX + "#&#\\cr\\kern500000 &\\kern500000 \\cr}}");
        error(5, BOX + "#&#\\cr\\kern500001 &\\kern500000 \\cr}}");
        error(5, BOX + "#&#\\cr\\kern500001 &\\cr&\\kern500000 \\cr}}");
        error(0, BOX + "#&#\\cr\\kern500001 \\cr\\kern4 &\\kern400000 \\cr}}");
    }

    public static void main(String[] args) {
        templates();
        rows();
        groups();
        widths();
        end();
    }
}
