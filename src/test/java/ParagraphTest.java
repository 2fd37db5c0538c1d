/** Paragraphs: where they can be broken, the rows of lines that are taken, hyphens, and the lines that come of it. */
public final class ParagraphTest extends Asking {
    private static final String TWELVE = "a a a a a a a a a a a a ", ELEVEN = "a a a a a a a a a a a ";

    private static void ends() {
        // a glue that is the last item is lost, but one alone
        kinds("2" + "11064", -1, "\\setbox0\\vbox{a }");
        kinds("2" + "11064", -1, "\\setbox0\\vbox{a\\hskip5plus6}");
        kinds("2" + "11064", -1, "\\setbox0\\vbox{a\\leaders\\hbox{}\\hskip5 }");
        kinds("2" + "110464", -1, "\\setbox0\\vbox{a\\hskip5 \\hskip6 }");
        kinds("2" + "110564", -1, "\\setbox0\\vbox{a\\kern5 }");
        kinds("2" + "1104664", -1, "\\setbox0\\vbox{a \\penalty7 }");
        kinds("2" + "110464" + "8", -1, "\\setbox0\\vbox{a \\mark{}}");
        // its penalty and its glue
        item("\\setbox0\\vbox{a}", -1, 4, 6, 0, 0, 0, 10000, 2, 0);
        item("\\setbox0\\vbox{a}", -1, 5, 4, 0, 0, 0, 80, 2, 0);
        item("\\indent0 \\setbox0\\vbox{b\\hskip0plus1f\\kern0 }", -1, 4, 4, 0, 0, 0, 48, 2, 0);
        item("\\indent0 \\setbox0\\vbox{b\\hskip0plus1f\\kern0 }", -1, 7, 4, 0, 0, 0, 48, 2, 0);
        item("\\hsize3 \\indent0 \\setbox0\\vbox{b}", -1, 1, 1, 3, 7, 0, 1000000, 1, 0);
        item("\\hsize3 \\indent0 \\setbox0\\vbox{b}", -1, 5, 4, 0, 0, 0, 0, 2, 0);
        // with nothing besides the indent box it becomes nothing
        due("paragraphs", of("\\hskip1 \\par").paragraphs(), 0);
        due("pages", of("\\hskip1 \\par").pages(), 0);
        items(1, -1, "\\setbox0\\vbox{\\hskip1 }");
        due("paragraphs", of("\\hskip1 \\hskip1 \\par").paragraphs(), 1);
        due("paragraphs", of("\\hskip1 \\kern0 \\par").paragraphs(), 1);
        due("paragraphs", of("\\hskip1 \\mark{}\\par").paragraphs(), 1);
        due("paragraphs", of("\\hskip1 \\hbox{}\\par").paragraphs(), 1);
        due("paragraphs", of("\\hskip1 \\box0 \\par").paragraphs(), 0);
        due("paragraphs", of("\\hskip1 \\vskip1 ").paragraphs(), 0);
        due("paragraphs", of("\\hskip1 ").paragraphs(), 0);
        due("paragraphs", of("").paragraphs(), 0);
        // by the parameters as they are then
        due("lines", of("{\\hsize40 aaa bbb}").lines(0), 1);
        due("lines", of("{\\hsize40 aaa bbb\\par}").lines(0), 2);
        due("lines", of("\\vbox{{\\hsize40 aaa bbb}}").lines(0), 1);
        due("lines", of("\\vbox{\\hsize40 aaa bbb}").lines(0), 2);
        due("lines", of("aaa bbb\\hsize40 ").lines(0), 2);
        // what was broken ahead of an error counts
        due("paragraphs", of("a\\par\\x").paragraphs(), 1);
        due("paragraphs", of("a\\x").paragraphs(), 0);
        due("paragraphs", of("\\vbox{a}\\vbox{a\\x").paragraphs(), 1);
        due("paragraphs", of("a\\vbox{b}\\vbox{c}").paragraphs(), 3);
        due("lines", of("\\vbox{\\hsize40 aaa bbb}c").lines(0), 2);
    }

    /** Whether it can be broken at one more place: trying is for 12 at most. */
    private static void place(boolean can, String ahead, String items) {
        String text = "\\hsize1000 " + ahead + items + "a";
        Catcodia x = of(text);
        due("error of " + text, x.error(), 0);
        due("more than 12 places in " + text, x.demeritsByTrying(0) == Catcodia.NONE ? 1 : 0, can ? 1 : 0);
    }

    private static void places() {
        place(false, TWELVE, "");
        place(true, TWELVE, "a ");
        place(true, TWELVE, "\\hbox{}\\hskip1 ");
        place(true, TWELVE, "\\vbox{}\\hskip1 ");
        place(true, TWELVE, "\\raise1\\hbox{}\\hskip1 ");
        place(true, TWELVE, "\\rule1 1 1 \\hskip1 ");
        place(true, TWELVE, "a\\leaders\\hbox{}\\hskip1 ");
        place(false, ELEVEN, "\\-");
        place(true, TWELVE, "\\-");
        place(true, ELEVEN, "\\-\\hskip1 ");
        place(false, TWELVE, "\\kern1 \\hskip1 ");
        place(false, TWELVE, "a\\kern1 ");
        place(false, TWELVE, "\\mark{}\\hskip1 ");
        place(false, TWELVE, "\\insert{}\\hskip1 ");
        place(false, ELEVEN, "a\\hskip1 \\hskip1 ");
        place(false, TWELVE, "\\penalty10000 \\hskip1 ");
        place(false, TWELVE, "\\penalty10000 ");
        place(false, TWELVE, "\\penalty20000 ");
        place(true, TWELVE, "\\penalty9999 ");
        place(true, TWELVE, "\\penalty0 ");
        place(true, TWELVE, "\\penalty-10000 ");
        place(false, ELEVEN, "\\penalty0 \\hskip1 ");
        place(false, TWELVE, "\\mark{}\\insert{}\\kern1 \\hbox{}\\rule1 1 1 ");
        // \hyphpen does not matter
        place(true, "\\hyphpen10000 " + TWELVE, "\\-");
        // a glue behind the indent box
        place(true, "\\hskip1 " + TWELVE, "");
        // 40 places at most, the end not counted
        error(0, "\\hsize9999 a" + times(40, " a"));
        error(10, "\\hsize9999 a" + times(41, " a"));
        error(0, "\\hsize9999 a" + times(40, "\\-"));
        error(10, "\\hsize9999 a" + times(41, "\\-"));
        error(0, "\\hsize9999 a" + times(40, "\\penalty9 "));
        error(10, "\\hsize9999 a" + times(41, "\\penalty9 "));
        error(0, "\\hsize9999 a" + times(40, " a") + " ");
        due("paragraphs", of("\\hsize9999 a\\par a" + times(41, " a")).paragraphs(), 1);
        // those that patterns put in count, when they are tried
        String word = "\\patterns{b1c}\\hsize9999 a" + times(38, " a");
        error(0, word + " abcde abcde");
        error(0, "\\tol-1 " + "\\patterns{b1c}\\hsize9999 a" + times(36, " a") + " abcde abcde");
        error(10, "\\tol-1 " + word + " abcde abcde");
        due("tried with hyphens", of("\\tol-1 \\patterns{b1c}\\hsize9999 a" + times(10, " a") + " abcde").demeritsByTrying(0), 100);
        due("tried with hyphens", of("\\tol-1 \\patterns{b1c}\\hsize9999 a" + times(11, " a") + " abcde").demeritsByTrying(0),
            Catcodia.NONE);
        due("tried without", of("\\patterns{b1c}\\hsize9999 a" + times(11, " a") + " abcde").demeritsByTrying(0), 100);
    }

    private static void linesThatCome() {
        String vbox = "\\setbox0\\vbox{\\hsize40 ";
        // without glue, kerns and penalties at the beginning; marks and insertions do not end that
        kinds("2" + "11000" + "64" + "100064", -1, vbox + "aaa\\penalty-10000 \\hskip1 \\kern1 \\penalty5 bbb}");
        kinds("2" + "11000" + "64" + "100064" + "89", -1, vbox + "aaa\\penalty-10000 \\hskip1 \\mark{}\\kern1 \\insert{}\\penalty5 bbb}");
        kinds("2" + "11000" + "64" + "174064", -1, vbox + "aaa\\penalty-10000 \\-\\hskip5 b}");
        kinds("2" + "11000" + "64" + "114064", -1, vbox + "aaa\\penalty-10000 \\hbox{}\\hskip5 b}");
        kinds("2" + "11000" + "64" + "134064", -1, vbox + "aaa\\penalty-10000 \\rule0 0 0 \\hskip5 b}");
        // of the first line the indent box is the beginning
        kinds("2" + "1145064", -1, vbox + "\\hskip1 \\kern1 b}");
        // a glue or penalty at which it is broken is in no line, a hyphen is the character 45
        kinds("2" + "11000" + "64" + "100064", -1, vbox + "aaa bbb}");
        signs("aaabbb", -1, vbox + "aaa bbb}");
        kinds("2" + "11000" + "64" + "100064", -1, "\\setbox0\\vbox{\\hsize37 aa\\-bbb}");
        item("\\setbox0\\vbox{\\hsize37 aa\\-bbb}", -1, 5, 0, 7, 7, 2, 45, 2, 0);
        signs("aa-bbb", -1, "\\setbox0\\vbox{\\hsize37 aa\\-bbb}");
        // where it is not broken it stays a hyphen
        kinds("2" + "11007" + "00064", -1, "\\setbox0\\vbox{aa\\-bbb}");
        // what stands behind a glue ahead of a break is in the line
        kinds("2" + "110004" + "64" + "100064", -1, vbox + "aaa\\hskip0 \\penalty-10000 bbb}");
        // a penalty of -10000 or below has to be a break, also that of a hyphen
        due("lines", of("a\\penalty-10000 b\\penalty-10000 c").lines(0), 3);
        due("lines", of("a\\penalty-9999 b").lines(0), 1);
        due("lines", of("\\hyphpen-10000 a\\-b").lines(0), 2);
        due("lines", of("\\hyphpen-20000 a\\-b").lines(0), 2);
        due("lines", of("\\hyphpen-9999 \\tol9999 a\\-b").lines(0), 1);
        due("lines", of("a\\penalty-10000 \\penalty-10000 b").lines(0), 3);
        kinds("2" + "110" + "64" + "1" + "64" + "1064", -1, "\\setbox0\\vbox{a\\penalty-10000 \\penalty-10000 b}");
        // the penalty 50 behind the first one, and behind the last but one
        String line = "\\hsize10 \\indent0 \\setbox0\\vbox{a";
        kinds("2" + "11064", -1, line + "}");
        kinds("2" + "110" + "64" + "1064", -1, line + " a}");
        kinds("2" + "110" + "64" + "10" + "64" + "1064", -1, line + " a a}");
        kinds("2" + "110" + "64" + "10" + "4" + "10" + "64" + "1064", -1, line + " a a a}");
        kinds("2" + "110" + "64" + "10" + "4" + "10" + "4" + "10" + "64" + "1064", -1, line + " a a a a}");
        item(line + " a}", -1, 4, 6, 0, 0, 0, 50, 1, 0);
        // behind each line its insertions and marks, then that penalty
        kinds("2" + "110" + "8964" + "10" + "864" + "1064" + "98", -1,
            line + "\\mark{}\\insert{}\\penalty0 a\\mark{}\\penalty0 a\\insert{}\\mark{}}");
        kinds("2" + "110" + "64" + "1064" + "8", -1, line + " \\mark{}a}");
        kinds("2" + "110" + "864" + "1064", -1, line + "\\mark{}\\penalty-1000 a}");
        // lines are \hsize wide
        item(line + " a}", -1, 1, 1, 10, 7, 0, 0, 1, 0);
        item("\\hsize-5 \\setbox0\\vbox{a}", -1, 1, 1, -5, 7, 0, 1000000, 1, 0);
        // glue of \base between them
        item(line + " a}", -1, 5, 4, 0, 0, 0, 5, 1, 0);
    }

    /** A line of a paragraph that is 2000 wide: so much is stretched or shrunk, of 1000. */
    private static String line(int excess) {
        return "b\\hskip" + (1996 - excess) + "plus1000minus1000 \\penalty-10000 ";
    }

    private static int badness(int excess) {
        long r = Math.abs(excess);
        return (int) (r * r * r / 10000000);
    }

    /** Two lines with these fitnesses, and a last one, whose fitness is 1. */
    private static void fitness(int excess, int fit, int secondExcess, int second) {
        String text = "\\hsize2000 \\indent0 " + line(excess) + line(secondExcess) + "b";
        long a = 10 + badness(excess);
        long b = 10 + badness(secondExcess);
        long sum = a * a + b * b + 100 + (Math.abs(fit - second) > 1 ? 3000 : 0) + (Math.abs(second - 1) > 1 ? 3000 : 0);
        due("demerits of " + text, of(text).demerits(0), sum);
        due("demerits by trying of " + text, of(text).demeritsByTrying(0), sum);
    }

    private static void demerits() {
        int[] excess = {-1000, -507, -506, -1, 0, 1, 506, 507, 999, 1000, 1500};
        int[] fit = {0, 0, 1, 1, 1, 1, 1, 2, 2, 3, 3};
        for (int i = 0; i < excess.length; i++) {
            for (int k = 0; k < excess.length; k++) fitness(excess[i], fit[i], excess[k], fit[k]);
        }
        // the fitness of the first line has none ahead of it
        paragraph("\\hsize2000 \\indent0 " + line(1500) + "b", 0, 2, 347L * 347 + 100 + 3000, 347L * 347 + 100 + 3000);
        // a line without anything is 10000 bad
        paragraph("\\hsize2000 \\indent0 " + line(0), 0, 2, 100 + 10010L * 10010 + 3000, 100 + 10010L * 10010 + 3000);
        // stretched by 1 of 1, and shrunk
        paragraph("\\hsize20 \\indent0 b\\hskip15plus1\\penalty-10000 b", 0, 2, 110 * 110 + 100 + 3000, 15200);
        paragraph("\\hsize20 \\indent0 b\\hskip17minus1\\penalty-10000 b", 0, 2, 110 * 110 + 100, 12200);
        // \linepen and the BADNESS together, squared
        paragraph("\\linepen0 a", 0, 1, 0, 0);
        paragraph("\\linepen-10 a", 0, 1, 100, 100);
        paragraph("\\linepen1000000 a", 0, 1, 1000000000000L, 1000000000000L);
        paragraph("\\hsize2000 \\indent0 \\linepen-100 " + line(1000) + "b", 0, 2, 10000 + 3000, 13000);
        // the BADNESS is 10000 at most
        paragraph("\\hsize5 aaa", 0, 1, 10010L * 10010, 10010L * 10010);
        paragraph("\\hsize5 \\linepen-10000 aaa", 0, 1, 0, 0);
        // the square of the penalty: added above 0, taken off below 0, not counted at -10000 and at the end
        String two = "\\hsize40 aaa\\penalty";
        paragraph(two + "1 bbb", 0, 2, 201, 201);
        paragraph(two + "-1 bbb", 0, 2, 199, 199);
        paragraph(two + "9999 bbb", 0, 2, 200 + 9999L * 9999, 200 + 9999L * 9999);
        paragraph(two + "-9999 bbb", 0, 2, 200 - 9999L * 9999, 200 - 9999L * 9999);
        paragraph(two + "-10000 bbb", 0, 2, 200, 200);
        paragraph(two + "0 bbb", 0, 2, 200, 200);
        String hyphen = "\\hsize37 aa\\-bbb";
        paragraph(hyphen, 0, 2, 200 + 2500, 2700);
        paragraph("\\hyphpen0 " + hyphen, 0, 2, 200, 200);
        paragraph("\\hyphpen-50 " + hyphen, 0, 2, 200 - 2500, -2300);
        paragraph("\\hyphpen10000 " + hyphen, 0, 2, 200 + 100000000, 100000200);
        paragraph("\\hyphpen-10000 " + hyphen, 0, 2, 200, 200);
        paragraph("\\hyphpen1000000 " + hyphen, 0, 2, 1000000000200L, 1000000000200L);
        paragraph("\\tol10000 \\hyphpen1000000 " + hyphen, 0, 1, 10010L * 10010, 10010L * 10010);
    }

    private static void passes() {
        // a BADNESS of \tol is enough: 30 of 40, with 10 that can be stretched, is 100
        String text = "\\patterns{b1c}\\hsize40 \\indent0 \\setbox0\\vbox{\\hskip0plus10 aaa bbcdd}";
        kinds("2" + "114000" + "64" + "10000064", -1, "\\tol100 " + text);
        kinds("2" + "114000" + "64" + "100700064", -1, "\\tol99 " + text);
        kinds("2" + "114000" + "64" + "10000064", -1, "\\tol99 " + text.replace("b1c", "b2c"));
        paragraph("\\tol99 " + text, 0, 2, 110 * 110 + 100 + 3000, 110 * 110 + 100 + 3000);
        // a line that is too wide has 10000 at most
        paragraph("\\tol10000 \\patterns{b1c}\\hsize31 abcde", 0, 1, 10010L * 10010, 10010L * 10010);
        paragraph("\\tol9999 \\patterns{b1c}\\hsize31 abcde", 0, 2, 2700, 2700);
        paragraph("\\tol0 \\patterns{b1c}\\hsize31 abcde", 0, 2, 2700, 2700);
        // none at all: all rows are looked at, with hyphens
        kinds("2" + "1100700064", -1, "\\tol-1 \\patterns{b1c}\\setbox0\\vbox{abcde}");
        kinds("2" + "110000064", -1, "\\tol0 \\patterns{b1c}\\setbox0\\vbox{abcde}");
        paragraph("\\tol-1 abcde", 0, 1, 100, 100);
        paragraph("\\tol-1000000 a a a", 0, 1, 100, 100);
        paragraph("\\tol1000000 \\hsize1 abc", 0, 1, 10010L * 10010, 10010L * 10010);
        // a row beyond \tol is not looked at, though its sum is less
        String cheaper = "\\hsize100 \\indent0 b\\kern86 \\hskip0plus10\\penalty0 \\kern10 \\penalty1000 b";
        paragraph("\\tol99 " + cheaper, 0, 2, 1000200, 1000200);
        paragraph("\\tol100 " + cheaper, 0, 2, 110 * 110 + 100 + 3000, 15200);
        // none is within \tol, though the sum up to the last place is below 0
        paragraph("\\hsize20 \\indent0 \\tol0 \\linepen0 b\\rule16 1 1 \\penalty-200 \\rule30 1 1 ", 0, 2, 99960000, 99960000);
        // 2 lines, and 3 of which the first one is broken later, have the least sum
        String early = "\\hsize20 \\indent0 \\linepen0 b\\rule6 1 1 \\penalty10000 \\hskip0plus1f\\penalty0 \\kern15 \\rule-20 1 1 "
            + "\\penalty10000 \\hskip0plus1f\\penalty0 \\rule20 1 1 \\penalty0 \\rule20 1 1 ";
        paragraph(early, 0, 2, 0, 0);
        kinds("22" + "110364" + "64" + "1364636364", 0, early);
        // the end of a paragraph has no penalty, whatever the one ahead had
        due("demerits", of("a\\penalty100 b\\penalty100 c\\par a").demerits(1), 100);
        due("demerits", of("a\\penalty100 b\\penalty100 c\\par a\\penalty10 b").demerits(1), 100);
        // each paragraph has its own
        Catcodia both = of("a\\par\\linepen1 a\\par\\linepen2 a");
        due("demerits by trying 0", both.demeritsByTrying(0), 100);
        due("demerits by trying 1", both.demeritsByTrying(1), 1);
        due("demerits by trying 2", both.demeritsByTrying(2), 4);
        // the least sum, of several one with fewer lines
        due("lines", of("\\linepen0 a\\hskip0plus1f\\penalty0 b\\hskip0plus1f\\penalty0 c").lines(0), 1);
        due("lines", of("\\linepen1 a\\hskip0plus1f\\penalty0 b\\hskip0plus1f\\penalty0 c").lines(0), 1);
        due("lines", of("\\linepen1 a\\hskip0plus1f\\penalty-1 b\\hskip0plus1f\\penalty-1 c").lines(0), 1);
        due("lines", of("\\linepen1 a\\hskip0plus1f\\penalty-2 b\\hskip0plus1f\\penalty-1 c").lines(0), 2);
        due("lines", of("\\linepen1 a\\hskip0plus1f\\penalty-2 b\\hskip0plus1f\\penalty-2 c").lines(0), 3);
    }

    /** The least sum is that which is found by trying all breaks, whatever the paragraph is. */
    private static void tried() {
        String[] parts = {"a", "bc", "def ", "gh ", "\\-", "\\penalty-50 ", "\\penalty90 ", "\\kern-30 ", "\\kern9 ", "\\rule30 1 1 ",
            "\\hskip5plus9minus3 ", "\\hskip0plus1f", "\\hskip0plus-1f", "\\penalty-10000 "};
        int seed = 1;
        for (int n = 0; n < 500; n++) {
            StringBuilder text = new StringBuilder("\\hsize60 \\hyphpen-9 \\tol" + (n % 3 == 0 ? 10000 : n % 3 * 60) + " \\loose" + (n % 5 - 2) + " ");
            for (int k = 0; k < 16; k++) {
                seed = seed * 1103515245 + 12345;
                text.append(parts[(seed >>> 16) % parts.length]);
            }
            Catcodia x = of(text.toString());
            for (int k = 0; k < x.paragraphs(); k++) {
                long least = x.demeritsByTrying(k);
                if (least != Catcodia.NONE) due("demerits " + k + " of " + text, x.demerits(k), least);
            }
        }
    }

    private static void loosely() {
        // 1, 2 and 3 lines of no BADNESS
        String three = "a\\hskip0plus1f\\penalty0 b\\hskip0plus1f\\penalty0 c";
        int[] loose = {-1000000, -1, 0, 1, 2, 3, 1000000};
        int[] lines = {1, 1, 1, 2, 3, 3, 3};
        for (int i = 0; i < loose.length; i++) {
            String text = "\\loose" + loose[i] + " " + three;
            paragraph(text, 0, lines[i], 100 * lines[i], 100 * lines[i]);
        }
        // of two that are left the one whose first line is broken later
        signs("abc", 0, "\\loose1 " + three);
        kinds("22" + "1104604" + "64" + "1064", 0, "\\loose1 " + three);
        kinds("22" + "110460" + "64" + "1064", 0, "\\loose1 " + three.replace("0 c", "1 c"));
        kinds("22" + "1104" + "64" + "105466064", 0, "\\loose1 " + three.replace("\\penalty0 c", "\\penalty5 \\penalty9 c").replace("b\\hskip0plus1f", "b\\kern0 \\hskip0plus1f"));
        // 1 or 3 lines alone: of two as near the smaller one
        String gap = "\\indent0 \\hskip0plus1f\\kern-50 \\penalty0 b\\kern96 \\hskip0plus-1f\\penalty0 b";
        paragraph(gap, 0, 1, 100, 100);
        paragraph("\\loose1 " + gap, 0, 1, 100, 100);
        paragraph("\\loose2 " + gap, 0, 3, 300, 300);
        paragraph("\\loose9 " + gap, 0, 3, 300, 300);
        paragraph("\\loose-1 " + gap, 0, 1, 100, 100);
        // 3 lines have the least sum here, and 2 are not possible
        String dear = gap.replace("\\penalty0", "\\penalty-20");
        paragraph(dear, 0, 3, 300 - 800, -500);
        paragraph("\\loose-1 " + dear, 0, 1, 100, 100);
        paragraph("\\loose-2 " + dear, 0, 1, 100, 100);
        paragraph("\\loose1 " + dear, 0, 3, -500, -500);
        // only rows within the same limit
        String wide = "\\hsize100 a a a";
        paragraph("\\loose1 " + wide, 0, 1, 100, 100);
        due("lines", of("\\loose1 \\tol10000 " + wide).lines(0), 2);
        due("lines", of("\\loose1 \\tol-1 " + wide).lines(0), 2);
    }

    /** Where hyphens are put in the letters of a word, when all are tried. */
    private static void hyphened(String want, String patterns, String word) {
        Catcodia x = of("\\tol-1 \\hsize1000 \\patterns{" + patterns + "}\\setbox0\\vbox{" + word + "}");
        String got = "";
        for (int i = 3; i < x.items(-1) - 2; i++) {
            int kind = x.item(-1, i, 0);
            got += kind == Catcodia.CHARACTER ? "" + (char) x.item(-1, i, 4) : kind == Catcodia.HYPHEN ? "-" : "_";
        }
        due(word + " by " + patterns + " is " + got + " and not " + want, got.equals(want) ? 1 : 0, 1);
    }

    private static void hyphens() {
        hyphened("ab-cde", "b1c", "abcde");
        hyphened("abcde", "", "abcde");
        hyphened("abcde", " ", "abcde");
        hyphened("abcde", "b1d", "abcde");
        // 5 letters or more
        hyphened("abcd", "1a1b1c1d1", "abcd");
        hyphened("ab-cde", "1a1b1c1d1e1", "abcde");
        hyphened("ab-c-def", "1a1b1c1d1e1f1", "abcdef");
        hyphened("ab-c-d-efg", "1a1 1b1 1c1 1d1 1e1 1f1 1g1", "abcdefg");
        // in small letters
        hyphened("AB-CDE", "b1c", "ABCDE");
        hyphened("aB-cDe", "b1c", "aBcDe");
        // each longest row of letters; hyphens are passed over in it, and nothing is put in where one is
        hyphened("ab-cde", "b1c", "ab\\-cde");
        hyphened("a-b-cde", "b1c", "a\\-bcde");
        hyphened("ab-cd-e", "b1c", "abcd\\-e");
        hyphened("_-ab-cde-", "b1c", "\\hskip0 \\-abcde\\-");
        hyphened("ab--cde", "b1c", "ab\\-\\-cde");
        hyphened("abcd-", "b1c", "abcd\\-");
        hyphened("ab_cde", "b1c", "ab\\kern0 cde");
        hyphened("ab_cde", "b1c", "ab\\hbox{}cde");
        hyphened("abcd1e", "b1c", "abcd1e");
        hyphened("ab-cde_ab-cde", "b1c", "abcde abcde");
        hyphened("ab-cde1ab-cde", "b1c", "abcde1abcde");
        hyphened("zz-zzz", "z1z", "zzzzz");
        hyphened("ZZ-ZZZ", "z1z", "ZZZZZ");
        hyphened("aA-Aaa", "a1a", "aAAaa");
        hyphened("AZ-ZZZ`AZ-ZZZ", "az1z 2z.", "AZZZZ`AZZZZ");
        hyphened("aa-aaa[aa-aaa", "a1a", "aaaaa[aaaaa");
        hyphened("aa-aaa@aa-aaa", "a1a", "aaaaa@aaaaa");
        hyphened("aa-aaa`aa-aaa", "a1a", "aaaaa`aaaaa");
        hyphened("aaa`aa", "a1a", "aaa`aa");
        hyphened("aaa[aa", "a1a", "aaa[aa");
        hyphened("aaa@aa", "a1a", "aaa@aa");
        // what is no character is no letter, whatever its number is
        hyphened("xab_cde", "b1a", "xab\\kern97 cde");
        hyphened("xab_cde", "b1a", "xab\\penalty97 cde");
        // a digit belongs to its own pattern, which may have no letters
        hyphened("abcde", "z1 c", "abcde");
        hyphened("abcde", "1z 1 2", "abcde");
        hyphened("ab-cde", "1", "abcde");
        // . ahead and behind
        hyphened("ab-cde", ".ab1c", "abcde");
        hyphened("abcde", ".b1c", "abcde");
        hyphened("abcde", "cd", "abcde");
        hyphened("abcde", "b cd e", "abcde");
        hyphened("dbcde", "q ab1c", "dbcde");
        hyphened("db-cde", "q db1c", "dbcde");
        hyphened("ab-cde", "b1cde.", "abcde");
        hyphened("abcde", "b1cd.", "abcde");
        hyphened("ab-cde", ".ab1cde.", "abcde");
        hyphened("abcde", ".ab1cdef.", "abcde");
        hyphened("abcde", "..ab1c", "abcde");
        hyphened("xab-cde1abcde", "xab1c", "xabcde1abcde");
        // the greatest digit of a place, if it is odd
        hyphened("abcde", "b1c b2c", "abcde");
        hyphened("abcde", "b2c b1c", "abcde");
        hyphened("ab-cde", "b1c b2c b3c", "abcde");
        hyphened("ab-cde", "b9c b8c", "abcde");
        hyphened("abcde", "b0c", "abcde");
        hyphened("abcde", "bc", "abcde");
        hyphened("ab-cde", "1c b0c ab", "abcde");
        hyphened("abcde", "1c b2", "abcde");
        // the last digit, if several follow one another
        hyphened("abcde", "b12c", "abcde");
        hyphened("ab-cde", "b21c", "abcde");
        hyphened("ab-cde", "b1111c", "abcde");
        hyphened("abcde", "b10c", "abcde");
        // 2 letters ahead, 3 behind
        hyphened("abcde", "a1b c1d d1e", "abcde");
        hyphened("abc-def", "a1b c1d d1e e1f", "abcdef");
        // patterns are added, and those of all groups stay
        hyphened("ab-c-def", "b1c}\\patterns{c1d", "abcdef");
        hyphened("ab-cde", "}{\\patterns{b1c}}\\patterns{", "abcde");
        hyphened("ab-cde", "}\\vbox{\\patterns{b1c}}\\patterns{", "abcde");
        hyphened("ab-cde", "  b1c  ", "abcde");
        hyphened("ab-cde", "b1c\n", "abcde");
        for (String wrongOne : new String[] {"A", "aB", "-", "a-b", "\\x", "\\relax", "~", "#", "&", "{}", "{a}", "a\n\nb", "="}) {
            error(6, "\\patterns{" + wrongOne + "}");
        }
        error(0, "\\patterns{}\\patterns{ }\\patterns{.}\\patterns{1}\\patterns{a.b9}");
        // of whatever class the letters are
        hyphened("ab-cde", "}\\let\\k\\class\\k`\\c=6 \\k`\\d=6 \\patterns{b1c", "abcde");
        hyphened("ab-cde", "b1c}\\let\\k\\class\\k`\\c=6 \\k`\\d=6 \\relax{", "abcde");
    }

    private static void full() {
        // a list of 2000 items with its penalty and its glue; the lines are boxes of their own
        String k = "\\def\\t#1{#1#1#1#1#1#1#1#1#1#1}\\def\\k{\\kern0 }\\setbox1\\hbox{\\t{\\t\\k}}\\def\\c{\\setbox2\\copy1 \\pour2 }"
            + "\\def\\n{\\c\\c\\c\\c\\c\\c\\c\\c\\c}";
        // the indent box, a b, 900, a penalty, a b, 1000, and 94 more
        String most = "\\vsize7 \\base0 " + k + "b\\n\\penalty-10000 b\\n\\c\\t{\\k\\k\\k\\k\\k\\k\\k\\k\\k}\\k\\k\\k\\k";
        String end = "\\par\\penalty0 ";
        error(0, most + end);
        error(0, most + " " + end);
        error(10, most + "\\k" + end);
        error(10, most + "\\k " + end);
        error(10, most + "\\hskip0 \\hskip0 " + end);
        due("lines", of(most + end).lines(0), 2);
        due("paragraphs", of(most + "\\k" + end).paragraphs(), 0);
        // many paragraphs: 2 and 1 and 7 times 211 steps, and 20 more
        String many = "\\vsize1000000 \\def\\t#1{#1#1#1#1#1#1#1#1#1#1}\\t{\\t{\\t{a\\par}}}";
        error(10, many);
        due("paragraphs", of(many).paragraphs(), 709);
        due("lines", of(many).lines(708), 1);
        due("demerits", of(many).demerits(708), 100);
        due("demerits by trying", of(many).demeritsByTrying(708), 100);
        // the box of a line has 2000 with itself; hyphens that patterns put in count in it alone
        String one = k + "b\\n\\n\\c\\t{\\k\\k\\k\\k\\k\\k\\k\\k\\k}";
        error(1, one + "\\k\\k\\k\\k\\k\\par\\x");
        error(10, one + "\\k\\k\\k\\k\\k\\k\\par\\x");
        error(1, "\\tol-1 \\patterns{b2c}" + one + "abcde\\par\\x");
        error(10, "\\tol-1 \\patterns{b1c}" + one + "abcde\\par\\x");
        error(1, "\\tol-1 \\patterns{b1c}" + one + "abcd\\par\\x");
        error(1, "\\patterns{b1c}" + one + "abcde\\par\\x");
        due("paragraphs", of("\\tol-1 \\patterns{b1c}" + one + "abcde\\par\\x").paragraphs(), 1);
    }

    public static void main(String[] args) {
        ends();
        places();
        linesThatCome();
        demerits();
        passes();
        tried();
        loosely();
        hyphens();
        full();
        end();
    }
}
