/** One object that is told another document answers as a new one does, however the run of the first one ended. */
public final class AgainTest extends Asking {
    private static final String[] DOCUMENTS = {
        "", "a", "a b\\par c", "\\setbox0", "\\global", "\\global\\setbox1=", "\\leaders\\hbox{a}", "\\hbox{\\raise5 ",
        "{{{", "{\\count1=5 \\hsize=7 {\\class97=7 ", "\\count1=5 \\hsize=7 \\class97=7 \\skip1=1plus2ff", "\\ifnum1=1 a",
        "\\ifnum1=2 \\else", "\\fi", "\\vbox{a\\hbox{b", "\\def\\foo{x}\\foo\\bar", "\\let\\foo=a\\def~{b}\\foo~\\csname x\\endcsname",
        "\\foo", "~", "\\csname foo\\endcsname", "\\noexpand", "\\noexpand\\fi", "\\expandafter\\noexpand\\fi", "\\toks1{a{b}}\\the\\toks1",
        "\\the\\toks1", "\\output{\\shipout\\box9 }\\hbox{a}", "\\output{\\x}\\hbox{}\\penalty-10000 ", "\\hbox{}\\penalty-10000 a",
        "\\output{\\shipout\\box9 {}\\hbox{}", "\\output{\\shipout\\box9 {\\iffalse}\\hbox{}", "\\output{\\hbox{}\\end}\\hbox{}",
        "\\align{#&#\\cr a&\\hbox{b", "\\align{#\\cr a\\cr\\x}", "\\vbox{\\align{#\\cr\\vbox{\\align{#\\cr\\x}}}}", "\\align{#\\cr abc\\cr}",
        "\\setbox0\\vbox{\\align{#\\cr a\\cr}}", "\\patterns{a1b}\\tol-1 abababa", "\\tol-1 abababa",
        "\\vsize20 \\insert{\\rule1 30 0 }\\rule1 1 1 \\penalty-10000 \\x", "\\vsize20 \\insert{\\rule1 5 0 }\\rule1 1 1 \\x",
        "\\vsize20 \\rule1 20 0 \\penalty0 \\rule1 20 0 \\x", "\\vsize20 \\rule1 20 0 \\penalty0 \\rule1 20 0 \\penalty0 \\x",
        "\\rule1 1 1 \\vskip5 \\rule1 1 1 ", "\\hbox{a}\\x", "\\hbox{a}", "\\mark{ab}\\hbox{}\\penalty-10000 \\x",
        "\\setbox0\\hbox{\\firstmark\\botmark}", "\\vskip5 \\hbox{a}", "a\\vskip\\x", "a\\align\\x", "\\count\\count\\count\\x",
        "\\def\\x#1.{}\\x{aa", "\\shipout\\hbox{a}\\shipout\\vbox{b}\\x", "\\setbox3\\hbox{a}\\setbox4\\box3 \\x",
        "\\setbox1\\hbox{aaaaa}\\hbox{\\pour1 }\\x", "\\loose1 \\tol10000 aa bb cc", "\\hsize20 aa\\penalty100 bb\\penalty100 cc\\par dd\\x",
        "\\vsize7 \\base0 \\hsize10 \\indent0 \\output{\\shipout\\box9 \\x}a a a\\vskip5 ",
        "\\vsize7 \\base0 \\hsize10 \\indent0 a a a\\vskip5 \\hbox{a}", "\\def\\x{\\x}\\x",
        "\\output{\\shipout\\box9 }\\vsize1 \\insert{\\rule1 9 0 }\\end", "\\output{\\box9 }\\hbox{}",
        "\\toks1{ab}\\setbox0\\hbox{\\firstmark\\botmark}", "{\\count1=6 \\hsize=9 {\\class97=8 }}", "{\\def\\kern{a}\\let\\foo=b",
        "{\\def\\kern{b}\\let\\foo=b}\\kern1 \\foo", "\\count0=" + times(39, "\\count") + "0 ",
        "\\count0=" + times(40, "\\count") + "0 ", "\\def\\x.{}\\hskip-\\x", "\\hskip-", times(15, "a ") + "\\par b",
        "\\def\\t#1{#1#1#1#1#1#1#1#1#1#1}\\setbox1\\vbox{\\t{\\t{\\kern0 }}}\\def\\c{\\t{\\setbox2\\copy1\\pour2 }}\\c\\c\\c",
    };

    /** What is asked of a document; some 400 calls at most. */
    private static String told(Catcodia x) {
        StringBuilder all = new StringBuilder();
        all.append(x.error()).append(' ').append(x.steps()).append(" classes");
        for (int code : new int[] {1, 10, 32, 35, 92, 97, 126, 127}) all.append(' ').append(x.classOf(code));
        all.append(" registers");
        for (int n = 0; n < 5; n++) for (int what = 0; what < 10; what++) all.append(' ').append(x.register(what, n));
        for (int which = 0; which < 8; which++) all.append(' ').append(x.parameter(which));
        all.append(" boxes ").append(x.pages());
        for (int page = -10; page < x.pages(); page++) {
            int items = x.items(page);
            all.append(" / ").append(items);
            for (int i = 0; i < items && i < 9; i++) all.append(' ').append(x.item(page, i, 0)).append(' ').append(x.item(page, i, 4));
            if (page > 2) break;
        }
        all.append(" paragraphs ").append(x.paragraphs());
        for (int k = 0; k < x.paragraphs(); k++) {
            all.append(' ').append(x.lines(k)).append(' ').append(x.demerits(k)).append(' ').append(x.demeritsByTrying(k));
        }
        return all.toString();
    }

    public static void main(String[] args) {
        for (String second : DOCUMENTS) {
            String want = told(of(second));
            due("the same when asked again of " + second, told(of(second)).equals(want) ? 1 : 0, 1);
            for (String first : DOCUMENTS) {
                Catcodia x = of(first);
                x.error();
                x.cut(first.length());
                tell(x, second);
                String got = told(x);
                due(first + " and then " + second + " tells " + got + " and not " + want, got.equals(want) ? 1 : 0, 1);
            }
        }
        // an alignment that was not ended leaves nothing behind, however often
        Catcodia often = new Catcodia();
        String open = "\\align{#\\cr\\x}";
        for (int i = 0; i < 60; i++) {
            tell(often, open);
            due("error of " + open + " again", often.error(), 1);
            often.cut(open.length());
        }
        // what stays is run with what comes
        for (String text : DOCUMENTS) {
            Catcodia x = of(text);
            x.error();
            x.cut(text.length() / 2);
            x.error();
            tell(x, text.substring(text.length() - text.length() / 2));
            String want = told(of(text));
            due("cut and told again " + text, told(x).equals(want) ? 1 : 0, 1);
        }
        end();
    }
}
