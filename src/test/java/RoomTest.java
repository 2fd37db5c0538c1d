import java.lang.management.ManagementFactory;

/** All that the calls of one object make, whatever the documents are, stays below one room. */
public final class RoomTest {
    /** 7.3 million fields and elements, each of four bytes at least. */
    private static final long ROOM = 4L * 7300000;
    private static final String TEN = "\\def\\b#1{#1#1#1#1#1#1#1#1#1#1}";
    private static int wrong = 0;
    private static int calls = 0;

    private static void run(Catcodia x, String text, int error) {
        int at = 0;
        while (at < text.length()) {
            int n = Math.min(8, text.length() - at);
            long signs = 0;
            for (int i = n - 1; i >= 0; i--) signs = signs << 8 | text.charAt(at + i);
            x.feed(signs, n);
            at += n;
            calls++;
        }
        int got = x.error();
        x.cut(text.length());
        calls += 2;
        if (got == error) return;
        wrong++;
        System.out.println("error of " + text + " answered " + got + ", due is " + error);
    }

    /** The documents that the issue tells: tokens that are to be read, tokens that are kept, signs of NAMEs. */
    private static void tokensAndNames(Catcodia x) {
        run(x, "\\edef\\b{\\a\\a\\a\\a\\a\\a\\a\\a\\a\\a}\\edef\\c{\\b\\b\\b\\b\\b\\b\\b\\b\\b\\b}\\edef\\a{\\c\\c\\c\\c\\c\\c}\\a", 10);
        run(x, TEN + "\\edef\\m{\\b{\\b{xxxxx}}\\b{xxxxxxxxx}}\\edef\\a{\\toks0={\\m}\\a}\\a", 10);
        String name = TEN + "\\edef\\m{\\b{\\b{xxxxxx}}}\\csname";
        // each NAME is about half as long as the next one
        run(x, name + "\\m\\m\\m\\m\\m\\endcsname", 0);
        run(x, name + "\\b{\\m}\\endcsname", 0);
        run(x, name + "\\b{\\m\\m}\\endcsname", 0);
        run(x, name + "\\b{\\m\\m\\m\\m}\\endcsname", 0);
        run(x, name + "\\b{\\m\\m\\m\\m\\m\\m\\m\\m}\\endcsname", 0);
        run(x, name + "\\b{\\b{\\m\\m}}\\endcsname", 0);
        run(x, name + "\\b{\\b{\\m\\m\\m}}\\endcsname", 0);
        run(x, name + "\\b{\\b{\\m\\m\\m\\m\\m\\m\\m}}\\endcsname", 0);
        run(x, name + "\\b{\\b{\\b{\\m}}\\b{\\m\\m\\m}}\\endcsname", 0);
    }

    /** Tokens ahead of #1, and a TAIL with what comes instead of it, both of 80,000 tokens. */
    private static void parameters(Catcodia x) {
        String many = "\\edef\\x{\\b{\\b{xxxxx}}\\b{xxxxx}}\\let\\e\\expandafter"
            + "\\toks0{\\advance\\count0 by1 \\ifnum\\count0<140 \\e\\l\\else\\e\\z\\fi}\\edef\\l{\\the\\toks0 \\x}";
        run(x, TEN + many + "\\def\\z{\\def\\q}\\l{}\\count0 0 \\def\\z{\\q}\\l", 0);
        run(x, TEN + many + "\\def\\z{\\def\\q##1}\\l y{}\\count0 0 \\def\\z{\\q}\\l.", 10);
    }

    /** Patterns; 600 tokens of them take two steps. */
    private static void patterns(Catcodia x) {
        run(x, TEN + "\\edef\\m{\\b{\\b{ab c1d}}}\\def\\p{\\patterns\\expandafter{\\m}\\p}\\p", 10);
    }

    /** Items: 256 insertions of 512 items each for one page, and lines of one sign. */
    private static void items(Catcodia x) {
        String pour = "\\def\\p#1{\\setbox#1=\\vbox{\\setbox4\\copy#1\\pour4 \\setbox4\\copy#1\\pour4 }}";
        run(x, "\\setbox1\\vbox{\\kern0 \\kern0 }" + pour + "\\p1\\p1\\p1\\p1\\p1\\p1\\p1\\p1"
            + "\\setbox2\\vbox{a\\insert{\\pour1}}\\p2\\p2\\p2\\p2\\p2\\p2\\p2\\p2\\pour2\\end", 10);
        run(x, "\\hsize4 \\setbox1\\hbox{a\\penalty-10000 }\\def\\p{\\setbox1\\hbox{\\setbox4\\copy1\\pour4 \\pour1 }}"
            + "\\p\\p\\p\\def\\q{\\setbox2\\hbox{\\copy1}\\setbox3\\copy1\\hskip0 \\pour3\\par\\q}\\q", 10);
    }

    public static void main(String[] args) {
        com.sun.management.ThreadMXBean threads =
            (com.sun.management.ThreadMXBean) ManagementFactory.getThreadMXBean();
        long id = Thread.currentThread().getId();
        run(new Catcodia(), "a", 0);
        calls = 0;
        long before = threads.getThreadAllocatedBytes(id);
        Catcodia x = new Catcodia();
        tokensAndNames(x);
        parameters(x);
        patterns(x);
        items(x);
        long made = threads.getThreadAllocatedBytes(id) - before;
        System.out.println(calls + " calls made " + made + " bytes");
        if (calls > 512) System.out.println("these are more than 512 calls");
        if (made > ROOM) System.out.println("that is more than " + ROOM);
        if (wrong != 0 || calls > 512 || made > ROOM) System.exit(1);
    }
}
