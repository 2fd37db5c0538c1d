/** The calls of the face: what they refuse, that refused ones change nothing, and what they answer at the edges. */
public final class CallsTest extends Asking {
    private static final Class<?> ARGUMENT = IllegalArgumentException.class, STATE = IllegalStateException.class,
        BOUNDS = IndexOutOfBoundsException.class;
    private static final int[] FAR = {Integer.MIN_VALUE, -1000000000, 1000000000, Integer.MAX_VALUE};

    /** All that can be asked of an object, as one text. */
    private static String all(Catcodia x) {
        StringBuilder b = new StringBuilder();
        b.append(x.error()).append(' ').append(x.steps()).append(' ').append(x.pages()).append(' ').append(x.paragraphs());
        for (int code = 1; code <= 127; code++) b.append(' ').append(x.classOf(code));
        for (int what = 0; what <= 9; what++) {
            for (int n = 0; n <= 9; n++) b.append(' ').append(x.register(what, n));
        }
        for (int which = 0; which <= 7; which++) b.append(' ').append(x.parameter(which));
        for (int page = -10; page < x.pages(); page++) {
            b.append(" :").append(x.items(page));
            for (int i = 0; i < x.items(page); i++) {
                for (int what = 0; what <= 6; what++) b.append(' ').append(x.item(page, i, what));
            }
        }
        for (int p = 0; p < x.paragraphs(); p++) {
            b.append(" .").append(x.lines(p)).append(' ').append(x.demerits(p)).append(' ').append(x.demeritsByTrying(p));
        }
        return b.toString();
    }

    private static void same(String what, String got, String want) {
        due(what + " is as it was", got.equals(want) ? 1 : 0, 1);
    }

    private static void feeding() {
        for (int n : new int[] {0, -1, 9, 64}) refused("feed of " + n, ARGUMENT, () -> new Catcodia().feed(0x61, n));
        for (int n : FAR) refused("feed of " + n, ARGUMENT, () -> new Catcodia().feed(0x61, n));
        for (int i = 0; i < 8; i++) {
            long clear = 0x6161616161616161L & ~(255L << 8 * i);
            refused("feed with a sign 0 at " + i, ARGUMENT, () -> new Catcodia().feed(clear, 8));
            long high = clear | 128L << 8 * i;
            refused("feed with a sign 128 at " + i, ARGUMENT, () -> new Catcodia().feed(high, 8));
            if (i > 0) {
                int n = i;
                due("what is above the lowest signs is not looked at", new Catcodia().feed(clear, n), n);
            }
        }
        for (long code : new long[] {0, 128, 129, 254, 255}) {
            refused("feed of the sign " + code, ARGUMENT, () -> new Catcodia().feed(code, 1));
        }
        for (long code : new long[] {1, 2, 126, 127}) due("feed of the sign " + code, new Catcodia().feed(code, 1), 1);
        due("feed of all signs 127", new Catcodia().feed(0x7F7F7F7F7F7F7F7FL, 8), 8);
        due("feed of all signs 1", new Catcodia().feed(0x0101010101010101L, 8), 8);
        due("feed of one sign below 0 as a long", new Catcodia().feed(-256L | 97, 1), 1);
        // the lowest sign comes first
        due("the first sign", of("\\count0=`").feed(0x6261, 2), 11);
        Catcodia x = of("\\count0=`");
        x.feed(0x6261, 2);
        due("the first sign", x.register(0, 0), 'a');
    }

    private static void full() {
        Catcodia x = of(times(480, "%"));
        due("480 signs", x.cut(0), 480);
        for (int n = 1; n <= 8; n++) {
            int m = n;
            refused("feed of " + n + " beyond 480", STATE, () -> x.feed(0x6161616161616161L, m));
        }
        refused("feed of a 0 beyond 480", ARGUMENT, () -> x.feed(0, 1));
        refused("feed of 9 beyond 480", ARGUMENT, () -> x.feed(0x61, 9));
        due("480 signs stay", x.cut(0), 480);
        due("479", x.cut(1), 479);
        refused("two more than 479", STATE, () -> x.feed(0x6161, 2));
        due("one more than 479", x.feed(0x61, 1), 480);
        due("all cut away", x.cut(480), 0);
        due("and fed again", x.feed(0x61, 1), 1);
        // the 480 signs are all run
        due("steps of 480 signs", of(times(480, "a")).steps(), 480);
        due("steps of 479 signs and an ESCAPE", of(times(479, "{}").substring(0, 479) + "\\").error(), 1);
    }

    private static void cutting() {
        Catcodia x = new Catcodia();
        due("cut of nothing", x.cut(0), 0);
        refused("cut of a new one", ARGUMENT, () -> x.cut(1));
        refused("cut of -1", ARGUMENT, () -> x.cut(-1));
        for (int n : FAR) refused("cut of " + n, ARGUMENT, () -> x.cut(n));
        x.feed(0x636261, 3);
        refused("cut of 4", ARGUMENT, () -> x.cut(4));
        refused("cut of -1", ARGUMENT, () -> x.cut(-1));
        due("cut of 1", x.cut(1), 2);
        due("cut of 2", x.cut(2), 0);
        refused("cut of 1", ARGUMENT, () -> x.cut(1));
        // what was cut away is gone
        Catcodia y = of("\\count0=12\\count0=34");
        due("count", y.register(0, 0), 34);
        y.cut(10);
        due("count", y.register(0, 0), 12);
        y.feed(0x39, 1);
        due("count", y.register(0, 0), 129);
    }

    private static void asking() {
        String text = "\\setbox3\\vbox{\\hsize50 ab \\hbox{c}}\\hbox{d}\\skip2 1plus2f\\count4 7";
        String page = "\\hbox{d}ef\\par\\setbox9\\hbox{\\box9}";
        for (String t : new String[] {"", text, page, text + "\\x"}) {
            Catcodia x = of(t);
            String before = all(of(t));
            same(t, all(x), before);
            same(t + " asked twice", all(x), before);
        }
        int[] outOf = {0, -1, 128, 129, 1000};
        for (int code : outOf) refused("class of " + code, BOUNDS, () -> of(text).classOf(code));
        for (int n : FAR) {
            refused("class of " + n, BOUNDS, () -> of(text).classOf(n));
            refused("register " + n, ARGUMENT, () -> of(text).register(n, 0));
            refused("register of " + n, BOUNDS, () -> of(text).register(0, n));
            refused("parameter " + n, BOUNDS, () -> of(text).parameter(n));
            refused("items of " + n, BOUNDS, () -> of(page).items(n));
            refused("item of " + n, BOUNDS, () -> of(page).item(n, 0, 0));
            refused("item " + n, BOUNDS, () -> of(page).item(0, n, 0));
            refused("item's number " + n, ARGUMENT, () -> of(page).item(0, 0, n));
            refused("lines of " + n, BOUNDS, () -> of(page).lines(n));
            refused("demerits of " + n, BOUNDS, () -> of(page).demerits(n));
            refused("demerits by trying of " + n, BOUNDS, () -> of(page).demeritsByTrying(n));
        }
        for (int what = 0; what <= 9; what++) {
            int w = what;
            refused("register of 10", BOUNDS, () -> of(text).register(w, 10));
            refused("register of -1", BOUNDS, () -> of(text).register(w, -1));
        }
        refused("register 10 of 10", ARGUMENT, () -> of(text).register(10, 10));
        refused("register -1 of -1", ARGUMENT, () -> of(text).register(-1, -1));
        refused("parameter 8", BOUNDS, () -> of(text).parameter(8));
        refused("parameter -1", BOUNDS, () -> of(text).parameter(-1));
        due("class of 1", of(text).classOf(1), 6);
        due("class of 127", of(text).classOf(127), 6);
    }

    private static void pagesAndBoxes() {
        String page = "\\setbox4\\hbox{ab}\\hbox{d}";
        Catcodia x = of(page);
        due("pages", x.pages(), 1);
        due("items of page 0", x.items(0), 4);
        refused("items of page 1", BOUNDS, () -> x.items(1));
        due("items of box 4", x.items(-5), 3);
        due("items of box 0", x.items(-1), 0);
        due("items of box 9", x.items(-10), 0);
        refused("items of box 10", BOUNDS, () -> x.items(-11));
        refused("items of page 0, if there is none", BOUNDS, () -> new Catcodia().items(0));
        refused("item 0 of page 0, if there is none", BOUNDS, () -> new Catcodia().item(0, 0, 0));
        due("the last item", x.item(-5, 2, 4), 'b');
        refused("the item behind it", BOUNDS, () -> x.item(-5, 3, 4));
        refused("item -1", BOUNDS, () -> x.item(-5, -1, 4));
        refused("item 0 of an empty box", BOUNDS, () -> x.item(-1, 0, 0));
        refused("item of box 10", BOUNDS, () -> x.item(-11, 0, 0));
        refused("number 7", ARGUMENT, () -> x.item(-5, 0, 7));
        refused("number -1", ARGUMENT, () -> x.item(-5, 0, -1));
        // there has to be the item first
        refused("number 7 of item 3", BOUNDS, () -> x.item(-5, 3, 7));
        refused("number 7 of page 1", BOUNDS, () -> x.item(1, 0, 7));
        refused("number 7 of an empty box", BOUNDS, () -> x.item(-1, 0, 7));
        String before = all(of(page));
        same(page, all(x), before);
    }

    private static void paragraphsAsked() {
        Catcodia x = of("a\\par b");
        due("paragraphs", x.paragraphs(), 2);
        due("lines 1", x.lines(1), 1);
        refused("lines 2", BOUNDS, () -> x.lines(2));
        refused("demerits 2", BOUNDS, () -> x.demerits(2));
        refused("demerits by trying 2", BOUNDS, () -> x.demeritsByTrying(2));
        refused("lines -1", BOUNDS, () -> x.lines(-1));
        refused("demerits -1", BOUNDS, () -> x.demerits(-1));
        refused("demerits by trying -1", BOUNDS, () -> x.demeritsByTrying(-1));
        refused("lines 0 of nothing", BOUNDS, () -> new Catcodia().lines(0));
        refused("demerits 0 of nothing", BOUNDS, () -> new Catcodia().demerits(0));
        refused("demerits by trying 0 of nothing", BOUNDS, () -> new Catcodia().demeritsByTrying(0));
        same("a\\par b", all(x), all(of("a\\par b")));
    }

    /** All that is asked depends on the document alone, however it was told. */
    private static void howItWasTold() {
        String text = "\\def\\x#1.{(#1)}\\x ab.\\par\\hsize60 \\setbox2\\hbox{\\x c.}aa bb cc dd ee\\patterns{a1a}\\vskip3 plus1 \\hbox{q}";
        String want = all(of(text));
        Catcodia one = new Catcodia();
        for (int i = 0; i < text.length(); i++) {
            one.feed(text.charAt(i), 1);
            one.error();
        }
        same("signs fed one by one", all(one), want);
        Catcodia wrong = of("\\hsize7 \\x{{}\\patterns{b");
        wrong.error();
        wrong.cut(wrong.cut(0));
        for (int i = 0; i < text.length(); i++) {
            wrong.feed(text.charAt(i), 1);
            if (i % 7 != 3) continue;
            wrong.feed(0x23, 1);
            wrong.pages();
            wrong.cut(1);
        }
        refused("a refused call", ARGUMENT, () -> wrong.feed(0x6100, 2));
        refused("a refused call", ARGUMENT, () -> wrong.cut(-1));
        refused("a refused call", BOUNDS, () -> wrong.item(-1, 9, 0));
        same("signs fed and cut", all(wrong), want);
    }

    public static void main(String[] args) {
        due("NONE", Catcodia.NONE, -1000000000);
        int[] kinds = {Catcodia.CHARACTER, Catcodia.HBOX, Catcodia.VBOX, Catcodia.RULE, Catcodia.GLUE, Catcodia.KERN,
            Catcodia.PENALTY, Catcodia.HYPHEN, Catcodia.MARK, Catcodia.INSERTION};
        for (int i = 0; i < kinds.length; i++) due("kind " + i, kinds[i], i);
        feeding();
        full();
        cutting();
        asking();
        pagesAndBoxes();
        paragraphsAsked();
        howItWasTold();
        end();
    }
}
