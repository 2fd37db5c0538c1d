/** What tests ask: documents, and the answers that are due. */
abstract class Asking {
    private static int wrong = 0;
    private static int asked = 0;

    static Catcodia of(String text) {
        Catcodia x = new Catcodia();
        tell(x, text);
        return x;
    }

    static void tell(Catcodia x, String text) {
        for (int at = 0; at < text.length(); at += 8) {
            int n = Math.min(8, text.length() - at);
            long signs = 0;
            for (int i = n - 1; i >= 0; i--) signs = signs << 8 | text.charAt(at + i);
            x.feed(signs, n);
        }
    }

    static void due(String what, long got, long want) {
        asked++;
        if (got == want) return;
        wrong++;
        System.out.println(what + " answered " + got + ", due is " + want);
    }

    static void error(int want, String text) {
        due("error of " + text, of(text).error(), want);
    }

    static void steps(int want, String text) {
        due("steps of " + text, of(text).steps(), want);
    }

    static void register(int want, int what, int n, String text) {
        Catcodia x = of(text);
        due("register " + what + " " + n + " of " + text, x.register(what, n), want);
    }

    static void count(int want, String text) {
        Catcodia x = of(text);
        due("error of " + text, x.error(), 0);
        due("count 0 of " + text, x.register(0, 0), want);
    }

    static void parameter(int want, int which, String text) {
        due("parameter " + which + " of " + text, of(text).parameter(which), want);
    }

    static void classOf(int want, int code, String text) {
        due("class of " + code + " of " + text, of(text).classOf(code), want);
    }

    static void items(int want, int page, String text) {
        due("items " + page + " of " + text, of(text).items(page), want);
    }

    /** The numbers 0 to 6 of an item. */
    static void item(String text, int page, int item, int... want) {
        Catcodia x = of(text);
        for (int i = 0; i < want.length; i++) {
            due("item " + page + " " + item + " " + i + " of " + text, x.item(page, item, i), want[i]);
        }
    }

    /** The kinds of all items of a page or box. */
    static void kinds(String want, int page, String text) {
        Catcodia x = of(text);
        StringBuilder got = new StringBuilder();
        for (int i = 0; i < x.items(page); i++) got.append(x.item(page, i, 0));
        asked++;
        if (want.contentEquals(got)) return;
        wrong++;
        System.out.println("kinds " + page + " of " + text + " are " + got + ", due is " + want);
    }

    /** The codes of the characters of a page or box. */
    static void signs(String want, int page, String text) {
        Catcodia x = of(text);
        StringBuilder got = new StringBuilder();
        if (x.error() != 0) got.append("error ").append(x.error());
        for (int i = 0; i < x.items(page); i++) {
            if (x.item(page, i, 0) == Catcodia.CHARACTER) got.append((char) x.item(page, i, 4));
        }
        asked++;
        if (want.contentEquals(got)) return;
        wrong++;
        System.out.println("signs " + page + " of " + text + " are " + got + ", due is " + want);
    }

    static void paragraph(String text, int paragraph, int lines, long demerits, long byTrying) {
        Catcodia x = of(text);
        due("lines " + paragraph + " of " + text, x.lines(paragraph), lines);
        due("demerits " + paragraph + " of " + text, x.demerits(paragraph), demerits);
        due("demerits by trying " + paragraph + " of " + text, x.demeritsByTrying(paragraph), byTrying);
    }

    interface Call {
        void call();
    }

    static void refused(String what, Class<?> by, Call call) {
        asked++;
        Class<?> got = null;
        try {
            call.call();
        } catch (RuntimeException e) {
            got = e.getClass();
        }
        if (got == by) return;
        wrong++;
        System.out.println(what + " was answered by " + got + ", due is " + by);
    }

    static String times(int n, String s) {
        return s.repeat(n);
    }

    /** Tells how it went; the program ends with 1 if an answer was wrong. */
    static void end() {
        System.out.println(asked + " asked, " + wrong + " wrong");
        if (wrong != 0) System.exit(1);
    }
}
