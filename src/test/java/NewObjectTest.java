/** Promise 1: what a new object answers. */
final class NewObjectTest {
    public static void main(String[] args) {
        Checks c = new Checks();
        c.due("place", new PatternPairs().place(), -1);
        for (int which = 0; which < 2; which++) {
            int w = which;
            c.due("empty " + w, new PatternPairs().empty(w), true);
            c.due("fits " + w + " the empty tape", new PatternPairs().fits(w), true);
            c.due("fits " + w + " a", Checks.has(new PatternPairs(), w, "a"), false);
            c.due("fits " + w + " byte 0", Checks.has(new PatternPairs(), w, "\0"), false);
            c.due("count " + w + " 0", new PatternPairs().count(w, 0), 1L);
            for (int n = 1; n <= 12; n++) {
                c.due("count " + w + " " + n, new PatternPairs().count(w, n), 0L);
            }
        }
        String[] texts = {"none", "none", "none", "<>", "<\0>"};
        for (int kind = 0; kind < texts.length; kind++) {
            c.due("first " + kind, Checks.text(new PatternPairs(), kind), texts[kind]);
        }
        c.dueThrown("octet 0", "NoSuchElementException", () -> new PatternPairs().octet(0));
        c.due("end 0", new PatternPairs().end(0), 0);
        c.dueThrown("end 1", "IllegalArgumentException", () -> new PatternPairs().end(1));
        c.due("feed", new PatternPairs().feed(0, 0, 0, 0, 0), 20);
        objectsStandAlone(c);
        c.close();
    }

    private static void objectsStandAlone(Checks c) {
        PatternPairs x = new PatternPairs();
        PatternPairs y = new PatternPairs();
        Checks.pattern(x, 0, "ab");
        x.first(1);
        x.feed(1, 2, 3, 4, 5);
        c.due("the other's empty", y.empty(0), true);
        c.due("the other's tape", y.feed(0, 0, 0, 0, 0), 20);
        c.dueThrown("the other's octet", "NoSuchElementException", () -> y.octet(0));
        c.due("its own octet", x.octet(1), (int) 'b');
    }
}
