/** The example of README.md, with the answers that stand there. */
final class ReadmeTest {
    public static void main(String[] args) {
        Checks c = new Checks();
        PatternPairs pairs = new PatternPairs();
        c.due("feed a*", pairs.feed(0x612a0000, 0, 0, 0, 0), 20);
        c.due("end", pairs.end(2), 2);
        c.due("set 0", pairs.set(0), 2);
        c.due("feed a+", pairs.feed(0x612b0000, 0, 0, 0, 0), 20);
        c.due("end", pairs.end(2), 2);
        c.due("set 1", pairs.set(1), 2);
        c.due("empty 0", pairs.empty(0), true);
        c.due("first 0", pairs.first(0), 0);
        c.due("first 2", pairs.first(2), -1);
        c.due("first 3", pairs.first(3), 1);
        c.due("octet 0", pairs.octet(0), 97);
        c.due("count 0 12", pairs.count(0, 12), 1L);
        c.due("feed aa", pairs.feed(0x61610000, 0, 0, 0, 0), 20);
        c.due("end", pairs.end(2), 2);
        c.due("fits 1", pairs.fits(1), true);
        c.due("feed (a", pairs.feed(0x28610000, 0, 0, 0, 0), 20);
        c.due("end", pairs.end(2), 2);
        c.dueThrown("set 1", "UnsupportedOperationException", () -> pairs.set(1));
        c.due("place", pairs.place(), 2);
        c.due("pattern 1 is still a+", pairs.count(1, 12), 1L);
        c.close();
    }
}
