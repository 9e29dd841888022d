/** Promises 2 and 3: feed and end. */
final class TapeTest {
    public static void main(String[] args) {
        Checks c = new Checks();
        feedBringsTheHighestByteFirst(c);
        feedRefusesMoreThanTheTapeHolds(c);
        feedFillsTheTapeToItsLastByte(c);
        endKeepsTheFirstBytes(c);
        endRefusesOtherLengths(c);
        c.close();
    }

    private static void feedBringsTheHighestByteFirst(Checks c) {
        PatternPairs x = new PatternPairs();
        Checks.pattern(x, 0, "abcdefghijklmnopqrst");
        c.due("feed", x.feed(0x61626364, 0x65666768, 0x696a6b6c, 0x6d6e6f70, 0x71727374), 20);
        c.due("fits in this order", x.fits(0), true);
        x.feed(0x64636261, 0x65666768, 0x696a6b6c, 0x6d6e6f70, 0x71727374);
        c.due("fits in another order", x.fits(0), false);
        Checks.pattern(x, 1, "(.|\n)*".replace("\n", "\\n"));
        x.feed(0x7f7f7f7f, 0, 0x0a0a0a0a, 0x01020304, 0x7f000000);
        c.due("bytes up to 127", x.fits(1), true);
        x.feed(0x7f7f7f7f, 0, 0x0a0a0a0a, 0x01020304, 0x7f000080);
        c.due("a byte 128", x.fits(1), false);
        x.feed(-1, -1, -1, -1, -1);
        c.due("bytes 255", x.fits(1), false);
    }

    private static void feedRefusesMoreThanTheTapeHolds(Checks c) {
        PatternPairs x = new PatternPairs();
        Checks.pattern(x, 0, "a*");
        for (int i = 1; i <= 102; i++) {
            c.due("feed " + i, Checks.feed(x, "aaaaaaaaaaaaaaaaaaaa", 0), 20 * i);
        }
        c.dueThrown("feed beyond", "IndexOutOfBoundsException", () -> x.feed(0, 0, 0, 0, 0));
        c.dueThrown("feed beyond again", "IndexOutOfBoundsException", () -> x.feed(0, 0, 0, 0, 0));
        c.due("the length stays", x.end(2040), 2040);
        c.dueThrown("one byte more", "IllegalArgumentException", () -> x.end(2041));
        c.due("the bytes stay", x.fits(0), true);
    }

    private static void feedFillsTheTapeToItsLastByte(Checks c) {
        PatternPairs x = new PatternPairs();
        x.feed(0, 0, 0, 0, 0);
        x.end(9);
        for (int i = 1; i <= 101; i++) {
            x.feed(0, 0, 0, 0, 0);
        }
        c.dueThrown("feed to 2049", "IndexOutOfBoundsException", () -> x.feed(0, 0, 0, 0, 0));
        c.due("end", x.end(2028), 2028);
        c.due("feed to 2048", x.feed(0, 0, 0, 0, 0), 2048);
        c.dueThrown("feed to 2068", "IndexOutOfBoundsException", () -> x.feed(0, 0, 0, 0, 0));
        c.due("end at the full length", x.end(2048), 2048);
    }

    private static void endKeepsTheFirstBytes(Checks c) {
        PatternPairs x = new PatternPairs();
        Checks.pattern(x, 0, "abcab");
        Checks.feed(x, "abcdefghijklmnopqrst", 0);
        c.due("end", x.end(3), 3);
        c.due("feed behind it", Checks.feed(x, "abxyz", 0), 23);
        c.due("end again", x.end(5), 5);
        c.due("end at the length", x.end(5), 5);
        c.due("fits", x.fits(0), true);
        Checks.feed(x, "abcab", 0);
        c.due("end 0", x.end(0), 0);
        c.due("fits the empty text", x.fits(0), false);
    }

    private static void endRefusesOtherLengths(Checks c) {
        PatternPairs x = new PatternPairs();
        Checks.pattern(x, 0, "abc");
        Checks.feed(x, "abc", 0);
        for (int n : new int[] {-1, 21, 2048, Integer.MAX_VALUE, Integer.MIN_VALUE}) {
            c.dueThrown("end " + n, "IllegalArgumentException", () -> x.end(n));
        }
        c.due("the length stays", x.end(20), 20);
        x.end(3);
        c.dueThrown("end at the old length", "IllegalArgumentException", () -> x.end(4));
        c.due("the bytes stay", x.fits(0), true);
    }
}
