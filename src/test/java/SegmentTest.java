/** Promises 9 and 10: segment and byteAt. */
public final class SegmentTest {
    public static void main(String[] args) {
        needsASegment();
        refusesWhatIsNoPart();
        tellsTheParts();
        tellsTheBytes();
        staysUntilTheNextOne();
        Script.finish();
    }

    private static void needsASegment() {
        Script s = new Script("none was made", 100, 50);
        for (int i = 0; i <= 5; i++) {
            int what = i;
            s.illegalState("segment(" + what + ")", e -> e.segment(what));
        }
        s.illegalState("byteAt(0)", e -> e.byteAt(0)).illegalState("byteAt(-1)", e -> e.byteAt(-1))
                .illegalArgument("segment(6)", e -> e.segment(6)).begin(5, false)
                .illegalState("segment(0) when OPEN is due", e -> e.segment(0));
    }

    private static void refusesWhatIsNoPart() {
        int[] wrong = {-1, 6, Integer.MAX_VALUE, Integer.MIN_VALUE};
        Script s = new Script("no such part", 100, 50).begin(5, false).sends(Script.O, 5, 0);
        for (int what : wrong) {
            s.illegalArgument("segment(" + what + ")", e -> e.segment(what));
        }
    }

    private static void tellsTheParts() {
        new Script("parts", 77, 50).begin(5, false).sends(Script.O, 5, 0, 2048, 77, "")
                .arrive(Script.O + Script.T, 9, 6, 40, 20, Script.ON).sends(Script.T, 6, 10, 2048, 0, "")
                .feed("abc").arrive(Script.T, 10, 6, 40, 20, Script.ON).write("xyz").close()
                .sends(Script.T + Script.L, 6, 13, 2045, 0, "xyz").abort()
                .sends(Script.R + Script.T, 10, 13, 0, 0, "")
                .arrive(Script.T, 3, -4, 5, 6, Script.ABORTED).sends(Script.R, -4, 0, 0, 0, "");
    }

    private static void tellsTheBytes() {
        Script.answered("bytes", 100, 99, 0).write("a\u0000\u00ff").sends(Script.T, 1001, 3)
                .byteAt(0, 'a').byteAt(1, 0).byteAt(2, 255)
                .outOfBounds("byteAt(3)", e -> e.byteAt(3)).outOfBounds("byteAt(-1)", e -> e.byteAt(-1))
                .outOfBounds("byteAt(largest int)", e -> e.byteAt(Integer.MAX_VALUE))
                .outOfBounds("byteAt(least int)", e -> e.byteAt(Integer.MIN_VALUE))
                .feed("xyzuv").arrive(Script.T, 5001, 1004, 99, 0, Script.ON).sends(Script.T, 1004, 0)
                .outOfBounds("byteAt(0) of a thanks", e -> e.byteAt(0));
        Script.answered("the most bytes", 1460, 2048, 1460).write(Script.times("abcdefgh", 183)).write("z")
                .sends(Script.T, 1001, 1460).byteAt(1459, 'd').outOfBounds("byteAt(1460)", e -> e.byteAt(1460))
                .sends(Script.T, 2461, 5).byteAt(4, 'z');
    }

    private static void staysUntilTheNextOne() {
        Script.answered("it stays", 100, 99, 0).write("abc").sends(Script.T, 1001, 5001, 2048, 0, "abc")
                .sendsNothing().segment(Script.T, 1001, 5001, 2048, 0, 3).byteAt(2, 'c')
                .feed("xy").arrive(Script.T, 5001, 1004, 99, 0, Script.ON).write("def")
                .segment(Script.T, 1001, 5001, 2048, 0, 3).byteAt(0, 'a').abort()
                .segment(Script.T, 1001, 5001, 2048, 0, 3)
                .sends(Script.R + Script.T, 1004, 5003, 0, 0, "").outOfBounds("byteAt(0)", e -> e.byteAt(0));
    }
}
