/** Promises 13 and 14: state and figure, with the measuring. */
public final class FigureTest {
    public static void main(String[] args) {
        refusesWhatIsNoFigure();
        followsAStream();
        measures();
        measuresNothingSentAgain();
        measuresOneAtATime();
        keepsWaitInBounds();
        Script.finish();
    }

    private static void refusesWhatIsNoFigure() {
        int[] wrong = {-1, 13, Integer.MAX_VALUE, Integer.MIN_VALUE};
        Script s = new Script("no such figure", 100, 50);
        for (int what : wrong) {
            s.illegalArgument("figure(" + what + ")", e -> e.figure(what));
        }
        s.state(Script.FREE);
    }

    private static void followsAStream() {
        new Script("all figures", 100, 50).begin(1000, true).state(Script.LISTENING)
                .arrive(Script.O, 5000, 0, 777, 60, Script.ANSWERING).state(Script.ANSWERING)
                .figures(Script.OLDEST, 1000, Script.NEXT, 1001, Script.WINDOW, 777, Script.EXPECTED, 5001,
                        Script.PIECE, 60, Script.ALARM, 0, Script.OUT_BYTES, 0)
                .sends(Script.O + Script.T, 1000, 5001, 2048, 100, "").figures(Script.ALARM, 60).run(6, 6)
                .figures(Script.ALARM, 54).arrive(Script.T, 5001, 1001, 778, 0, Script.ON).state(Script.ON)
                .figures(Script.OLDEST, 1001, Script.NEXT, 1001, Script.WINDOW, 778, Script.ALARM, 0,
                        Script.SMOOTH, 48, Script.SPREAD, 12, Script.WAIT, 20)
                .write("abcdef").figures(Script.OUT_BYTES, 6, Script.NEXT, 1001).sends(Script.T, 1001, 6)
                .figures(Script.OUT_BYTES, 6, Script.NEXT, 1007, Script.OLDEST, 1001, Script.ALARM, 20)
                .feed("xyz").arrive(Script.T, 5001, 1003, 779, 0, Script.ON)
                .figures(Script.OUT_BYTES, 4, Script.OLDEST, 1003, Script.NEXT, 1007, Script.READABLE, 3,
                        Script.ROOM, 2045, Script.EXPECTED, 5004, Script.WINDOW, 779);
    }

    private static void measures() {
        Script s = new Script("times", 100, 50).begin(1000, false).run(9, 9).sends(Script.O, 1000, 0).run(100, 109);
        // the alarm came at 69; OPEN was not sent again, so the measurement goes on
        s.figures(Script.WAIT, 120, Script.TRIES, 1)
                .arrive(Script.O + Script.T, 5000, 1001, 99, 0, Script.ON)
                .figures(Script.SMOOTH, 800, Script.SPREAD, 200, Script.WAIT, 300).sends(Script.T, 1001, 0)
                .write("ab").sends(Script.T, 1001, 2).figures(Script.ALARM, 300).run(31, 140)
                // d = 31 - 100 = -69; SMOOTH 731; SPREAD 200 + 69 - 50
                .arrive(Script.T, 5001, 1003, 99, 0, Script.ON)
                .figures(Script.SMOOTH, 731, Script.SPREAD, 219, Script.WAIT, 310)
                .write("c").sends(Script.T, 1003, 1).run(150, 290)
                // d = 150 - 91 = 59; SMOOTH 790; SPREAD 219 + 59 - 54
                .arrive(Script.T, 5001, 1004, 99, 0, Script.ON)
                .figures(Script.SMOOTH, 790, Script.SPREAD, 224, Script.WAIT, 322);
    }

    private static void measuresNothingSentAgain() {
        Script.answered("sent again", 4, 99, 0).write("ab").sends(Script.T, 1001, 2).run(20, 20)
                .sends(Script.T, 1001, 2).run(5, 25).arrive(Script.T, 5001, 1003, 99, 0, Script.ON)
                .figures(Script.SMOOTH, 0, Script.SPREAD, 0, Script.WAIT, 40)
                .write("c").sends(Script.T, 1003, 1).run(8, 33).arrive(Script.T, 5001, 1004, 99, 0, Script.ON)
                .figures(Script.SMOOTH, 8, Script.SPREAD, 8, Script.WAIT, 20);
        new Script("OPEN sent again", 4, 50).begin(1000, false).sends(Script.O, 1000, 0).run(60, 60)
                .sends(Script.O, 1000, 0).run(5, 65).arrive(Script.O + Script.T, 5000, 1001, 99, 0, Script.ON)
                .figures(Script.SMOOTH, 0, Script.SPREAD, 0, Script.WAIT, 120);
        new Script("OPEN sent again when both ask", 4, 50).begin(1000, false).sends(Script.O, 1000, 0).run(7, 7)
                .arrive(Script.O, 5000, 0, 99, 0, Script.ANSWERING).sends(Script.O + Script.T, 1000, 0).run(3, 10)
                .figures(Script.ALARM, 50).arrive(Script.T, 5001, 1001, 99, 0, Script.ON)
                .figures(Script.SMOOTH, 0, Script.WAIT, 60);
        new Script("OPEN sent first when both ask", 4, 50).begin(1000, false).run(7, 7)
                .arrive(Script.O, 5000, 0, 99, 0, Script.ANSWERING).sends(Script.O + Script.T, 1000, 0).sendsNothing()
                .run(3, 10).arrive(Script.T, 5001, 1001, 99, 0, Script.ON).figures(Script.SMOOTH, 24, Script.SPREAD, 6);
        new Script("OPEN sent anew after LISTENING again", 4, 50).begin(1000, true)
                .arrive(Script.O, 5000, 0, 99, 0, Script.ANSWERING).sends(Script.O + Script.T, 1000, 0).run(7, 7)
                .arrive(Script.R, 5001, 0, 0, 0, Script.LISTENING).figures(Script.ALARM, 0).run(1, 8)
                .arrive(Script.O, 6000, 0, 99, 0, Script.ANSWERING).sends(Script.O + Script.T, 1000, 0).run(2, 10)
                .arrive(Script.T, 6001, 1001, 99, 0, Script.ON).figures(Script.SMOOTH, 16, Script.SPREAD, 4);
        new Script("OPEN never sent", 4, 50).begin(1000, false).run(7, 7)
                .arrive(Script.O + Script.T, 5000, 1001, 99, 0, Script.ON).figures(Script.SMOOTH, 0, Script.WAIT, 60);
    }

    private static void measuresOneAtATime() {
        Script.answered("the first of two", 4, 99, 0).write("abcd").sends(Script.T, 1001, 4).run(3, 3).write("ef")
                .sends(Script.T, 1005, 2).run(4, 7).arrive(Script.T, 5001, 1004, 99, 0, Script.ON)
                .figures(Script.SMOOTH, 0).run(1, 8).arrive(Script.T, 5001, 1007, 99, 0, Script.ON)
                .figures(Script.SMOOTH, 8, Script.SPREAD, 8);
        Script.answered("a new one behind one sent again", 4, 99, 0).write("ab").sends(Script.T, 1001, 2).run(20, 20)
                .sends(Script.T, 1001, 2).write("c").run(1, 21).sends(Script.T, 1003, 1).run(5, 26)
                .arrive(Script.T, 5001, 1003, 99, 0, Script.ON).figures(Script.SMOOTH, 0, Script.WAIT, 40)
                .run(4, 30).arrive(Script.T, 5001, 1004, 99, 0, Script.ON)
                .figures(Script.SMOOTH, 9, Script.SPREAD, 9, Script.WAIT, 20);
        Script.answered("a probe is measured", 4, 0, 0).write("a").run(20, 20).sends(Script.T, 1001, 1).run(16, 36)
                .arrive(Script.T, 5001, 1002, 0, 0, Script.ON).figures(Script.SMOOTH, 16, Script.SPREAD, 16);
        Script.answered("LAST is measured", 4, 9, 0).close().sends(Script.T + Script.L, 1001, 0).run(16, 16)
                .arrive(Script.T, 5001, 1002, 0, 0, Script.LEFT).figures(Script.SMOOTH, 16, Script.SPREAD, 16);
    }

    private static void keepsWaitInBounds() {
        int[][] ticksAndWait = {{0, 20}, {6, 20}, {7, 21}, {59, 177}, {399, 1197}, {400, 1200}, {401, 1200}};
        for (int[] pair : ticksAndWait) {
            Script s = new Script("wait after " + pair[0], 4, 50).begin(1000, false).sends(Script.O, 1000, 0);
            if (pair[0] > 0) {
                s.run(pair[0], pair[0]);
            }
            s.arrive(Script.O + Script.T, 5000, 1001, 99, 0, Script.ON)
                    .figures(Script.WAIT, pair[1], Script.SMOOTH, 8 * pair[0], Script.SPREAD, 2 * pair[0]);
        }
    }
}
