/** Promise 7: run, with the alarm and the quiet time. */
public final class RunTest {
    public static void main(String[] args) {
        tellsTheTime();
        refusesWrongTicks();
        endsAtTheLatestTime();
        ringsForOpen();
        ringsForBytes();
        ringsUntilAborted();
        isSetOnceForAll();
        ringsForAClosedWindow();
        probesUntilAborted();
        endsQuiet();
        Script.finish();
    }

    private static void tellsTheTime() {
        new Script("time", 100, 50).run(1, 1).run(2000, 2001).run(7, 2008).begin(1, true).run(2, 2010);
    }

    private static void refusesWrongTicks() {
        int[] wrong = {0, -1, 2001, Integer.MAX_VALUE, Integer.MIN_VALUE};
        Script s = new Script("wrong ticks", 100, 50);
        for (int n : wrong) {
            s.illegalArgument("run(" + n + ")", e -> e.run(n));
        }
        s.run(1, 1);
    }

    private static void endsAtTheLatestTime() {
        Script s = new Script("the latest time", 100, 50);
        for (int i = 1; i < 500; i++) {
            s.run(2000, 2000 * i);
        }
        s.run(1999, 999999).begin(5, false).sends(Script.O, 5, 0)
                .illegalState("run(2)", e -> e.run(2)).figures(Script.ALARM, 60)
                .illegalArgument("run(0)", e -> e.run(0))
                .run(1, 1000000).figures(Script.ALARM, 59).illegalState("run(1)", e -> e.run(1))
                .figures(Script.ALARM, 59);
    }

    private static void ringsForOpen() {
        new Script("OPEN again", 100, 50).begin(7, false).run(100, 100).figures(Script.ALARM, 0, Script.TRIES, 0)
                .sends(Script.O, 7, 0).figures(Script.ALARM, 60).sendsNothing()
                .run(59, 159).figures(Script.ALARM, 1, Script.TRIES, 0).sendsNothing()
                .run(1, 160).figures(Script.ALARM, 120, Script.TRIES, 1, Script.WAIT, 120)
                .sends(Script.O, 7, 0, 2048, 100, "").sendsNothing().figures(Script.ALARM, 120);
        new Script("OPEN again when ANSWERING", 100, 50).begin(7, true)
                .arrive(Script.O, 5000, 0, 9, 0, Script.ANSWERING).sends(Script.O + Script.T, 7, 0)
                .run(60, 60).sends(Script.O + Script.T, 7, 5001, 2048, 100, "").sendsNothing();
        new Script("OPEN is taken back", 100, 50).begin(7, false).sends(Script.O, 7, 0).run(60, 60)
                .arrive(Script.O + Script.T, 5000, 8, 9, 0, Script.ON)
                .figures(Script.ALARM, 0, Script.TRIES, 0).sends(Script.T, 8, 5001, 2048, 0, "").sendsNothing();
        new Script("OPEN is taken back when ANSWERING", 100, 50).begin(7, true)
                .arrive(Script.O, 5000, 0, 9, 0, Script.ANSWERING).sends(Script.O + Script.T, 7, 0).run(60, 60)
                .arrive(Script.T, 5001, 8, 9, 0, Script.ON).figures(Script.ALARM, 0, Script.TRIES, 0).sendsNothing();
    }

    private static void ringsForBytes() {
        Script.answered("bytes again", 4, 99, 0).write("abcdefghij")
                .sends(Script.T, 1001, 4).sends(Script.T, 1005, 4).run(5, 5).sends(Script.T, 1009, 2)
                .figures(Script.ALARM, 15).run(15, 20).figures(Script.TRIES, 1, Script.WAIT, 40, Script.ALARM, 40)
                .sends(Script.T, 1001, 5001, 2048, 0, "abcd").sendsNothing()
                .figures(Script.NEXT, 1011, Script.ALARM, 40).run(10, 30)
                .arrive(Script.T, 5001, 1003, 99, 0, Script.ON).figures(Script.TRIES, 0, Script.ALARM, 40, Script.WAIT, 40)
                .run(40, 70).sends(Script.T, 1003, 5001, 2048, 0, "cdef").sendsNothing()
                .run(80, 150).arrive(Script.T, 5001, 1011, 99, 0, Script.ON)
                .figures(Script.ALARM, 0, Script.WAIT, 160, Script.TRIES, 0).sendsNothing();
        Script.answered("LAST again", 4, 99, 0).write("abcdef").close()
                .sends(Script.T, 1001, 4).sends(Script.T + Script.L, 1005, 2).run(20, 20)
                .sends(Script.T, 1001, 5001, 2048, 0, "abcd").arrive(Script.T, 5001, 1003, 99, 0, Script.LEAVING)
                .run(40, 60).sends(Script.T + Script.L, 1003, 5001, 2048, 0, "cdef").sendsNothing()
                .arrive(Script.T, 5001, 1007, 99, 0, Script.LEAVING).run(80, 140)
                .sends(Script.T + Script.L, 1007, 5001, 2048, 0, "").sendsNothing();
        Script.answered("LAST not sent is not sent again", 4, 3, 0).write("abc").sends(Script.T, 1001, 3).close()
                .run(20, 20).sends(Script.T, 1001, 5001, 2048, 0, "abc").sendsNothing();
    }

    private static void ringsUntilAborted() {
        Script s = Script.answered("nothing helps", 4, 99, 0).write("a").sends(Script.T, 1001, 1);
        int[] waits = {20, 40, 80, 160, 320, 640, 1200, 1200};
        int time = 0;
        for (int i = 0; i < waits.length; i++) {
            time += waits[i];
            s.run(waits[i], time).state(Script.ON).figures(Script.TRIES, i + 1)
                    .sends(Script.T, 1001, 5001, 2048, 0, "a").sendsNothing();
        }
        s.run(1199, time + 1199).state(Script.ON).run(1, time + 1200).state(Script.ABORTED).sendsNothing()
                .figures(Script.TRIES, 9, Script.WAIT, 1200, Script.ALARM, 0, Script.OUT_BYTES, 1)
                .run(2000, time + 3200).figures(Script.TRIES, 9);
        Script t = Script.answered("many alarms in one call", 4, 99, 0).write("a").sends(Script.T, 1001, 1);
        t.run(2000, 2000).figures(Script.TRIES, 6, Script.WAIT, 1200, Script.ALARM, 460)
                .run(2000, 4000).figures(Script.TRIES, 8).state(Script.ON).run(860, 4860).state(Script.ABORTED);
    }

    private static void isSetOnceForAll() {
        Script.answered("two segments, one alarm", 4, 99, 0).write("a").sends(Script.T, 1001, 1).run(12, 12)
                .write("b").sends(Script.T, 1002, 1).figures(Script.ALARM, 8)
                .arrive(Script.T, 5001, 1002, 99, 0, Script.ON).figures(Script.WAIT, 20, Script.ALARM, 20)
                .run(3, 15).arrive(Script.T, 5001, 1002, 99, 0, Script.ON).figures(Script.ALARM, 17);
    }

    private static void ringsForAClosedWindow() {
        Script.answered("window 0", 4, 0, 0).figures(Script.ALARM, 0).write("abc").figures(Script.ALARM, 20)
                .sendsNothing().run(5, 5).write("d").figures(Script.ALARM, 15).run(15, 20)
                .figures(Script.TRIES, 1, Script.WAIT, 40, Script.ALARM, 40, Script.NEXT, 1001)
                .sends(Script.T, 1001, 5001, 2048, 0, "a").figures(Script.NEXT, 1002, Script.ALARM, 40).sendsNothing()
                .run(40, 60).figures(Script.TRIES, 2).sends(Script.T, 1001, 5001, 2048, 0, "a").sendsNothing()
                .arrive(Script.T, 5001, 1001, 0, 0, Script.ON).figures(Script.TRIES, 0, Script.ALARM, 80)
                .arrive(Script.T, 5001, 1002, 0, 0, Script.ON).figures(Script.TRIES, 0, Script.ALARM, 80)
                .run(80, 140).sends(Script.T, 1002, 5001, 2048, 0, "b").run(3, 143)
                .arrive(Script.T, 5001, 1003, 5, 0, Script.ON)
                .figures(Script.WAIT, 20, Script.ALARM, 0, Script.TRIES, 0)
                .sends(Script.T, 1003, 5001, 2048, 0, "cd").sendsNothing();
        Script.answered("LAST as a probe", 4, 0, 0).close().figures(Script.ALARM, 20).run(20, 20)
                .sends(Script.T + Script.L, 1001, 5001, 2048, 0, "").sendsNothing()
                .arrive(Script.T, 5001, 1002, 0, 0, Script.LEFT).figures(Script.ALARM, 0);
        Script.answered("byte, then LAST as probes", 4, 0, 0).write("a").close().run(20, 20)
                .sends(Script.T, 1001, 5001, 2048, 0, "a").sendsNothing()
                .arrive(Script.T, 5001, 1002, 0, 0, Script.LEAVING).figures(Script.ALARM, 20).run(20, 40)
                .sends(Script.T + Script.L, 1002, 5001, 2048, 0, "").sendsNothing();
        Script.answered("the window opens before the probe is sent", 4, 0, 0).write("ab").run(20, 20)
                .figures(Script.TRIES, 1).arrive(Script.T, 5001, 1001, 1, 0, Script.ON)
                .figures(Script.TRIES, 0, Script.ALARM, 0)
                .sends(Script.T, 1001, 5001, 2048, 0, "a").figures(Script.ALARM, 40).sendsNothing();
        Script.answered("the window opens and closes before the probe is sent", 4, 0, 0).write("ab").run(20, 20)
                .arrive(Script.T, 5001, 1001, 1, 0, Script.ON).arrive(Script.T, 5001, 1001, 0, 0, Script.ON)
                .sendsNothing().figures(Script.ALARM, 40).run(40, 60).sends(Script.T, 1001, 1).sendsNothing();
        Script.answered("the window opens, a probe is on its way", 4, 0, 0).write("ab").run(20, 20)
                .sends(Script.T, 1001, 1).run(10, 30).arrive(Script.T, 5001, 1001, 1, 0, Script.ON)
                .figures(Script.TRIES, 0, Script.ALARM, 30).sendsNothing();
        Script.answered("the window closes, nothing is new", 4, 9, 0).write("ab").sends(Script.T, 1001, 2)
                .arrive(Script.T, 5001, 1003, 0, 0, Script.ON).figures(Script.ALARM, 0)
                .arrive(Script.L + Script.T, 5001, 1003, 0, 0, Script.ALONE).sends(Script.T, 1003, 0)
                .write("c").figures(Script.ALARM, 20).run(20, 20).sends(Script.T, 1003, 5002, 2048, 0, "c");
        new Script("written before it is on", 4, 50).begin(1000, false).write("a").figures(Script.ALARM, 0)
                .sends(Script.O, 1000, 0).arrive(Script.O + Script.T, 5000, 1001, 0, 0, Script.ON)
                .figures(Script.ALARM, 20).sends(Script.T, 1001, 0).run(20, 20).sends(Script.T, 1001, 1);
        Script.answered("alone and closing", 4, 0, 0).arrive(Script.L + Script.T, 5001, 1001, 0, 0, Script.ALONE)
                .close().figures(Script.ALARM, 20).sends(Script.T, 1001, 0).run(20, 20)
                .sends(Script.T + Script.L, 1001, 0).arrive(Script.T, 5002, 1002, 0, 0, Script.FREE);
        Script.answered("parting", 4, 0, 0).close().arrive(Script.L + Script.T, 5001, 1001, 0, 0, Script.PARTING)
                .figures(Script.ALARM, 20).sends(Script.T, 1001, 0).run(20, 20).sends(Script.T + Script.L, 1001, 0)
                .arrive(Script.T, 5002, 1002, 0, 0, Script.QUIET).figures(Script.ALARM, 0);
    }

    private static void probesUntilAborted() {
        Script.answered("probes in vain", 4, 0, 0).write("a").run(2000, 2000)
                .figures(Script.TRIES, 6, Script.WAIT, 1200).run(2000, 4000).run(859, 4859).state(Script.ON)
                .run(1, 4860).state(Script.ABORTED).figures(Script.TRIES, 9, Script.ALARM, 0).sendsNothing();
        Script.answered("told again and again", 4, 0, 0).write("a").run(2000, 2000).figures(Script.TRIES, 6)
                .arrive(Script.T, 5001, 1001, 0, 0, Script.ON).figures(Script.TRIES, 0, Script.WAIT, 1200);
    }

    private static void endsQuiet() {
        Script s = Script.answered("quiet", 4, 9, 0).close().sends(Script.T + Script.L, 1001, 0)
                .arrive(Script.T + Script.L, 5001, 1002, 9, 0, Script.QUIET).run(49, 49).state(Script.QUIET);
        s.arrive(Script.T + Script.L, 5001, 1002, 9, 0, Script.QUIET).run(49, 98).state(Script.QUIET)
                .arrive(Script.T, 5000, 1002, 9, 0, Script.QUIET).figures(Script.ALARM, 0)
                .run(1, 99).state(Script.FREE).sendsNothing();
        Script.answered("quiet ends within a long run", 4, 9, 0).close().sends(Script.T + Script.L, 1001, 0)
                .arrive(Script.T + Script.L, 5001, 1002, 9, 0, Script.QUIET).run(2000, 2000).state(Script.FREE)
                .sendsNothing();
        Script.answered("a misfit with RESET and LAST", 4, 9, 0).close().sends(Script.T + Script.L, 1001, 0)
                .arrive(Script.T + Script.L, 5001, 1002, 9, 0, Script.QUIET).sends(Script.T, 1002, 0).run(40, 40)
                .arrive(Script.R + Script.L, 5001, 1002, 9, 0, Script.QUIET).sendsNothing()
                .run(49, 89).state(Script.QUIET).run(1, 90).state(Script.FREE);
        Script.answered("one that fits does not lengthen it", 4, 9, 0).close().sends(Script.T + Script.L, 1001, 0)
                .arrive(Script.T + Script.L, 5001, 1002, 9, 0, Script.QUIET).run(40, 40)
                .arrive(Script.T + Script.L, 5002, 1002, 9, 0, Script.QUIET).run(10, 50).state(Script.FREE);
    }
}
