/** "THE ALARM", "MEASURING" and the constants. */
final class AlarmEdges implements Names {
    private AlarmEdges() {
    }

    static void all() {
        whenItComes();
        whenItIsSet();
        tooManyTries();
        sentAgainOnce();
        waitIsDoubled();
        setForAClosedWindow();
        notSetForAClosedWindow();
        probes();
        aProbeIsSent();
        measuringBegins();
        measuringEndsWithoutATime();
        measuringEnds();
        firstTime();
        furtherTimes();
        waitAsMeasured();
        constants();
    }

    private static void whenItComes() {
        Sentence.says("THE ALARM. With something sent that is not thanked for, it comes WAIT ticks after it was set:");
        Script.in(ASKING, "OPEN").figures(WAIT, 60, ALARM, 60).run(59, 59).figures(ALARM, 1, TRIES, 0).sendsNothing()
                .run(1, 60).figures(ALARM, 120, TRIES, 1).sends(O, 1000, 0);
        Script.in(ON, "a byte").write("a").sends(T, 1001, 1).figures(WAIT, 20, ALARM, 20).run(19, 19)
                .figures(ALARM, 1, TRIES, 0).sendsNothing().run(1, 20).figures(ALARM, 40, TRIES, 1).sends(T, 1001, 1);
        Script.in(LEAVING, "LAST").figures(ALARM, 20).run(19, 19).figures(TRIES, 0).run(1, 20).figures(TRIES, 1);
        Script.in(ON, "more ticks than WAIT in one call").write("a").sends(T, 1001, 1).run(21, 21)
                .figures(TRIES, 1, WAIT, 40, ALARM, 39);
        Script.in(ON, "two alarms in one call").write("a").sends(T, 1001, 1).run(60, 60)
                .figures(TRIES, 2, WAIT, 80, ALARM, 80);
        Script.in(ON, "nothing sent").figures(ALARM, 0).run(2000, 2000).figures(ALARM, 0, TRIES, 0, WAIT, 20)
                .sendsNothing();
    }

    private static void whenItIsSet() {
        Sentence.says("when something new is sent (or OPEN) and it is off, and as above.");
        new Script("OPEN that is not sent yet", 100, 50).begin(1000, false).figures(ALARM, 0).run(100, 100)
                .figures(ALARM, 0, TRIES, 0).sends(O, 1000, 0).figures(ALARM, 60);
        Script.in(LISTENING, "OPEN of ANSWERING").arrive(O, 5000, 0, 9, 0, ANSWERING).figures(ALARM, 0)
                .sends(O + T, 1000, 0).figures(ALARM, 60);
        Script.in(ASKING, "OPEN, and it is on").run(10, 10).arrive(O, 5000, 0, 9, 0, ANSWERING).sends(O + T, 1000, 0)
                .figures(ALARM, 50);
        Script.in(ON, "bytes that are not sent yet").write("ab").figures(ALARM, 0).sends(T, 1001, 2).figures(ALARM, 20);
        Script.in(ON, "more bytes, and it is on").write("ab").sends(T, 1001, 2).run(19, 19).write("c").sends(T, 1003, 1)
                .figures(ALARM, 1).run(1, 20).figures(TRIES, 1);
        Script.in(ON, "what is sent again does not set it").write("ab").sends(T, 1001, 2).run(25, 25).sends(T, 1001, 2)
                .figures(ALARM, 35);
        Script.in(ON, "a thanks does not set it").feed("x").arrive(T, 5001, 1001, 99, 0, ON).sends(T, 1001, 0)
                .figures(ALARM, 0);
    }

    private static void tooManyTries() {
        Sentence.says("Then tries are one more; if they are more than 8, ABORTED;");
        // from 60 on, each twice the one before and 1200 at most: the eighth comes at 5460, the ninth at 6660
        Script.in(ASKING, "OPEN").run(2000, 2000).figures(TRIES, 5).run(2000, 4000).run(1459, 5459).figures(TRIES, 7)
                .run(1, 5460).figures(TRIES, 8, WAIT, 1200, ALARM, 1200).state(ASKING).run(1199, 6659).state(ASKING)
                .run(1, 6660).state(ABORTED).figures(TRIES, 9, WAIT, 1200, ALARM, 0).sendsNothing()
                .run(2000, 8660).figures(TRIES, 9);
        // from 20 on: the eighth comes at 3660, the ninth at 4860
        Script.in(ON, "a byte").write("a").sends(T, 1001, 1).run(2000, 2000).run(1660, 3660).figures(TRIES, 8)
                .run(1199, 4859).state(ON).run(1, 4860).state(ABORTED).figures(TRIES, 9, OUT_BYTES, 1, ALARM, 0)
                .sendsNothing();
        Script.in(ON, "thanks at the eighth").write("ab").sends(T, 1001, 2).run(2000, 2000).run(1660, 3660)
                .figures(TRIES, 8)
                .arrive(T, 5001, 1002, 99, 0, ON).figures(TRIES, 0, ALARM, 1200).run(1200, 4860).state(ON)
                .figures(TRIES, 1);
        int[] states = {ANSWERING, LEAVING, PARTING, ENDING};
        for (int state : states) {
            Script.in(state, "ABORTED at last").run(2000, 2000).run(2000, 4000).run(2000, 6000).run(2000, 8000)
                    .state(ABORTED).figures(TRIES, 9).sendsNothing();
        }
    }

    private static void sentAgainOnce() {
        Sentence.says("else what is not thanked for is to be sent again (OPEN; or from OLDEST on, once),");
        Script.in(ASKING, "OPEN").run(60, 60).sends(O, 1000, 0, 2048, 100, "").sendsNothing().run(119, 179)
                .sendsNothing()
                .run(1, 180).sends(O, 1000, 0, 2048, 100, "").sendsNothing();
        Script.in(ANSWERING, "OPEN with THANKS").run(60, 60).sends(O + T, 1000, 5001, 2048, 100, "").sendsNothing();
        Script.answered("once", 2, 99, 0).write("abcd").sends(T, 1001, 2).sends(T, 1003, 2).run(20, 20)
                .sends(T, 1001, 5001, 2048, 0, "ab").sendsNothing().run(40, 60).sends(T, 1001, 5001, 2048, 0, "ab")
                .sendsNothing();
        Script.in(ON, "two alarms, once").write("ab").sends(T, 1001, 2).run(60, 60).figures(TRIES, 2).sends(T, 1001, 2)
                .sendsNothing();
        Script.in(ON, "from OLDEST as it is when it is sent").write("abc").sends(T, 1001, 3)
                .arrive(T, 5001, 1003, 99, 0, ON)
                .run(20, 20).sends(T, 1003, 5001, 2048, 0, "c").sendsNothing();
    }

    private static void waitIsDoubled() {
        Sentence.says("WAIT is doubled, 1200 at most, and it is set anew.");
        int[] waits = {60, 120, 240, 480, 960, 1200, 1200};
        Script s = Script.in(ASKING, "from 60");
        int time = 0;
        for (int i = 0; i + 1 < waits.length; i++) {
            time += waits[i];
            s.figures(WAIT, waits[i], ALARM, waits[i]).run(waits[i], time)
                    .figures(WAIT, waits[i + 1], ALARM, waits[i + 1]);
        }
        // a first time of t makes WAIT 3 t: 597, 600 and 603 are doubled
        int[][] rows = {{199, 597, 1194}, {200, 600, 1200}, {201, 603, 1200}};
        for (int[] row : rows) {
            Script.in(ASKING, "from " + row[1]).run(row[0], row[0]).arrive(O + T, 5000, 1001, 9, 0, ON)
                    .figures(WAIT, row[1]).write("a").sends(T, 1001, 1).figures(ALARM, row[1])
                    .run(row[1], row[0] + row[1])
                    .figures(WAIT, row[2], ALARM, row[2], TRIES, 1);
        }
    }

    private static void setForAClosedWindow() {
        Sentence.says("In ON, LEAVING, ALONE, PARTING, ENDING, with nothing sent that is not thanked for, peer's "
                + "window 0 and something new to be sent, it is set, too, at the end of the call (or tick) with "
                + "which that is so;");
        Script.answered("ON, by write()", 4, 0, 0).figures(ALARM, 0).write("a").figures(ALARM, 20);
        Script.answered("LEAVING, by close()", 4, 0, 0).close().figures(ALARM, 20);
        Script.answered("ALONE, by write()", 4, 0, 0).arrive(T + L, 5001, 1001, 0, 0, ALONE).figures(ALARM, 0)
                .write("a").figures(ALARM, 20);
        Script.answered("ENDING, by close()", 4, 0, 0).arrive(T + L, 5001, 1001, 0, 0, ALONE).close()
                .figures(ALARM, 20);
        Script.answered("PARTING, by arrive()", 4, 0, 0).close().arrive(T, 5001, 1001, 5, 0, LEAVING).figures(ALARM, 0)
                .arrive(T + L, 5001, 1001, 0, 0, PARTING).figures(ALARM, 20);
        Script.answered("ON, when the window closes", 4, 9, 0).write("abc").figures(ALARM, 0)
                .arrive(T, 5001, 1001, 0, 0, ON).figures(ALARM, 20);
        Script.answered("ON, when all that was sent is thanked for", 4, 2, 0).write("abc").sends(T, 1001, 2).run(5, 5)
                .arrive(T, 5001, 1003, 0, 0, ON).figures(ALARM, 20);
        Script.in(ASKING, "ON from ASKING").write("a").arrive(O + T, 5000, 1001, 0, 0, ON).figures(ALARM, 20);
        Script.in(ANSWERING, "ON from ANSWERING").write("a").arrive(T, 5001, 1001, 0, 0, ON).figures(ALARM, 20);
        Script.in(ANSWERING, "LEAVING from ANSWERING").close().arrive(T, 5001, 1001, 0, 0, LEAVING).figures(ALARM, 20);
        Script.answered("once, not with each call", 4, 0, 0).write("a").run(7, 7).write("b").figures(ALARM, 13)
                .arrive(T, 5001, 1001, 0, 0, ON).figures(ALARM, 13).close().figures(ALARM, 13).sendsNothing()
                .figures(ALARM, 13);
    }

    private static void notSetForAClosedWindow() {
        Script.answered("nothing new", 4, 0, 0).arrive(T, 5001, 1001, 0, 0, ON).figures(ALARM, 0).run(100, 100)
                .figures(ALARM, 0, TRIES, 0);
        Script.answered("window 1", 4, 1, 0).write("a").figures(ALARM, 0);
        Script.answered("something sent is not thanked for", 4, 1, 0).write("ab").sends(T, 1001, 1).run(5, 5)
                .arrive(T, 5001, 1001, 0, 0, ON).figures(ALARM, 15);
        new Script("not in ASKING", 4, 50).begin(1000, false).write("a").figures(ALARM, 0);
        new Script("not in ANSWERING", 4, 50).begin(1000, true).arrive(O, 5000, 0, 0, 0, ANSWERING).write("a").close()
                .figures(ALARM, 0);
        Script.in(LEFT, "not in LEFT").arrive(T, 5001, 1002, 0, 0, LEFT).figures(ALARM, 0);
    }

    private static void probes() {
        Sentence.says("when it comes, tries and WAIT go on as said, but a probe is to be sent instead.");
        Script.answered("a probe", 4, 0, 0).write("ab").run(19, 19).figures(TRIES, 0, ALARM, 1).sendsNothing()
                .run(1, 20)
                .figures(TRIES, 1, WAIT, 40, ALARM, 40, NEXT, 1001).sends(T, 1001, 5001, 2048, 0, "a").sendsNothing();
        Script.answered("two alarms, one probe", 4, 0, 0).write("ab").run(60, 60).figures(TRIES, 2, WAIT, 80, ALARM, 80)
                .sends(T, 1001, 1).sendsNothing();
        Script.answered("probes in vain", 4, 0, 0).write("ab").run(2000, 2000).run(1660, 3660)
                .figures(TRIES, 8, WAIT, 1200)
                .run(1199, 4859).state(ON).run(1, 4860).state(ABORTED).figures(TRIES, 9, ALARM, 0).sendsNothing();
        Script.answered("told 0 at the eighth", 4, 0, 0).write("ab").run(2000, 2000).run(1660, 3660).figures(TRIES, 8)
                .arrive(T, 5001, 1001, 0, 0, ON).figures(TRIES, 0).run(1200, 4860).state(ON).figures(TRIES, 1);
    }

    private static void aProbeIsSent() {
        Sentence.says("A probe that was sent is sent, and not thanked for, like anything new.");
        Script.answered("its alarm", 4, 0, 0).write("ab").run(20, 20).sends(T, 1001, 1)
                .figures(OLDEST, 1001, NEXT, 1002, ALARM, 40)
                .run(40, 60).figures(TRIES, 2).sends(T, 1001, 5001, 2048, 0, "a").sendsNothing().figures(NEXT, 1002)
                .arrive(T, 5001, 1002, 0, 0, ON).figures(OLDEST, 1002, OUT_BYTES, 1, ALARM, 80)
                .run(80, 140).sends(T, 1002, 5001, 2048, 0, "b").sendsNothing();
        // the time of a probe is measured: 7 behind a first time of 0
        Script.answered("its time", 4, 0, 0).write("ab").run(20, 20).sends(T, 1001, 1).run(7, 27)
                .arrive(T, 5001, 1002, 0, 0, ON).figures(SMOOTH, 7, SPREAD, 7, WAIT, 20, ALARM, 20);
        Script.answered("LAST as a probe", 4, 0, 0).close().run(20, 20).sends(T + L, 1001, 0).figures(NEXT, 1002)
                .arrive(T, 5001, 1002, 0, 0, LEFT).figures(ALARM, 0);
        Script.answered("LAST as a probe, again", 4, 0, 0).close().run(20, 20).sends(T + L, 1001, 0).run(40, 60)
                .sends(T + L, 1001, 0).sendsNothing();
    }

    private static void measuringBegins() {
        Sentence.says("MEASURING. When something new is sent (OPEN the first time, too) and no measurement runs, one "
                + "begins: for the number behind that segment, at that time.");
        new Script("OPEN, from when it was sent", 4, 50).begin(1000, false).run(30, 30).sends(O, 1000, 0).run(10, 40)
                .arrive(O + T, 5000, 1001, 9, 0, ON).figures(SMOOTH, 80, SPREAD, 20, WAIT, 30);
        Script.in(ANSWERING, "OPEN of ANSWERING").run(10, 10).arrive(T, 5001, 1001, 9, 0, ON)
                .figures(SMOOTH, 80, SPREAD, 20, WAIT, 30);
        new Script("OPEN that was never sent", 4, 50).begin(1000, false).run(10, 10).arrive(O + T, 5000, 1001, 9, 0, ON)
                .figures(SMOOTH, 0, SPREAD, 0, WAIT, 60);
        Script.answered("one runs: the next segment begins none", 4, 99, 0).write("a").sends(T, 1001, 1).run(10, 10)
                .write("b")
                .sends(T, 1002, 1).run(5, 15).arrive(T, 5001, 1003, 99, 0, ON).figures(SMOOTH, 15, SPREAD, 15);
        Script.answered("behind the first one: the next begins one", 4, 99, 0).write("a").sends(T, 1001, 1).run(10, 10)
                .arrive(T, 5001, 1002, 99, 0, ON).figures(SMOOTH, 10, SPREAD, 10).run(90, 100).write("b")
                .sends(T, 1002, 1)
                .run(4, 104).arrive(T, 5001, 1003, 99, 0, ON).figures(SMOOTH, 13, SPREAD, 11);
        Script.in(LEAVING, "LAST").run(10, 10).arrive(T, 5001, 1002, 99, 0, LEFT).figures(SMOOTH, 10, SPREAD, 10);
        Script.answered("a thanks begins none", 4, 99, 0).feed("x").arrive(T, 5001, 1001, 99, 0, ON).sends(T, 1001, 0)
                .run(30, 30).write("a").sends(T, 1001, 1).run(10, 40).arrive(T, 5002, 1002, 99, 0, ON)
                .figures(SMOOTH, 10);
    }

    private static void measuringEndsWithoutATime() {
        Sentence.says("It ends without a time when something is sent again;");
        Script.in(ASKING, "OPEN").run(60, 60).sends(O, 1000, 0).run(5, 65).arrive(O + T, 5000, 1001, 9, 0, ON)
                .figures(SMOOTH, 0, SPREAD, 0, WAIT, 120);
        Script.in(ASKING, "OPEN, both ask").run(5, 5).arrive(O, 5000, 0, 9, 0, ANSWERING).sends(O + T, 1000, 0)
                .run(5, 10)
                .arrive(T, 5001, 1001, 9, 0, ON).figures(SMOOTH, 0, SPREAD, 0, WAIT, 60);
        Script.in(ON, "bytes").write("a").sends(T, 1001, 1).run(20, 20).sends(T, 1001, 1).run(5, 25)
                .arrive(T, 5001, 1002, 99, 0, ON).figures(SMOOTH, 0, SPREAD, 0, WAIT, 40);
        Script.in(ON, "to be sent again, but not sent").write("a").sends(T, 1001, 1).run(25, 25)
                .arrive(T, 5001, 1002, 99, 0, ON).figures(SMOOTH, 25, SPREAD, 25, WAIT, 28);
        // the one that runs is for 1005; what is sent again lies before it
        Script.answered("something else is sent again", 2, 99, 0).write("ab").sends(T, 1001, 2).run(10, 10)
                .arrive(T, 5001, 1002, 99, 0, ON).write("cd").sends(T, 1003, 2).run(20, 30).sends(T, 1002, 2).run(5, 35)
                .arrive(T, 5001, 1005, 99, 0, ON).figures(SMOOTH, 0, SPREAD, 0);
        Script.answered("behind that, something new begins one", 2, 99, 0).write("ab").sends(T, 1001, 2).run(20, 20)
                .sends(T, 1001, 2).write("cd").sends(T, 1003, 2).run(8, 28).arrive(T, 5001, 1003, 99, 0, ON)
                .figures(SMOOTH, 0).run(4, 32).arrive(T, 5001, 1005, 99, 0, ON).figures(SMOOTH, 12, SPREAD, 12);
    }

    private static void measuringEnds() {
        Sentence.says("and with one, of t ticks, when that number is thanked for:");
        Script.in(ON, "one less, then that number").write("abc").sends(T, 1001, 3).run(6, 6)
                .arrive(T, 5001, 1003, 99, 0, ON)
                .figures(SMOOTH, 0, SPREAD, 0).run(4, 10).arrive(T, 5001, 1004, 99, 0, ON)
                .figures(SMOOTH, 10, SPREAD, 10);
        Script.in(ON, "one more").write("abc").sends(T, 1001, 3).write("d").sends(T, 1004, 1).run(6, 6)
                .arrive(T, 5001, 1005, 99, 0, ON).figures(SMOOTH, 6, SPREAD, 6);
        Script.in(ON, "only once").write("abc").sends(T, 1001, 3).write("d").sends(T, 1004, 1).run(6, 6)
                .arrive(T, 5001, 1004, 99, 0, ON).figures(SMOOTH, 6).run(6, 12).arrive(T, 5001, 1005, 99, 0, ON)
                .figures(SMOOTH, 6, SPREAD, 6);
        new Script("a number that goes round", 100, 50).begin(MAX - 1, false).sends(O, MAX - 1, 0)
                .arrive(O + T, 5000, MAX, 99, 0, ON).sends(T, MAX, 0).write("ab").sends(T, MAX, 2).run(6, 6)
                .arrive(T, 5001, MIN, 99, 0, ON).figures(SMOOTH, 0).run(4, 10).arrive(T, 5001, MIN + 1, 99, 0, ON)
                .figures(SMOOTH, 10);
    }

    private static void firstTime() {
        Sentence.says("the first one makes SMOOTH 8 t and SPREAD 2 t;");
        int[] times = {1, 2, 7, 59, 2000};
        for (int t : times) {
            Script.in(ASKING, "t " + t).run(t, t).arrive(O + T, 5000, 1001, 9, 0, ON)
                    .figures(SMOOTH, 8 * t, SPREAD, 2 * t);
        }
        Script.in(ASKING, "t 0").arrive(O + T, 5000, 1001, 9, 0, ON).figures(SMOOTH, 0, SPREAD, 0, WAIT, 20);
        Script.in(LISTENING, "a first one behind ANSWERING").arrive(O, 5000, 0, 9, 0, ANSWERING)
                .arrive(T, 5001, 1001, 9, 0, ON).write("a").sends(T, 1001, 1).run(3, 3).arrive(T, 5001, 1002, 9, 0, ON)
                .figures(SMOOTH, 24, SPREAD, 6);
        Script s = Script.in(ASKING, "a very long one");
        for (int i = 1; i <= 3; i++) {
            s.run(2000, 2000 * i);
        }
        s.arrive(O + T, 5000, 1001, 9, 0, ON).figures(SMOOTH, 48000, SPREAD, 12000, WAIT, 1200);
    }

    private static void furtherTimes() {
        Sentence.says("a further one, d being t less SMOOTH / 8 (cut), adds d to SMOOTH, and the size of d less "
                + "SPREAD / 4 (cut) to SPREAD.");
        // behind a first one of 0 a further one counts as such: d is 10, 3 - 1, 0 - 1, 30 - 1, 0 - 5
        int[][] rows = {{10, 10, 10}, {3, 12, 10}, {0, 11, 9}, {30, 40, 36}, {0, 35, 32}, {4, 35, 24}};
        Script s = Script.in(ON, "further ones");
        int time = 0;
        int number = 1001;
        for (int[] row : rows) {
            s.write("a").sends(T, number, 1);
            if (row[0] > 0) {
                time += row[0];
                s.run(row[0], time);
            }
            number++;
            s.arrive(T, 5001, number, 99, 0, ON).figures(SMOOTH, row[1], SPREAD, row[2]);
        }
    }

    private static void waitAsMeasured() {
        Sentence.says("Then WAIT is SMOOTH / 8 (cut) and the greater of SPREAD and 1 together, but 20 at least and "
                + "1200 at most.");
        int[][] rows = {{1, 20}, {6, 20}, {7, 21}, {100, 300}, {399, 1197}, {400, 1200}, {401, 1200}, {2000, 1200}};
        for (int[] row : rows) {
            Script.in(ASKING, "a first time of " + row[0]).run(row[0], row[0]).arrive(O + T, 5000, 1001, 9, 0, ON)
                    .figures(WAIT, row[1]);
        }
        // SMOOTH 80 + 5 - 10, SPREAD 20 + 5 - 5: 9 and 20 together
        Script.in(ASKING, "cut").run(10, 10).arrive(O + T, 5000, 1001, 9, 0, ON).sends(T, 1001, 0).figures(WAIT, 30)
                .write("a").sends(T, 1001, 1).run(5, 15).arrive(T, 5001, 1002, 9, 0, ON)
                .figures(SMOOTH, 75, SPREAD, 20, WAIT, 29);
        Sentence.says("At first it is 60.");
        new Script("at first", 100, 50).figures(WAIT, 60).begin(1, true).figures(WAIT, 60);
        new Script("at first, asking", 100, 50).begin(1, false).figures(WAIT, 60).sends(O, 1, 0)
                .figures(WAIT, 60, ALARM, 60);
    }

    private static void constants() {
        Sentence.says("The constants: : read(): nothing has come yet.");
        if (StreamEnd.NONE != -1 || StreamEnd.OVER != -2) {
            Script.note("NONE or OVER is not as the document says");
        }
        Script.in(ON, "nothing has come").read(-1);
        Script.in(ON, "only what is behind EXPECTED has come").feed("b").arrive(T + L, 5002, 1001, 99, 0, ON).read(-1);
        Script.in(ON, "all was read, no LAST").feed("\u00ff").arrive(T, 5001, 1001, 99, 0, ON).read(255).read(-1);

        Sentence.says(": read(): the peer's LAST has come, and all was read.");
        Script.in(ALONE, "LAST alone").read(-2).read(-2);
        Script.in(ON, "bytes, then LAST").feed("ab").arrive(T + L, 5001, 1001, 99, 0, ALONE).read("ab").read(-2);
        Script.in(QUIET, "QUIET, then FREE").read(-2).run(50, 50).state(FREE).read(-2);
    }
}
