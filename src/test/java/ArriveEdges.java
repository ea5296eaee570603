/** "A SEGMENT ARRIVES", up to where a segment that fits has been looked at for RESET, OPEN and THANKS. */
final class ArriveEdges implements Names {
    private static final int[] FITTING = {ANSWERING, ON, LEAVING, LEFT, ALONE, PARTING, ENDING, QUIET};

    private ArriveEdges() {
    }

    static void all() {
        resets();
        listening();
        listeningTakesOpen();
        openTellsThePiece();
        openTellsTheWindow();
        openCountsAlone();
        askingRefuses();
        askingTakesOpen();
        askingAnswers();
        fits();
        fitsWithLittleRoom();
        doesNotFit();
        reset();
        resetAtOtherNumbers();
        openAndThankless();
    }

    private static void resets() {
        Sentence.says("A SEGMENT ARRIVES. \"Resets\" means: if it has no RESET, a reset is to be sent, with its "
                + "thanked number as number, or, if it has no THANKS, with RESET and THANKS, number 0, its number "
                + "and size together as thanked; \"thanks\" means: a thanks is to be sent.");
        new Script("resets", 100, 50).arrive(T, 10, 77, 3, 4, FREE).sends(R, 77, 0, 0, 0, "").sendsNothing()
                .arrive(T, 10, 0, 3, 4, FREE).sends(R, 0, 0, 0, 0, "").arrive(T, 10, MIN, 3, 4, FREE)
                .sends(R, MIN, 0, 0, 0, "")
                .arrive(0, 10, 77, 3, 4, FREE).sends(R + T, 0, 10, 0, 0, "").sendsNothing()
                .arrive(0, 0, 77, 3, 4, FREE).sends(R + T, 0, 0, 0, 0, "")
                .arrive(O + L, MAX, 77, 3, 4, FREE).sends(R + T, 0, MIN + 1, 0, 0, "")
                .feed("ab").arrive(L, -3, 77, 3, 4, FREE).sends(R + T, 0, 0, 0, 0, "")
                .arrive(R, 10, 77, 3, 4, FREE).arrive(R + T, 10, 77, 3, 4, FREE).sendsNothing();
        Script.in(ON, "a thanks").arrive(0, 5000, 0, 0, 0, ON).sends(T, 1001, 5001, 2048, 0, "").sendsNothing();

        Sentence.says("FREE, ABORTED: resets.");
        int[] ended = {FREE, ABORTED};
        for (int state : ended) {
            Script.in(state, "resets").arrive(T + O, 10, 77, 9, 9, state).sends(R, 77, 0, 0, 0, "")
                    .arrive(O, 10, 77, 9, 9, state).sends(R + T, 0, 11, 0, 0, "")
                    .arrive(R + O, 10, 77, 9, 9, state).sendsNothing()
                    .figures(EXPECTED, 0, WINDOW, 0, PIECE, 100, ALARM, 0);
        }
    }

    private static void listening() {
        Sentence.says("LISTENING: with RESET nothing; else with THANKS resets;");
        Script s = Script.in(LISTENING, "all flags");
        for (int flags = 0; flags <= 15; flags++) {
            boolean open = (flags & (O + R + T)) == O;
            if (open) {
                continue;
            }
            s.feed("ab").arrive(flags, 10, 77, 9, 9, LISTENING);
            if ((flags & R) == 0 && (flags & T) != 0) {
                s.sends(R, 77, 0, 0, 0, "");
            }
            s.sendsNothing();
        }
        s.figures(OLDEST, 1000, NEXT, 1000, WINDOW, 0, EXPECTED, 0, READABLE, 0, PIECE, 100);
    }

    private static void listeningTakesOpen() {
        Sentence.says("else with OPEN: EXPECTED is the number behind its OPEN,");
        int[] numbers = {5000, 0, -1, MAX, MIN};
        for (int number : numbers) {
            // EXPECTED 0 is told with THANKS, too
            Script.in(LISTENING, "OPEN at " + number).arrive(O, number, 0, 9, 0, ANSWERING)
                    .figures(EXPECTED, number + 1)
                    .sends(O + T, 1000, number + 1, 2048, 100, "").sendsNothing();
        }

        Sentence.says("the state is ANSWERING, its OPEN is to be sent; else nothing.");
        Script.in(LISTENING, "OPEN").arrive(O, 5000, 0, 9, 0, ANSWERING).figures(ALARM, 0)
                .sends(O + T, 1000, 5001, 2048, 100, "").sendsNothing().figures(ALARM, 60);
        Script.in(LISTENING, "neither RESET, THANKS nor OPEN").arrive(0, 5000, 0, 9, 0, LISTENING).sendsNothing()
                .arrive(L, 5000, 0, 9, 0, LISTENING).sendsNothing().feed("ab").arrive(0, 5000, 0, 9, 0, LISTENING)
                .sendsNothing().figures(EXPECTED, 0, WINDOW, 0);
    }

    private static void openTellsThePiece() {
        Sentence.says("PIECE the lesser of its own and LARGEST (536 if that is 0),");
        int[][] rows = {{1460, 0, 536}, {537, 0, 536}, {536, 0, 536}, {535, 0, 535}, {1, 0, 1}, {100, 99, 99},
            {100, 100, 100}, {100, 101, 100}, {100, 1, 1}, {100, 65535, 100}, {1460, 1461, 1460}, {1460, 537, 537}};
        for (int[] row : rows) {
            String name = "own " + row[0] + ", LARGEST " + row[1];
            new Script(name + ", listening", row[0], 50).begin(1, true).arrive(O, 50, 0, 9, row[1], ANSWERING)
                    .figures(PIECE, row[2]);
            new Script(name + ", asking", row[0], 50).begin(1, false).arrive(O + T, 50, 2, 9, row[1], ON)
                    .figures(PIECE, row[2]);
            new Script(name + ", both ask", row[0], 50).begin(1, false).arrive(O, 50, 0, 9, row[1], ANSWERING)
                    .figures(PIECE, row[2]);
        }
    }

    private static void openTellsTheWindow() {
        Sentence.says("peer's window is WINDOW (told by this segment's number, and its thanked one, or FIRST without "
                + "THANKS),");
        int[] windows = {0, 1, 65535};
        for (int window : windows) {
            Script.in(LISTENING, "window").arrive(O, 5000, 0, window, 0, ANSWERING).figures(WINDOW, window);
            Script.in(ASKING, "window").arrive(O, 5000, 0, window, 0, ANSWERING).figures(WINDOW, window);
            Script.in(ASKING, "window").arrive(O + T, 5000, 1001, window, 0, ON).figures(WINDOW, window);
        }
        // without THANKS the thanked number says nothing: 1002 would be behind 1001
        Script.in(LISTENING, "told by its number and FIRST").arrive(O, 5000, 1002, 50, 0, ANSWERING)
                .feed("ab").arrive(T, 5000, 1001, 60, 0, ON).figures(WINDOW, 60);
        Script.in(LISTENING, "told by an earlier number").arrive(O, 5000, 1002, 50, 0, ANSWERING)
                .feed("abc").arrive(T, 4999, 1001, 60, 0, ON).figures(WINDOW, 50, READABLE, 1);
        Script.in(ASKING, "told by its number and FIRST").arrive(O, 5000, 1002, 50, 0, ANSWERING)
                .feed("ab").arrive(T, 5000, 1001, 60, 0, ON).figures(WINDOW, 60);
        Script.in(ASKING, "told by its number and its thanked one").arrive(O + T, 5000, 1001, 50, 0, ON)
                .feed("abc").arrive(T, 4999, 1001, 60, 0, ON).figures(WINDOW, 50)
                .feed("abc").arrive(T, 5000, 1001, 61, 0, ON).figures(WINDOW, 61);
    }

    private static void openCountsAlone() {
        Sentence.says("(Bytes and LAST of a segment with OPEN count for nothing.)");
        Script.in(LISTENING, "bytes and LAST").feed("abc").arrive(O + L, 5000, 0, 9, 0, ANSWERING)
                .figures(EXPECTED, 5001, READABLE, 0).read(StreamEnd.NONE).sends(O + T, 1000, 5001, 2048, 100, "")
                .feed("x").arrive(T, 5001, 1001, 9, 0, ON).read("x").read(StreamEnd.NONE);
        Script.in(ASKING, "bytes and LAST").feed("abc").arrive(O + L, 5000, 0, 9, 0, ANSWERING)
                .figures(EXPECTED, 5001, READABLE, 0).feed("x").arrive(T, 5001, 1001, 9, 0, ON).read("x");
        Script.in(ASKING, "bytes, LAST and THANKS").feed("abc").arrive(O + L + T, 5000, 1001, 9, 0, ON)
                .figures(EXPECTED, 5001, READABLE, 0).feed("xyz!").arrive(T, 5001, 1001, 9, 0, ON).read("xyz!")
                .read(StreamEnd.NONE);
    }

    private static void askingRefuses() {
        Sentence.says("ASKING: with THANKS, if thanked is not NEXT: resets, and no more.");
        int[] wrong = {1000, 1002, 0, 1001 + MIN, 1001 + MAX};
        for (int thanked : wrong) {
            Script.in(ASKING, "thanked " + thanked).arrive(T, 9, thanked, 9, 9, ASKING).sends(R, thanked, 0, 0, 0, "")
                    .arrive(O + T, 9, thanked, 9, 9, ASKING).sends(R, thanked, 0, 0, 0, "").sendsNothing()
                    .arrive(R + T, 9, thanked, 9, 9, ASKING).sendsNothing()
                    .figures(EXPECTED, 0, WINDOW, 0, PIECE, 100, OLDEST, 1000, ALARM, 60);
        }
        new Script("NEXT behind the greatest int", 100, 50).begin(MAX, false).arrive(T + O, 9, MAX, 9, 9, ASKING)
                .sends(R, MAX, 0, 0, 0, "").arrive(T + O, 9, MIN, 9, 9, ON);

        Sentence.says("With RESET: ABORTED, if it has THANKS; nothing otherwise.");
        Script.in(ASKING, "RESET, no THANKS").arrive(R, 9, 1001, 9, 9, ASKING).arrive(R + O, 9, 1001, 9, 9, ASKING)
                .arrive(R + L, 9, 1001, 9, 9, ASKING).sendsNothing().figures(EXPECTED, 0, ALARM, 60);
        Script.in(ASKING, "RESET and THANKS").arrive(R + T, 9, 1001, 9, 9, ABORTED).sendsNothing()
                .figures(ALARM, 0, EXPECTED, 0);
        Script.in(ASKING, "RESET, THANKS and OPEN").arrive(R + T + O, 9, 1001, 9, 9, ABORTED).sendsNothing()
                .figures(EXPECTED, 0, WINDOW, 0);
    }

    private static void askingTakesOpen() {
        Sentence.says("With OPEN: EXPECTED, PIECE and peer's window as above; with THANKS the state is ON, all "
                + "before thanked is thanked for (as below), its OPEN is not to be sent any more, thanks;");
        Script.in(ASKING, "answered").write("ab").arrive(O + T, 5000, 1001, 1, 40, ON)
                .figures(EXPECTED, 5001, PIECE, 40, WINDOW, 1, OLDEST, 1001, NEXT, 1001, OUT_BYTES, 2, ALARM, 0, TRIES, 0)
                .sends(T, 1001, 5001, 2048, 0, "a").sendsNothing();
        Script.in(ASKING, "answered, nothing to be sent").arrive(O + T, MAX, 1001, 0, 0, ON)
                .figures(EXPECTED, MIN, WINDOW, 0, ALARM, 0).sends(T, 1001, MIN, 2048, 0, "").sendsNothing();
        new Script("answered before OPEN was sent", 100, 50).begin(1000, false)
                .arrive(O + T, 5000, 1001, 9, 0, ON).sends(T, 1001, 5001, 2048, 0, "").sendsNothing();
        Script.in(ASKING, "answered when OPEN is to be sent again").run(60, 60).figures(TRIES, 1, WAIT, 120)
                .arrive(O + T, 5000, 1001, 9, 0, ON).figures(TRIES, 0, ALARM, 0, WAIT, 180)
                .sends(T, 1001, 5001, 2048, 0, "").sendsNothing();
    }

    private static void askingAnswers() {
        Sentence.says("otherwise ANSWERING, its OPEN is to be sent again. Else nothing.");
        Script.in(ASKING, "both ask").run(5, 5).arrive(O, 5000, 1001, 9, 40, ANSWERING)
                .figures(EXPECTED, 5001, PIECE, 40, WINDOW, 9, OLDEST, 1000, NEXT, 1001, ALARM, 55)
                .sends(O + T, 1000, 5001, 2048, 100, "").sendsNothing().figures(ALARM, 55);
        Script.in(ASKING, "neither RESET nor OPEN").arrive(T, 9, 1001, 9, 9, ASKING).arrive(0, 9, 1001, 9, 9, ASKING)
                .arrive(T + L, 9, 1001, 9, 9, ASKING).feed("ab").arrive(T, 9, 1001, 9, 9, ASKING).sendsNothing()
                .figures(EXPECTED, 0, OLDEST, 1000, ALARM, 60, WINDOW, 0);
    }

    /** Without THANKS one that fits does nothing, and one that does not is thanked for: so it can be seen. */
    private static Script fitting(Script s, int flags, String bytes, int number, int state) {
        return s.feed(bytes).arrive(flags, number, 0, 0, 0, state).sendsNothing();
    }

    private static Script misfitting(Script s, int flags, String bytes, int number, int state) {
        return s.feed(bytes).arrive(flags, number, 0, 0, 0, state).sends(T, Script.nextIn(state), 0).sendsNothing();
    }

    private static void fits() {
        Sentence.says("In all other states it FITS, if some number that it takes up, or its number, if its size is "
                + "0, is one of the ROOM numbers from EXPECTED on, or its size is 0 and its number EXPECTED.");
        for (int state : FITTING) {
            int e = Script.expectedIn(state);
            Script s = Script.in(state, "size 0");
            misfitting(s, 0, "", e - 1, state);
            fitting(s, 0, "", e, state);
            fitting(s, 0, "", e + 2047, state);
            misfitting(s, 0, "", e + 2048, state);
            Script t = Script.in(state, "three bytes");
            misfitting(t, 0, "abc", e - 3, state);
            fitting(t, 0, "abc", e - 2, state);
            fitting(t, 0, "abc", e + 2047, state);
            misfitting(t, 0, "abc", e + 2048, state);
            Script u = Script.in(state, "LAST alone, and behind bytes");
            misfitting(u, L, "", e - 1, state);
            fitting(u, L, "", e, state);
            fitting(u, L, "", e + 2047, state);
            misfitting(u, L, "", e + 2048, state);
            fitting(u, L, "ab", e - 2, state);
            misfitting(u, L, "ab", e - 3, state);
        }
        // with OPEN both are thanked for, but with RESET, too, only the one that fits is
        Script.in(ON, "OPEN takes up a number").arrive(O + R, 5000, 0, 0, 0, ON).sendsNothing()
                .feed("a").arrive(O + R, 5000, 0, 0, 0, ON).sends(T, 1001, 0)
                .arrive(O + R, 7048, 0, 0, 0, ON).sends(T, 1001, 0).arrive(O + R, 7049, 0, 0, 0, ON).sendsNothing();
        Script round = new Script("numbers that go round", 100, 50).begin(1000, true)
                .arrive(O, MAX - 100, 0, 99, 0, ANSWERING).sends(O + T, 1000, 0).arrive(T, MAX - 99, 1001, 99, 0, ON);
        fitting(round, 0, "", MAX - 99 + 2047, ON);
        misfitting(round, 0, "", MAX - 99 + 2048, ON);
        misfitting(round, 0, "", MAX - 100, ON);
    }

    private static void fitsWithLittleRoom() {
        Script s = Script.in(ON, "ROOM 2045").feed("abc").arrive(T, 5001, 1001, 99, 0, ON).sends(T, 1001, 0);
        fitting(s, 0, "", 5004 + 2044, ON);
        misfitting(s, 0, "", 5004 + 2045, ON);
        fitting(s, 0, "xy", 5004 + 2044, ON);
        misfitting(s, 0, "xy", 5004 + 2045, ON);
        misfitting(s, 0, "", 5003, ON);
        Script full = Script.full("ROOM 0", 100);
        fitting(full, 0, "", 7049, ON);
        misfitting(full, 0, "", 7050, ON);
        misfitting(full, 0, "", 7048, ON);
        misfitting(full, 0, "y", 7049, ON);
        misfitting(full, L, "", 7049, ON);
        misfitting(full, 0, "yz", 7048, ON);
        full.read("x");
        fitting(full, 0, "y", 7049, ON);
        misfitting(full, 0, "y", 7050, ON);
        fitting(full, L, "", 7049, ON);
        misfitting(full, 0, "", 7050, ON);
    }

    private static void doesNotFit() {
        Sentence.says("If it does not fit: thanks, unless it has RESET; in QUIET, if it has LAST, the quiet time "
                + "begins anew; and no more.");
        for (int state : FITTING) {
            int e = Script.expectedIn(state);
            int n = Script.nextIn(state);
            Script.in(state, "does not fit").arrive(T, e - 1, n, 98, 0, state).sends(T, n, e, 2048, 0, "")
                    .sendsNothing()
                    .arrive(R, e - 1, n, 98, 0, state).arrive(R + T, e + 2048, n, 98, 0, state).sendsNothing()
                    .feed("x").arrive(T + L, e + 2048, n, 98, 0, state).figures(WINDOW, 99, READABLE, 0, EXPECTED, e);
        }
        Script.in(ON, "its thanked number counts for nothing").write("ab").sends(T, 1001, 2)
                .arrive(T, 5000, 1003, 9, 0, ON)
                .figures(OLDEST, 1001, OUT_BYTES, 2, ALARM, 20, WINDOW, 99).sends(T, 1003, 0);
        Script.in(QUIET, "quiet time, with LAST").run(49, 49).arrive(L, 5001, 0, 0, 0, QUIET).run(49, 98).state(QUIET)
                .run(1, 99).state(FREE);
        Script.in(QUIET, "quiet time, with LAST and RESET").run(49, 49).arrive(L + R, 5001, 0, 0, 0, QUIET)
                .sendsNothing()
                .run(49, 98).state(QUIET).run(1, 99).state(FREE);
        Script.in(QUIET, "quiet time, without LAST").run(49, 49).arrive(T, 5001, 1002, 0, 0, QUIET).run(1, 50)
                .state(FREE);
        Script.in(QUIET, "quiet time, with LAST that fits").run(49, 49).arrive(T + L, 5002, 1002, 0, 0, QUIET)
                .run(1, 50)
                .state(FREE);
    }

    private static void reset() {
        Sentence.says("With RESET: if its number is EXPECTED, ANSWERING is LISTENING again if it began so, with all "
                + "as begin() with FIRST makes it, PARTING, ENDING, QUIET are FREE, others ABORTED;");
        int[][] rows = {{ANSWERING, LISTENING}, {ON, ABORTED}, {LEAVING, ABORTED}, {LEFT, ABORTED}, {ALONE, ABORTED},
            {PARTING, FREE}, {ENDING, FREE}, {QUIET, FREE}};
        for (int[] row : rows) {
            int e = Script.expectedIn(row[0]);
            Script.in(row[0], "RESET").arrive(R, e, 0, 0, 0, row[1]).sendsNothing().figures(ALARM, 0);
            Script.in(row[0], "RESET with all else").feed("abc").arrive(R + O + L + T, e, 0, 0, 0, row[1])
                    .sendsNothing()
                    .figures(READABLE, 0);
        }
        Script.in(ANSWERING, "all as begin() makes it").write("abc").close().run(60, 60).figures(TRIES, 1, WAIT, 120)
                .arrive(R, 5001, 0, 0, 0, LISTENING)
                .figures(OLDEST, 1000, NEXT, 1000, WINDOW, 0, EXPECTED, 0, ROOM, 2048, WAIT, 60, OUT_BYTES, 0, READABLE, 0,
                        TRIES, 0, PIECE, 100, SMOOTH, 0, SPREAD, 0, ALARM, 0)
                .sendsNothing().run(200, 260).sendsNothing().illegalState("read()", e -> e.read())
                .arrive(O, 70, 0, 9, 0, ANSWERING).write("d").sends(O + T, 1000, 71, 2048, 100, "")
                .arrive(T, 71, 1001, 9, 0, ON).figures(SMOOTH, 0, WAIT, 20).sends(T, 1001, 71, 2048, 0, "d");
        Script.in(ANSWERING, "a thanks is gone, a reset is not").arrive(T, 4000, 0, 0, 0, ANSWERING)
                .arrive(T, 5001, 66, 0, 0, ANSWERING).arrive(R, 5001, 0, 0, 0, LISTENING).sends(R, 66, 0, 0, 0, "")
                .sendsNothing();
        Script.in(ASKING, "ANSWERING that asked").arrive(O, 5000, 0, 9, 0, ANSWERING).arrive(R, 5001, 0, 0, 0, ABORTED)
                .sendsNothing();
        Script.full("RESET with ROOM 0", 100).arrive(R, 7049, 0, 0, 0, ABORTED).read("x");
        new Script("EXPECTED goes round", 100, 50).begin(1, true).arrive(O, MAX, 0, 9, 0, ANSWERING)
                .arrive(R, MIN, 0, 0, 0, LISTENING);
    }

    private static void resetAtOtherNumbers() {
        Sentence.says("otherwise thanks; and no more.");
        for (int state : FITTING) {
            int e = Script.expectedIn(state);
            int n = Script.nextIn(state);
            Script.in(state, "RESET behind EXPECTED").arrive(R, e + 1, 0, 0, 0, state).sends(T, n, e, 2048, 0, "")
                    .arrive(R, e + 2047, 0, 0, 0, state).sends(T, n, e, 2048, 0, "")
                    .feed("ab").arrive(R, e - 1, 0, 0, 0, state).sends(T, n, e, 2048, 0, "")
                    .feed("ab").arrive(R + T + L, e + 1, n, 98, 0, state).sends(T, n, e, 2048, 0, "").sendsNothing()
                    .figures(WINDOW, 99, READABLE, 0, EXPECTED, e);
        }
        // the bytes behind EXPECTED have not come, nor has LAST
        Script.in(ON, "and no more").feed("b").arrive(R + T + L, 5002, 1001, 98, 0, ON).feed("a")
                .arrive(T, 5001, 1001, 97, 0, ON).figures(EXPECTED, 5002, READABLE, 1);
    }

    private static void openAndThankless() {
        Sentence.says("With OPEN: thanks, and no more.");
        for (int state : FITTING) {
            int e = Script.expectedIn(state);
            int n = Script.nextIn(state);
            Script.in(state, "OPEN").arrive(O, e, 0, 0, 0, state).sends(T, n, e, 2048, 0, "").sendsNothing()
                    .feed("ab").arrive(O + T + L, e, n, 98, 9, state).sends(T, n, e, 2048, 0, "").sendsNothing()
                    .figures(WINDOW, 99, READABLE, 0, EXPECTED, e);
        }
        Sentence.says("Without THANKS: no more.");
        for (int state : FITTING) {
            int e = Script.expectedIn(state);
            Script.in(state, "without THANKS").arrive(0, e, 0, 98, 0, state).sendsNothing()
                    .feed("ab").arrive(L, e, Script.nextIn(state), 98, 0, state).sendsNothing()
                    .figures(WINDOW, 99, READABLE, 0, EXPECTED, e);
        }
    }
}
