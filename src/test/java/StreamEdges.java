/** "A SEGMENT ARRIVES", from where what it thanks for, its window, its bytes and its LAST are taken. */
final class StreamEdges implements Names {
    private static final int[] BEHIND_OPEN = {ON, LEAVING, LEFT, ALONE, PARTING, ENDING, QUIET};

    private StreamEdges() {
    }

    static void all() {
        answering();
        thanksForWhatWasNotSent();
        thankedFor();
        whatFollowsFromThanks();
        whoTellsTheWindow();
        windowOpensOrCloses();
        lastThankedFor();
        bytesCome();
        lastIsKnown();
        expectedGoesOn();
        expectedGoesOverLast();
        bytesAreThankedFor();
        inOtherStates();
        quietTime();
        nothingMoreAtTheEnd();
        allElseStays();
        twoResets();
    }

    private static void answering() {
        Sentence.says("ANSWERING: if thanked is not NEXT: resets, and no more;");
        int[] wrong = {1000, 1002, 0, 1001 + MIN, 1001 + MAX};
        for (int thanked : wrong) {
            Script.in(ANSWERING, "thanked " + thanked).feed("ab").arrive(T + L, 5001, thanked, 98, 0, ANSWERING)
                    .sends(R, thanked, 0, 0, 0, "").sendsNothing()
                    .figures(OLDEST, 1000, NEXT, 1001, WINDOW, 99, READABLE, 0, EXPECTED, 5001, ALARM, 60);
        }

        Sentence.says("else ON (LEAVING, if it has closed), and its OPEN is not to be sent any more.");
        Script.in(ANSWERING, "thanked is NEXT").arrive(T, 5001, 1001, 98, 0, ON)
                .figures(OLDEST, 1001, NEXT, 1001, WINDOW, 98, ALARM, 0).sendsNothing();
        Script.in(ANSWERING, "closed").close().arrive(T, 5001, 1001, 98, 0, LEAVING).sends(T + L, 1001, 0);
        Script.in(LISTENING, "OPEN was not sent yet").arrive(O, 5000, 0, 9, 0, ANSWERING)
                .arrive(T, 5001, 1001, 9, 0, ON).sendsNothing().figures(ALARM, 0);
        Script.in(ANSWERING, "OPEN is to be sent again").run(60, 60).arrive(T, 5001, 1001, 9, 0, ON).sendsNothing()
                .figures(TRIES, 0, ALARM, 0);
        Script.in(ANSWERING, "bytes and LAST with it").feed("ab").arrive(T + L, 5001, 1001, 9, 0, ALONE)
                .figures(READABLE, 2, EXPECTED, 5004).sends(T, 1001, 5004, 2046, 0, "").sendsNothing();
        Script.in(ANSWERING, "closed, and LAST with it").close().arrive(T + L, 5001, 1001, 9, 0, PARTING);
    }

    private static void thanksForWhatWasNotSent() {
        Sentence.says("Otherwise, if NEXT is before thanked: thanks, and no more.");
        for (int state : BEHIND_OPEN) {
            int e = Script.expectedIn(state);
            int n = Script.nextIn(state);
            Script.in(state, "thanked is NEXT and 1").feed("ab").arrive(T + L, e, n + 1, 98, 0, state)
                    .sends(T, n, e, 2048, 0, "").sendsNothing().arrive(T, e, n + MAX, 98, 0, state)
                    .sends(T, n, e, 2048, 0, "").figures(WINDOW, 99, READABLE, 0, EXPECTED, e);
            Script.in(state, "half way round from NEXT").arrive(T, e, n + MIN, 98, 0, state).sendsNothing();
        }
        Script.in(ON, "thanked is NEXT").write("ab").sends(T, 1001, 2).arrive(T, 5001, 1003, 98, 0, ON).sendsNothing()
                .figures(OLDEST, 1003, WINDOW, 98);
        Script.in(ON, "written, but not sent").write("ab").arrive(T, 5001, 1002, 98, 0, ON)
                .figures(OLDEST, 1001, OUT_BYTES, 2, WINDOW, 99);
    }

    private static void thankedFor() {
        Sentence.says("If OLDEST is before thanked: all before thanked is thanked for, and goes out of OUT;");
        Script s = Script.in(ON, "thanks bit by bit").write("abcd").sends(T, 1001, 4).arrive(T, 5001, 1001, 99, 0, ON)
                .figures(OLDEST, 1001, OUT_BYTES, 4).arrive(T, 5001, 1002, 99, 0, ON)
                .figures(OLDEST, 1002, OUT_BYTES, 3);
        s.arrive(T, 5001, 1001, 99, 0, ON).figures(OLDEST, 1002, OUT_BYTES, 3)
                .arrive(T, 5001, 1005, 99, 0, ON).figures(OLDEST, 1005, OUT_BYTES, 0);
        Script.in(ON, "what is not sent stays").write("ab").sends(T, 1001, 2).write("cd")
                .arrive(T, 5001, 1003, 99, 0, ON).figures(OLDEST, 1003, OUT_BYTES, 2)
                .sends(T, 1003, 5001, 2048, 0, "cd");
        Script.in(ON, "LAST has a number, but no byte").write("ab").close().sends(T + L, 1001, 2)
                .arrive(T, 5001, 1003, 99, 0, LEAVING).figures(OUT_BYTES, 0, OLDEST, 1003, ALARM, 20)
                .arrive(T, 5001, 1004, 99, 0, LEFT).figures(OUT_BYTES, 0, OLDEST, 1004, ALARM, 0);
        Script.in(ASKING, "OPEN has a number, but no byte").write("ab").arrive(O + T, 5000, 1001, 9, 0, ON)
                .figures(OLDEST, 1001, OUT_BYTES, 2);
    }

    private static void whatFollowsFromThanks() {
        Sentence.says("a measured time may come (see below), tries are 0, and the alarm is set anew (with WAIT as it "
                + "is then) if something sent is not thanked for, otherwise off; nothing is to be sent again.");
        // the first measured time was 0; this one of 8 makes SMOOTH 8 and SPREAD 8, and WAIT stays at its least
        Script.in(ON, "some is left").write("abcd").sends(T, 1001, 4).run(8, 8).write("e").sends(T, 1005, 1)
                .arrive(T, 5001, 1005, 99, 0, ON).figures(SMOOTH, 8, SPREAD, 8, WAIT, 20, ALARM, 20)
                .run(19, 27).figures(TRIES, 0).run(1, 28).figures(TRIES, 1);
        Script.in(ON, "nothing is left").write("abcd").sends(T, 1001, 4).run(20, 20)
                .figures(TRIES, 1, ALARM, 40, WAIT, 40)
                .arrive(T, 5001, 1005, 99, 0, ON).figures(TRIES, 0, ALARM, 0).sendsNothing().run(100, 120)
                .figures(TRIES, 0).sendsNothing();
        Script.in(ON, "WAIT as it is then").write("abcd").sends(T, 1001, 4).run(20, 20).sends(T, 1001, 4).run(3, 23)
                .figures(ALARM, 37).arrive(T, 5001, 1002, 99, 0, ON).figures(TRIES, 0, WAIT, 40, ALARM, 40);
        Script.in(ON, "WAIT as a measured time makes it").write("a").sends(T, 1001, 1).run(19, 19).write("b")
                .sends(T, 1002, 1).run(1, 20).figures(WAIT, 40, ALARM, 40, TRIES, 1)
                .arrive(T, 5001, 1002, 99, 0, ON).figures(SMOOTH, 20, SPREAD, 20, WAIT, 22, ALARM, 22, TRIES, 0);
        Script.in(ON, "nothing is to be sent again").write("abcd").sends(T, 1001, 4).run(20, 20)
                .arrive(T, 5001, 1002, 99, 0, ON).sendsNothing();
        Script.in(ON, "thanked is OLDEST: nothing of this").write("abcd").sends(T, 1001, 4).run(25, 25)
                .arrive(T, 5001, 1001, 99, 0, ON).figures(TRIES, 1, ALARM, 35).sends(T, 1001, 5001, 2048, 0, "abcd");
    }

    private static void whoTellsTheWindow() {
        Sentence.says("If thanked is not before OLDEST, and the number that told the window last is before the "
                + "segment's, or the same and what that thanked for not behind thanked: peer's window is WINDOW, "
                + "told by these two numbers;");
        Script.in(ON, "thanked is before OLDEST, or is OLDEST").arrive(T, 5001, 1000, 50, 0, ON).figures(WINDOW, 99)
                .arrive(T, 5002, 1000, 51, 0, ON).figures(WINDOW, 99).arrive(T, 5001, 1001, 52, 0, ON)
                .figures(WINDOW, 52);
        Script.in(ON, "OLDEST as it is behind the thanks").write("ab").sends(T, 1001, 2)
                .arrive(T, 5001, 1002, 50, 0, ON)
                .figures(WINDOW, 50).arrive(T, 5002, 1001, 51, 0, ON).figures(WINDOW, 50);
        Script.in(ON, "told by an earlier, the same and a later number").arrive(T, 5003, 1001, 50, 0, ON)
                .figures(WINDOW, 50)
                .arrive(T, 5002, 1001, 51, 0, ON).figures(WINDOW, 50).arrive(T, 5003, 1001, 52, 0, ON)
                .figures(WINDOW, 52)
                .arrive(T, 5004, 1001, 53, 0, ON).figures(WINDOW, 53).arrive(T, 5003, 1001, 54, 0, ON)
                .figures(WINDOW, 53);
        Script.in(ON, "the same number, and a later thanked one").write("ab").sends(T, 1001, 2)
                .arrive(T, 5001, 1002, 50, 0, ON).figures(WINDOW, 50).arrive(T, 5001, 1003, 51, 0, ON)
                .figures(WINDOW, 51);
        // half way round is not before OLDEST, but what told the window is behind it
        Script.in(ON, "the same number, and one that is behind").arrive(T, 5001, 1001 + MIN, 50, 0, ON)
                .figures(WINDOW, 99)
                .arrive(T, 5002, 1001 + MIN, 50, 0, ON).figures(WINDOW, 50).arrive(T, 5002, 1001, 51, 0, ON)
                .figures(WINDOW, 50)
                .arrive(T, 5003, 1001, 52, 0, ON).figures(WINDOW, 52);
        int[] windows = {0, 1, 65535};
        for (int window : windows) {
            Script.in(ON, "window " + window).arrive(T, 5001, 1001, window, 0, ON).figures(WINDOW, window);
        }
    }

    private static void windowOpensOrCloses() {
        Sentence.says("if it was 0 and now is not, tries are 0, no probe is to be sent, and the alarm is off unless "
                + "something sent is not thanked for; if it is 0, tries are 0.");
        Script.answered("0, then 1: nothing was sent", 100, 0, 0).write("ab").run(20, 20).figures(TRIES, 1, ALARM, 40)
                .arrive(T, 5001, 1001, 1, 0, ON).figures(TRIES, 0, ALARM, 0)
                .sends(T, 1001, 5001, 2048, 0, "a").sendsNothing();
        // were the probe still to be sent, it would follow what the window allows
        Script.answered("0, then 1, then 0: no probe", 100, 0, 0).write("ab").run(20, 20)
                .arrive(T, 5001, 1001, 1, 0, ON)
                .arrive(T, 5001, 1001, 0, 0, ON).figures(ALARM, 40).sendsNothing();
        Script.answered("0, then 1: a probe is on its way", 100, 0, 0).write("ab").run(20, 20).sends(T, 1001, 1)
                .run(15, 35)
                .arrive(T, 5001, 1001, 1, 0, ON).figures(TRIES, 0, ALARM, 25).sendsNothing()
                .run(25, 60).figures(TRIES, 1).sends(T, 1001, 5001, 2048, 0, "a");
        Script.answered("0, then 0", 100, 0, 0).write("ab").run(25, 25).figures(TRIES, 1, ALARM, 35)
                .arrive(T, 5001, 1001, 0, 0, ON).figures(TRIES, 0, ALARM, 35, WAIT, 40)
                .sends(T, 1001, 5001, 2048, 0, "a").sendsNothing();
        Script.answered("1, then 0", 100, 1, 0).write("ab").sends(T, 1001, 1).run(25, 25).figures(TRIES, 1)
                .arrive(T, 5001, 1001, 0, 0, ON).figures(TRIES, 0, ALARM, 35).sends(T, 1001, 5001, 2048, 0, "a");
        Script.answered("1, then 2: tries go on", 100, 1, 0).write("ab").sends(T, 1001, 1).run(25, 25)
                .arrive(T, 5001, 1001, 2, 0, ON).figures(TRIES, 1, ALARM, 35);
        Script.answered("0, but not taken: tries go on", 100, 1, 0).write("ab").sends(T, 1001, 1).run(25, 25)
                .arrive(T, 5001, 1000, 0, 0, ON).figures(TRIES, 1, WINDOW, 1);
    }

    private static void lastThankedFor() {
        Sentence.says("If LAST was thanked for: LEAVING is LEFT, PARTING is QUIET, ENDING is FREE (and no more).");
        int[][] rows = {{LEAVING, LEFT}, {PARTING, QUIET}, {ENDING, FREE}};
        for (int[] row : rows) {
            int e = Script.expectedIn(row[0]);
            Script.in(row[0], "LAST").arrive(T, e, 1001, 98, 0, row[0]).arrive(T, e, 1002, 98, 0, row[1])
                    .figures(OLDEST, 1002, ALARM, 0, WINDOW, 98).sendsNothing();
            Script.in(row[0], "LAST, when it is to be sent again").run(20, 20).arrive(T, e, 1002, 98, 0, row[1])
                    .sendsNothing().figures(TRIES, 0);
        }
        Script.answered("LAST was not sent", 100, 0, 0).close().arrive(T, 5001, 1001, 0, 0, LEAVING)
                .arrive(T + L, 5001, 1001, 0, 0, PARTING).arrive(T, 5002, 1001, 0, 0, PARTING);
        Script.answered("LAST was not sent, the peer has left", 100, 0, 0).arrive(T + L, 5001, 1001, 0, 0, ALONE)
                .close()
                .arrive(T, 5002, 1001, 0, 0, ENDING);
        Script.in(ENDING, "and no more").feed("ab").arrive(T + L, 5002, 1002, 98, 0, FREE).sendsNothing();
        Script.in(ON, "all but LAST").write("ab").close().sends(T + L, 1001, 2).arrive(T, 5001, 1003, 98, 0, LEAVING)
                .arrive(T, 5001, 1004, 98, 0, LEFT);
    }

    private static void bytesCome() {
        Sentence.says("Then, in ON, LEAVING, LEFT: those of its bytes that are among the ROOM numbers from EXPECTED "
                + "on and have not come yet come;");
        int[] states = {ON, LEAVING, LEFT};
        for (int state : states) {
            int n = Script.oldestIn(state);
            Script.in(state, "bytes").feed("abc").arrive(T, 5001, n, 99, 0, state).figures(EXPECTED, 5004, READABLE, 3)
                    .feed("bcdef").arrive(T, 5002, n, 99, 0, state).figures(EXPECTED, 5007, READABLE, 6).read("abcdef");
            Script.in(state, "the first that came stays").feed("c").arrive(T, 5003, n, 99, 0, state)
                    .feed("ABCD").arrive(T, 5001, n, 99, 0, state).figures(EXPECTED, 5005).read("ABcD");
            Script.in(state, "what came and was not read stays").feed("ab").arrive(T, 5001, n, 99, 0, state)
                    .feed("XYc").arrive(T, 5001, n, 99, 0, state).read("abc");
        }
        Script.in(ON, "the last of the ROOM numbers, and the one behind").feed("yz").arrive(T, 7048, 1001, 99, 0, ON)
                .feed(Script.times("x", 1460)).arrive(T, 5001, 1001, 99, 0, ON)
                .feed(Script.times("x", 587)).arrive(T, 6461, 1001, 99, 0, ON).figures(EXPECTED, 7049, READABLE, 2048)
                .read("x").feed("Z").arrive(T, 7049, 1001, 99, 0, ON).figures(EXPECTED, 7050, READABLE, 2048);
        Script.in(ON, "cut before and behind").feed("ab").arrive(T, 5001, 1001, 99, 0, ON).read("ab")
                .feed("xbc").arrive(T, 5001, 1001, 99, 0, ON).read("c").read(StreamEnd.NONE);
        Script.in(ON, "no bytes").arrive(T, 5001, 1001, 99, 0, ON).figures(EXPECTED, 5001, READABLE, 0);
        Script.in(ON, "the most bytes").feed(Script.times("x", 1460)).arrive(T, 5001, 1001, 99, 0, ON)
                .figures(EXPECTED, 6461, READABLE, 1460);
    }

    private static void lastIsKnown() {
        Sentence.says("if it has LAST, among these numbers too, the number of that is known (the first one that is "
                + "stays so).");
        Script.in(ON, "an early LAST stays").arrive(T + L, 5003, 1001, 99, 0, ON).arrive(T + L, 5002, 1001, 99, 0, ON)
                .arrive(T + L, 5001, 1001, 99, 0, ON).figures(EXPECTED, 5001)
                .feed("ab").arrive(T, 5001, 1001, 99, 0, ALONE).figures(EXPECTED, 5004, READABLE, 2);
        Script.in(ON, "a later LAST counts for nothing").arrive(T + L, 5002, 1001, 99, 0, ON)
                .feed("abc").arrive(T + L, 5001, 1001, 99, 0, ALONE).figures(EXPECTED, 5003, READABLE, 1);
        Script.in(ON, "one that has passed").feed("ab").arrive(T, 5001, 1001, 99, 0, ON)
                .feed("x").arrive(T + L, 5001, 1001, 99, 0, ON).figures(EXPECTED, 5003).feed("c")
                .arrive(T, 5003, 1001, 99, 0, ON).figures(EXPECTED, 5004);
        Script.in(ON, "at EXPECTED").feed("ab").arrive(T, 5001, 1001, 99, 0, ON).feed("ab")
                .arrive(T + L, 5001, 1001, 99, 0, ALONE).figures(EXPECTED, 5004, READABLE, 2);
        Script.in(ON, "at the last of the ROOM numbers").arrive(T + L, 7048, 1001, 99, 0, ON)
                .feed(Script.times("x", 1460)).arrive(T, 5001, 1001, 99, 0, ON)
                .feed(Script.times("x", 587)).arrive(T, 6461, 1001, 99, 0, ALONE)
                .figures(EXPECTED, 7049, READABLE, 2047, ROOM, 1);
        Script.in(ON, "behind the ROOM numbers").feed("y").arrive(T + L, 7048, 1001, 99, 0, ON)
                .feed(Script.times("x", 1460)).arrive(T, 5001, 1001, 99, 0, ON)
                .feed(Script.times("x", 587)).arrive(T, 6461, 1001, 99, 0, ON)
                .figures(EXPECTED, 7049, READABLE, 2048).read("x").arrive(T, 7049, 1001, 99, 0, ON)
                .arrive(T + L, 7049, 1001, 99, 0, ALONE).figures(EXPECTED, 7050, READABLE, 2047);
    }

    private static void expectedGoesOn() {
        Sentence.says("EXPECTED goes on over all that have come, but not over what came at the number of LAST or "
                + "behind it, which counts for nothing;");
        Script.in(ON, "over a hole that is filled").feed("c").arrive(T, 5003, 1001, 99, 0, ON)
                .feed("e").arrive(T, 5005, 1001, 99, 0, ON).figures(EXPECTED, 5001)
                .feed("a").arrive(T, 5001, 1001, 99, 0, ON).figures(EXPECTED, 5002)
                .feed("b").arrive(T, 5002, 1001, 99, 0, ON).figures(EXPECTED, 5004, READABLE, 3)
                .feed("d").arrive(T, 5004, 1001, 99, 0, ON).figures(EXPECTED, 5006).read("abcde");
        Script.in(ON, "bytes at LAST and behind it, come before").feed("bcd").arrive(T, 5002, 1001, 99, 0, ON)
                .arrive(T + L, 5003, 1001, 99, 0, ON).feed("a").arrive(T, 5001, 1001, 99, 0, ALONE)
                .figures(EXPECTED, 5004, READABLE, 2).read("ab").read(StreamEnd.OVER);
        Script.in(ON, "bytes at LAST and behind it, come later").arrive(T + L, 5002, 1001, 99, 0, ON)
                .feed("bcd").arrive(T, 5002, 1001, 99, 0, ON).feed("abc").arrive(T, 5001, 1001, 99, 0, ALONE)
                .figures(EXPECTED, 5003, READABLE, 1).read("a").read(StreamEnd.OVER);
        Script.in(ON, "a byte at EXPECTED, where LAST is").feed("xy").arrive(T, 5002, 1001, 99, 0, ON)
                .arrive(T + L, 5001, 1001, 99, 0, ALONE).figures(EXPECTED, 5002, READABLE, 0).read(StreamEnd.OVER);
    }

    private static void expectedGoesOverLast() {
        Sentence.says("and over LAST when all before it has come: then ON is ALONE, LEAVING is PARTING, LEFT is "
                + "QUIET.");
        int[][] rows = {{ON, ALONE}, {LEAVING, PARTING}, {LEFT, QUIET}};
        for (int[] row : rows) {
            int thanked = Script.oldestIn(row[0]);
            Script.in(row[0], "LAST alone").arrive(T + L, 5001, thanked, 99, 0, row[1])
                    .figures(EXPECTED, 5002, READABLE, 0, ROOM, 2048).read(StreamEnd.OVER);
            Script.in(row[0], "a byte is missing").feed("b").arrive(T + L, 5002, thanked, 99, 0, row[0])
                    .figures(EXPECTED, 5001).read(StreamEnd.NONE).feed("a").arrive(T, 5001, thanked, 99, 0, row[1])
                    .figures(EXPECTED, 5004, READABLE, 2).read("ab").read(StreamEnd.OVER);
        }
        Script.in(LEAVING, "LAST and the thanks for LAST at once").arrive(T + L, 5001, 1002, 99, 0, QUIET)
                .sends(T, 1002, 5002, 2048, 0, "");
    }

    private static void bytesAreThankedFor() {
        Sentence.says("If the segment has bytes or LAST: thanks.");
        Script.in(ON, "bytes").feed("a").arrive(T, 5001, 1001, 99, 0, ON).sends(T, 1001, 5002, 2047, 0, "")
                .sendsNothing();
        Script.in(ON, "LAST").arrive(T + L, 5001, 1001, 99, 0, ALONE).sends(T, 1001, 5002, 2048, 0, "").sendsNothing();
        Script.in(ON, "neither").arrive(T, 5001, 1001, 99, 0, ON).sendsNothing().arrive(T, 5002, 1001, 98, 0, ON)
                .sendsNothing();
        Script.in(ON, "bytes that had come").feed("ab").arrive(T, 5001, 1001, 99, 0, ON).sends(T, 1001, 0)
                .feed("b").arrive(T + L, 5002, 1001, 99, 0, ALONE).sends(T, 1001, 5004, 2046, 0, "").sendsNothing();
        Script.in(ON, "bytes out of order").feed("b").arrive(T, 5002, 1001, 99, 0, ON)
                .sends(T, 1001, 5001, 2048, 0, "");
    }

    private static void inOtherStates() {
        Sentence.says("(In other states bytes and LAST count for nothing, but for the thanks.)");
        int[] states = {ALONE, PARTING, ENDING, QUIET};
        for (int state : states) {
            int thanked = Script.oldestIn(state);
            int n = Script.nextIn(state);
            Script.in(state, "bytes").feed("ab").arrive(T, 5002, thanked, 99, 0, state)
                    .figures(EXPECTED, 5002, READABLE, 0)
                    .sends(T, n, 5002, 2048, 0, "").sendsNothing().read(StreamEnd.OVER);
            Script.in(state, "LAST").arrive(T + L, 5002, thanked, 99, 0, state).figures(EXPECTED, 5002)
                    .sends(T, n, 5002, 2048, 0, "").sendsNothing();
            Script.in(state, "neither").arrive(T, 5002, thanked, 99, 0, state).sendsNothing();
        }
        Script.in(PARTING, "bytes with what thanks for LAST").feed("ab").arrive(T, 5002, 1002, 99, 0, QUIET)
                .figures(EXPECTED, 5002, READABLE, 0).sends(T, 1002, 5002, 2048, 0, "").sendsNothing();
    }

    private static void quietTime() {
        Sentence.says("QUIET lasts so many ticks as the constructor told, then it is FREE.");
        int[] times = {1, 2, 50, 1999};
        for (int quiet : times) {
            quietEnd(quiet).run(quiet, quiet).state(FREE);
            if (quiet > 1) {
                quietEnd(quiet).run(quiet - 1, quiet - 1).state(QUIET).run(1, quiet).state(FREE);
            }
        }
        quietEnd(4000).run(2000, 2000).run(1999, 3999).state(QUIET).run(1, 4000).state(FREE);
        quietEnd(50).run(2000, 2000).state(FREE);
        quietEnd(2).sends(T, 1002, 0).run(1, 1).state(QUIET).sendsNothing().run(1, 2).state(FREE);
    }

    private static Script quietEnd(int quiet) {
        return new Script("quiet time " + quiet, 100, quiet).begin(1000, false).arrive(O + T, 5000, 1001, 99, 0, ON)
                .close()
                .sends(T + L, 1001, 0).arrive(T + L, 5001, 1002, 99, 0, QUIET);
    }

    private static void nothingMoreAtTheEnd() {
        Sentence.says("Whenever the state becomes FREE, ABORTED or QUIET, nothing but a reset (QUIET: or a thanks) "
                + "is to be sent any more, and the alarm is off;");
        Script.in(ON, "new, again and thanks, then ABORTED").write("ab").sends(T, 1001, 2).write("cd").run(20, 20)
                .feed("x")
                .arrive(T, 5001, 1001, 99, 0, ON).arrive(R, 5002, 0, 0, 0, ABORTED).sendsNothing().figures(ALARM, 0)
                .run(500, 520).sendsNothing().figures(TRIES, 1);
        Script.answered("a probe, then ABORTED", 100, 0, 0).write("ab").run(20, 20).arrive(R, 5001, 0, 0, 0, ABORTED)
                .sendsNothing().figures(ALARM, 0);
        new Script("OPEN, then FREE", 100, 50).begin(1, false).close().state(FREE).sendsNothing().figures(ALARM, 0);
        new Script("OPEN, then ABORTED", 100, 50).begin(1, false).abort().sendsNothing();
        new Script("a reset, then FREE", 100, 50).begin(1, false).arrive(T, 5, 66, 0, 0, ASKING).close()
                .sends(R, 66, 0, 0, 0, "").sendsNothing();
        new Script("a reset, then ABORTED", 100, 50).begin(1, false).arrive(T, 5, 66, 0, 0, ASKING)
                .arrive(R + T, 5, 2, 0, 0, ABORTED).sends(R, 66, 0, 0, 0, "").sendsNothing();
        Script.in(PARTING, "a thanks, then QUIET").run(20, 20).arrive(T, 4000, 0, 0, 0, PARTING)
                .arrive(T, 5002, 1002, 99, 0, QUIET).figures(ALARM, 0).sends(T, 1002, 5002, 2048, 0, "").sendsNothing();
        Script.in(QUIET, "a thanks, then FREE").arrive(T, 4000, 0, 0, 0, QUIET).run(50, 50).state(FREE).sendsNothing();
        Script.in(QUIET, "a thanks, then ABORTED").arrive(T, 4000, 0, 0, 0, QUIET).abort().sendsNothing();
        Script.in(ENDING, "LAST again and a thanks, then FREE").run(20, 20).arrive(T, 4000, 0, 0, 0, ENDING)
                .arrive(R, 5002, 0, 0, 0, FREE).sendsNothing().figures(ALARM, 0).run(100, 120).sendsNothing();
    }

    private static void allElseStays() {
        Sentence.says("all else stays as it is until begin().");
        Script.answered("ABORTED", 4, 9, 0).write("abcdef").sends(T, 1001, 4).feed("xy").arrive(T, 5001, 1002, 9, 0, ON)
                .run(20, 20).arrive(R, 5003, 0, 0, 0, ABORTED)
                .figures(OLDEST, 1002, NEXT, 1005, WINDOW, 9, EXPECTED, 5003, ROOM, 2046, WAIT, 40, OUT_BYTES, 5, READABLE, 2,
                        TRIES, 1, PIECE, 4, SMOOTH, 0, SPREAD, 0)
                .run(500, 520).figures(OLDEST, 1002, NEXT, 1005, TRIES, 1, OUT_BYTES, 5, WAIT, 40).read("xy")
                .begin(1, true).figures(OLDEST, 1, WINDOW, 0, EXPECTED, 0, WAIT, 60, OUT_BYTES, 0, TRIES, 0);
        Script.in(LEAVING, "QUIET, then FREE").feed("xy").arrive(T + L, 5001, 1002, 98, 0, QUIET)
                .figures(OLDEST, 1002, NEXT, 1002, WINDOW, 98, EXPECTED, 5004, READABLE, 2, ROOM, 2046).read("x")
                .run(50, 50).state(FREE)
                .figures(OLDEST, 1002, NEXT, 1002, WINDOW, 98, EXPECTED, 5004, READABLE, 1, ROOM, 2047)
                .read("y").read(StreamEnd.OVER);
        new Script("FREE by close()", 100, 50).begin(7, false).write("ab").close().state(FREE)
                .figures(OLDEST, 7, NEXT, 8, OUT_BYTES, 2);
    }

    private static void twoResets() {
        Sentence.says("Of two resets that are to be sent the later one is in place of the first.");
        new Script("two of them", 100, 50).arrive(T, 1, 66, 0, 0, FREE).arrive(0, 10, 0, 0, 0, FREE)
                .sends(R + T, 0, 10, 0, 0, "").sendsNothing();
        new Script("the other way round", 100, 50).arrive(0, 10, 0, 0, 0, FREE).arrive(T, 1, 66, 0, 0, FREE)
                .sends(R, 66, 0, 0, 0, "").sendsNothing();
        Script.in(ANSWERING, "the later one is abort()'s").arrive(T, 5001, 66, 0, 0, ANSWERING).abort()
                .sends(R + T, 1001, 5001, 0, 0, "").sendsNothing();
        Script.in(ON, "the first one is abort()'s").abort().arrive(T, 1, 66, 0, 0, ABORTED)
                .sends(R, 66, 0, 0, 0, "").sendsNothing();
        Script.in(ON, "one over begin()").abort().begin(7, true).arrive(T, 1, 66, 0, 0, LISTENING)
                .sends(R, 66, 0, 0, 0, "").sendsNothing();
    }
}
