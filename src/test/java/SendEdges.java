/** "WHAT IS SENT". */
final class SendEdges implements Names {
    private SendEdges() {
    }

    static void all() {
        order();
        open();
        again();
        newBytes();
        newLast();
        probe();
        thanksAndRoom();
        whatIsAThanks();
    }

    private static void order() {
        Sentence.says("WHAT IS SENT. The next segment is, of these, the first that is to be sent: a reset;");
        new Script("a reset, then OPEN", 100, 50).arrive(T, 1, 66, 0, 0, FREE).begin(7, false)
                .sends(R, 66, 0, 0, 0, "").sends(O, 7, 0, 2048, 100, "").sendsNothing();
        new Script("a reset, then a thanks", 100, 50).arrive(T, 1, 66, 0, 0, FREE).begin(7, false)
                .arrive(O + T, 5000, 8, 9, 0, ON).sends(R, 66, 0, 0, 0, "").sends(T, 8, 5001, 2048, 0, "")
                .sendsNothing();
        Script.answered("again, then new", 2, 99, 0).write("abcd").sends(T, 1001, 2).run(20, 20)
                .sends(T, 1001, 5001, 2048, 0, "ab").sends(T, 1003, 5001, 2048, 0, "cd").sendsNothing();
        Script.in(ON, "new, not a thanks").write("ab").feed("x").arrive(T, 5001, 1001, 99, 0, ON)
                .sends(T, 1001, 5002, 2047, 0, "ab").sendsNothing();
        Script.answered("a probe, not a thanks", 100, 0, 0).write("ab").run(20, 20).feed("x")
                .arrive(T, 5001, 1001, 0, 0, ON).sends(T, 1001, 5002, 2047, 0, "a").sendsNothing();
        new Script("nothing", 100, 50).sendsNothing();
    }

    private static void open() {
        Sentence.says("OPEN (with THANKS, if ANSWERING), with its largest;");
        int[] largest = {1, 100, 1460};
        for (int own : largest) {
            new Script("ASKING, own " + own, own, 50).begin(7, false).sends(O, 7, 0, 2048, own, "")
                    .arrive(O, -1, 0, 9, 50, ANSWERING).sends(O + T, 7, 0, 2048, own, "");
            new Script("LISTENING, own " + own, own, 50).begin(7, true).arrive(O, 5000, 0, 9, 50, ANSWERING)
                    .sends(O + T, 7, 5001, 2048, own, "");
        }
        new Script("its largest is out of bounds", 1461, 50).begin(7, false).sends(O, 7, 0, 2048, 536, "");
        new Script("bytes wait", 100, 50).begin(7, false).write("ab").sends(O, 7, 0, 2048, 100, "").sendsNothing()
                .arrive(O, 5000, 0, 99, 0, ANSWERING).sends(O + T, 7, 5001, 2048, 100, "").sendsNothing();
    }

    private static void again() {
        Sentence.says("what is sent AGAIN: from OLDEST on, up to NEXT, as many bytes as PIECE allows, with LAST if "
                + "that was sent and follows;");
        Script.answered("just PIECE", 4, 99, 0).write("abcd").sends(T, 1001, 4).run(20, 20)
                .sends(T, 1001, 5001, 2048, 0, "abcd").sendsNothing();
        Script.answered("one more than PIECE", 4, 99, 0).write("abcde").sends(T, 1001, 4).sends(T, 1005, 1).run(20, 20)
                .sends(T, 1001, 5001, 2048, 0, "abcd").sendsNothing();
        Script.answered("over the bounds of what was sent", 4, 99, 0).write("abcdef").sends(T, 1001, 4)
                .sends(T, 1005, 2)
                .arrive(T, 5001, 1003, 99, 0, ON).run(20, 20).sends(T, 1003, 5001, 2048, 0, "cdef").sendsNothing();
        Script.answered("up to NEXT", 4, 99, 0).write("ab").sends(T, 1001, 2).write("cd").run(20, 20)
                .sends(T, 1001, 5001, 2048, 0, "ab");
        Script.answered("just PIECE, and LAST follows", 4, 99, 0).write("abcd").close().sends(T + L, 1001, 4)
                .run(20, 20)
                .sends(T + L, 1001, 5001, 2048, 0, "abcd").sendsNothing();
        Script.answered("one more than PIECE, then LAST", 4, 99, 0).write("abcde").close().sends(T, 1001, 4)
                .sends(T + L, 1005, 1).run(20, 20).sends(T, 1001, 5001, 2048, 0, "abcd").sendsNothing()
                .arrive(T, 5001, 1002, 99, 0, LEAVING).run(40, 60).sends(T + L, 1002, 5001, 2048, 0, "bcde")
                .sendsNothing();
        Script.answered("LAST was not sent", 4, 4, 0).write("abcd").sends(T, 1001, 4).close().run(20, 20)
                .sends(T, 1001, 5001, 2048, 0, "abcd").sendsNothing();
        Script.in(LEAVING, "LAST alone").run(20, 20).sends(T + L, 1001, 5001, 2048, 0, "").sendsNothing();
        Script.answered("whatever the window", 4, 9, 0).write("abcd").sends(T, 1001, 4).arrive(T, 5001, 1001, 0, 0, ON)
                .run(20, 20).sends(T, 1001, 5001, 2048, 0, "abcd").sendsNothing();
        new Script("numbers that go round", 4, 50).begin(MAX - 2, false).arrive(O + T, 5000, MAX - 1, 99, 0, ON)
                .write("abcd").close().sends(T + L, MAX - 1, 4).figures(NEXT, MIN + 3).run(60, 60)
                .sends(T + L, MAX - 1, 5001, 2048, 0, "abcd").arrive(T, 5001, MIN, 99, 0, LEAVING).run(120, 180)
                .sends(T + L, MIN, 5001, 2048, 0, "cd");
    }

    private static void newBytes() {
        Sentence.says("NEW: in ON, LEAVING, ALONE, PARTING, ENDING, from NEXT on, as many bytes as there are, as "
                + "PIECE allows, and as peer's window does,");
        Script.in(ON, "no bytes").sendsNothing().write("a").sends(T, 1001, 5001, 2048, 0, "a").sendsNothing();
        Script.in(ON, "LEAVING").write("ab").close().sends(T + L, 1001, 5001, 2048, 0, "ab");
        Script.in(ALONE, "ALONE").write("ab").sends(T, 1001, 5002, 2048, 0, "ab").sendsNothing();
        Script.in(ON, "PARTING").write("ab").close().arrive(T + L, 5001, 1001, 99, 0, PARTING)
                .sends(T + L, 1001, 5002, 2048, 0, "ab").sendsNothing();
        Script.in(ALONE, "ENDING").write("ab").close().sends(T + L, 1001, 5002, 2048, 0, "ab").sendsNothing();
        Script.in(ASKING, "not in ASKING or ANSWERING").write("ab").sendsNothing().arrive(O, 5000, 0, 99, 0, ANSWERING)
                .sends(O + T, 1000, 0).sendsNothing();
        int[][] rows = {{4, 99, 3, 3}, {4, 99, 4, 4}, {4, 99, 5, 4}, {4, 3, 8, 3}, {4, 4, 8, 4}, {4, 5, 8, 4}, {4, 1, 8, 1},
            {1, 99, 8, 1}, {8, 8, 8, 8}, {8, 65535, 7, 7}};
        for (int[] row : rows) {
            Script.answered("piece " + row[0] + ", window " + row[1] + ", bytes " + row[2], row[0], row[1], 0)
                    .write("abcdefgh".substring(0, row[2])).sends(T, 1001, row[3]).figures(NEXT, 1001 + row[3]);
        }
        Script.answered("window 0", 4, 0, 0).write("ab").sendsNothing();
        Script.answered("the window is full", 4, 2, 0).write("abc").sends(T, 1001, 2).sendsNothing()
                .arrive(T, 5001, 1001, 1, 0, ON).sendsNothing().arrive(T, 5001, 1001, 3, 0, ON).sends(T, 1003, 1);
    }

    private static void newLast() {
        Sentence.says("and LAST with them or alone, if it has closed, all bytes before it are in this or earlier "
                + "segments, and peer's window allows it;");
        Script.answered("it has not closed", 4, 99, 0).write("ab").sends(T, 1001, 5001, 2048, 0, "ab").sendsNothing();
        Script.answered("with them", 4, 99, 0).write("ab").close().sends(T + L, 1001, 5001, 2048, 0, "ab")
                .sendsNothing();
        Script.answered("with just PIECE bytes", 4, 99, 0).write("abcd").close()
                .sends(T + L, 1001, 5001, 2048, 0, "abcd")
                .sendsNothing();
        Script.answered("with the last piece alone", 4, 99, 0).write("abcde").close()
                .sends(T, 1001, 5001, 2048, 0, "abcd")
                .sends(T + L, 1005, 5001, 2048, 0, "e").sendsNothing();
        Script.answered("alone", 4, 99, 0).close().sends(T + L, 1001, 5001, 2048, 0, "").sendsNothing();
        Script.answered("alone, behind bytes that were sent", 4, 99, 0).write("ab").sends(T, 1001, 2).close()
                .sends(T + L, 1003, 5001, 2048, 0, "").sendsNothing();
        Script.answered("the window has no number for it", 4, 2, 0).write("ab").close()
                .sends(T, 1001, 5001, 2048, 0, "ab").sendsNothing().arrive(T, 5001, 1002, 2, 0, LEAVING)
                .sends(T + L, 1003, 5001, 2048, 0, "").sendsNothing();
        Script.answered("the window has just one for it", 4, 3, 0).write("ab").close()
                .sends(T + L, 1001, 5001, 2048, 0, "ab").sendsNothing();
        Script.answered("window 1, LAST alone", 4, 1, 0).close().sends(T + L, 1001, 5001, 2048, 0, "").sendsNothing();
        Script.answered("window 0, LAST alone", 4, 0, 0).close().sendsNothing();
        Script.answered("not all bytes before it", 4, 1, 0).write("ab").close().sends(T, 1001, 5001, 2048, 0, "a")
                .sendsNothing();
    }

    private static void probe() {
        Sentence.says("a PROBE: the next one number from NEXT on, a byte or LAST; a thanks.");
        Script.answered("a byte of many", 4, 0, 0).write("abc").run(20, 20).sends(T, 1001, 5001, 2048, 0, "a")
                .sendsNothing()
                .figures(NEXT, 1002);
        Script.answered("the only byte, LAST behind it", 4, 0, 0).write("a").close().run(20, 20)
                .sends(T, 1001, 5001, 2048, 0, "a").sendsNothing().figures(NEXT, 1002)
                .arrive(T, 5001, 1002, 0, 0, LEAVING).run(20, 40).sends(T + L, 1002, 5001, 2048, 0, "").sendsNothing()
                .figures(NEXT, 1003);
        Script.answered("LAST", 4, 0, 0).close().run(20, 20).sends(T + L, 1001, 5001, 2048, 0, "").sendsNothing()
                .figures(NEXT, 1002);
        Script.answered("behind what was thanked for", 4, 2, 0).write("abc").sends(T, 1001, 2)
                .arrive(T, 5001, 1003, 0, 0, ON).run(20, 20).sends(T, 1003, 5001, 2048, 0, "c").sendsNothing();
        Script.in(ON, "a thanks, with NEXT as its number").write("ab").sends(T, 1001, 2).feed("x")
                .arrive(T, 5001, 1001, 99, 0, ON).sends(T, 1003, 5002, 2047, 0, "").sendsNothing();
        Script.in(QUIET, "a thanks").arrive(T, 4000, 0, 0, 0, QUIET).sends(T, 1002, 5002, 2048, 0, "").sendsNothing();
    }

    private static void thanksAndRoom() {
        Sentence.says("All but a reset have THANKS and EXPECTED, once the peer's OPEN has come, and ROOM as window;");
        new Script("before the peer's OPEN", 100, 50).begin(7, false).sends(O, 7, 0, 2048, 100, "");
        new Script("EXPECTED is 0", 100, 50).begin(7, false).arrive(O + T, -1, 8, 99, 0, ON)
                .sends(T, 8, 0, 2048, 0, "");
        Script.in(ON, "ROOM 2046").feed("xy").arrive(T, 5001, 1001, 99, 0, ON).sends(T, 1001, 5003, 2046, 0, "")
                .write("ab")
                .sends(T, 1001, 5003, 2046, 0, "ab").run(20, 20).read("x").sends(T, 1001, 5003, 2047, 0, "ab").close()
                .read("y")
                .sends(T + L, 1003, 5003, 2048, 0, "");
        Script.full("ROOM 0", 100).write("ab").sends(T, 1001, 7049, 0, 0, "ab").read("x").write("c")
                .sends(T, 1003, 7049, 1, 0, "c");
        Script.answered("a probe", 100, 0, 0).feed("xy").arrive(T, 5001, 1001, 0, 0, ON).write("a").run(20, 20)
                .sends(T, 1001, 5003, 2046, 0, "a").sendsNothing();
        Script.in(ANSWERING, "OPEN again").run(60, 60).sends(O + T, 1000, 5001, 2048, 100, "");
    }

    private static void whatIsAThanks() {
        Sentence.says("what has THANKS is a thanks, too.");
        Script.in(ON, "new").feed("x").arrive(T, 5001, 1001, 99, 0, ON).write("a").sends(T, 1001, 1).sendsNothing();
        Script.in(ON, "LAST").feed("x").arrive(T, 5001, 1001, 99, 0, ON).close().sends(T + L, 1001, 0).sendsNothing();
        Script.in(ON, "again").write("a").sends(T, 1001, 1).run(20, 20).feed("x").arrive(T, 5001, 1001, 99, 0, ON)
                .sends(T, 1001, 1).sendsNothing();
        Script.answered("a probe", 100, 0, 0).write("a").run(20, 20).feed("x").arrive(T, 5001, 1001, 0, 0, ON)
                .sends(T, 1001, 1).sendsNothing();
        Script.in(LISTENING, "OPEN").arrive(O, 5000, 0, 9, 0, ANSWERING).arrive(O, 5000, 0, 9, 0, ANSWERING)
                .sends(O + T, 1000, 0).sendsNothing();
        Script.in(ON, "a thanks is one for all").feed("x").arrive(T, 5001, 1001, 99, 0, ON).feed("y")
                .arrive(T, 5002, 1001, 99, 0, ON).sends(T, 1001, 5003, 2046, 0, "").sendsNothing();
        new Script("a reset with THANKS", 100, 50).arrive(0, 10, 0, 0, 0, FREE).begin(1000, false)
                .arrive(O + T, 5000, 1001, 9, 0, ON).sends(R + T, 0, 10, 0, 0, "").sendsNothing();
        new Script("a reset without THANKS is none", 100, 50).arrive(T, 10, 66, 0, 0, FREE).begin(1000, false)
                .arrive(O + T, 5000, 1001, 9, 0, ON).sends(R, 66, 0, 0, 0, "").sends(T, 1001, 0).sendsNothing();

        Sentence.says("(Resets have window 0.)");
        new Script("resets", 100, 50).arrive(0, 10, 0, 9, 9, FREE).sends(R + T, 0, 10, 0, 0, "")
                .arrive(T, 10, 66, 9, 9, FREE).sends(R, 66, 0, 0, 0, "");
        Script.in(ON, "abort()'s").abort().sends(R + T, 1001, 5001, 0, 0, "");
    }
}
