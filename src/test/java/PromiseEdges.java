/** The promises 1 to 14, each in its own section. */
final class PromiseEdges implements Names {
    private static final int[] FAR_OUT = {MIN, MIN + 1, -1000000, MAX - 1, MAX};

    private PromiseEdges() {
    }

    static void all() {
        newObject();
        begin();
        beginForgets();
        write();
        read();
        readTellsRoom();
        close();
        abort();
        run();
        runToTheEndOfTime();
        next();
        segment();
        byteAt();
        feed();
        arrive();
        stateAndFigure();
    }

    private static void newObject() {
        Sentence.says("A FREE end; its own largest piece is 1 .. 1460 (otherwise 536), quiet time 1 .. 4000 ticks "
                + "(otherwise 2000); time is 0.");
        int[][] largest = {{1, 1}, {2, 2}, {1459, 1459}, {1460, 1460}, {0, 536}, {-1, 536}, {1461, 536},
            {MAX, 536}, {MIN, 536}};
        for (int[] row : largest) {
            new Script("largest " + row[0], row[0], 50).state(FREE).figures(PIECE, row[1]).begin(1, false)
                    .sends(O, 1, 0, 2048, row[1], "").run(1, 1);
        }
        int[][] quiet = {{1, 1}, {2, 2}, {3999, 3999}, {4000, 4000}, {0, 2000}, {-1, 2000},
            {4001, 2000}, {MAX, 2000}, {MIN, 2000}};
        for (int[] row : quiet) {
            Script s = new Script("quiet " + row[0], 100, row[0]).begin(1, false).arrive(O + T, 50, 2, 9, 0, ON).close()
                    .sends(T + L, 2, 0).arrive(T + L, 51, 3, 9, 0, QUIET);
            int left = row[1] - 1;
            int time = 0;
            while (left > 0) {
                int step = Math.min(left, 2000);
                time += step;
                left -= step;
                s.run(step, time);
            }
            s.state(QUIET).run(1, row[1]).state(FREE);
        }
        new Script("figures of a new one", 100, 50)
                .figures(OLDEST, 0, NEXT, 0, WINDOW, 0, EXPECTED, 0, ROOM, 2048, WAIT, 60,
                OUT_BYTES, 0, READABLE, 0, TRIES, 0, PIECE, 100, SMOOTH, 0, SPREAD, 0, ALARM, 0).sendsNothing();
    }

    private static void begin() {
        Sentence.says("Begins a new stream with a first number, listening or asking (its OPEN is to be sent);");
        int[] firsts = {0, 1, -1, MAX, MIN};
        for (int first : firsts) {
            new Script("asking with " + first, 100, 50).begin(first, false).state(ASKING)
                    .sends(O, first, 0, 2048, 100, "")
                    .sendsNothing();
            new Script("listening with " + first, 100, 50).begin(first, true).state(LISTENING).figures(OLDEST, first)
                    .sendsNothing();
        }
        Sentence.says("Illegal state: it is not FREE or ABORTED.");
        for (int state = 0; state <= 11; state++) {
            Script s = Script.in(state, "begin");
            if (state == FREE || state == ABORTED) {
                s.begin(7, true).state(LISTENING).figures(OLDEST, 7);
            } else {
                int next = state == LISTENING ? 1000 : Script.nextIn(state);
                s.illegalState("begin", e -> e.begin(7, true)).illegalState("begin", e -> e.begin(7, false))
                        .state(state)
                        .figures(NEXT, next).sendsNothing();
            }
        }
    }

    private static void beginForgets() {
        Sentence.says("all of an old one is gone, what can be read, too, and all figures are as at first, but for a "
                + "reset that is to be sent.");
        boolean[] both = {true, false};
        for (boolean listening : both) {
            Script s = Script.answered("an old one", 4, 9, 2).write("abcdef").sends(T, 1001, 2).feed("xyz")
                    .arrive(T, 5001, 1002, 9, 0, ON).feed("z").arrive(T, 5010, 1002, 9, 0, ON).run(25, 25)
                    .arrive(T + L, 5012, 1002, 9, 0, ON).abort().figures(READABLE, 3, OUT_BYTES, 5, TRIES, 1, PIECE, 2);
            s.begin(7, listening)
                    .figures(OLDEST, 7, NEXT, listening ? 7 : 8, WINDOW, 0, EXPECTED, 0, ROOM, 2048, WAIT, 60, OUT_BYTES, 0,
                    READABLE, 0, TRIES, 0, PIECE, 4, SMOOTH, 0, SPREAD, 0, ALARM, 0)
                    .sends(R + T, 1003, 5004, 0, 0, "");
            if (listening) {
                s.sendsNothing().illegalState("read()", e -> e.read());
            } else {
                s.sends(O, 7, 0, 2048, 4, "").sendsNothing().read(StreamEnd.NONE).write("n");
            }
        }
        Script.in(ALONE, "OVER is gone").abort().read(StreamEnd.OVER).begin(7, false).read(StreamEnd.NONE);
        Script.in(LEAVING, "what was sent and closed may be so anew").abort().sends(R + T, 1002, 0).begin(7, false)
                .write("ab")
                .arrive(O + T, 50, 8, 9, 0, ON).sends(T, 8, 51, 2048, 0, "ab").close().sends(T + L, 10, 51, 2048, 0, "")
                .sendsNothing().arrive(T, 51, 11, 9, 0, LEFT);
        Script.in(ON, "bytes that were sent").write("abc").sends(T, 1001, 3).abort().sends(R + T, 1004, 0)
                .begin(7, false)
                .arrive(O + T, 50, 8, 9, 0, ON).write("de").sends(T, 8, 51, 2048, 0, "de").sendsNothing();
        Script.in(ON, "what came behind EXPECTED, and LAST, are gone").feed("c").arrive(T + L, 5003, 1001, 9, 0, ON)
                .abort()
                .sends(R + T, 1001, 0).begin(1000, true).arrive(O, 5000, 0, 9, 0, ANSWERING).feed("ab")
                .arrive(T, 5001, 1001, 9, 0, ON).figures(EXPECTED, 5003).feed("XYZ").arrive(T, 5003, 1001, 9, 0, ON)
                .read("abXYZ")
                .arrive(T + L, 5006, 1001, 9, 0, ALONE);
        Script.in(ASKING, "measured times are gone").run(40, 40).arrive(O + T, 5000, 1001, 9, 0, ON)
                .figures(SMOOTH, 320, SPREAD, 80, WAIT, 120).write("a").sends(T, 1001, 1).abort().sends(R + T, 1002, 0)
                .begin(7, false).figures(SMOOTH, 0, SPREAD, 0, WAIT, 60).run(5, 45).sends(O, 7, 0).run(10, 55)
                .arrive(O + T, 50, 8, 9, 0, ON).figures(SMOOTH, 80, SPREAD, 20, WAIT, 30);
    }

    private static void write() {
        Sentence.says("Writes n bytes, those of the n lowest bytes of the long, the highest of these first: how many "
                + "were taken, the first ones, as long as there is room.");
        String bytes = "\u00f1\u00e2\u00d3\u00c4\u0035\u0026\u0017\u0008";
        for (int n = 1; n <= 8; n++) {
            Script.in(ON, "n " + n).write(0xf1e2d3c435261708L, n, n).figures(OUT_BYTES, n)
                    .sends(T, 1001, 5001, 2048, 0, bytes.substring(8 - n));
        }
        Script s = new Script("room for 3", 1460, 50).begin(1000, false);
        for (int i = 0; i < 255; i++) {
            s.write(0, 8, 8);
        }
        s.write(0, 5, 5).write(0x4142434445464748L, 8, 3).figures(OUT_BYTES, 2048).write(0x49, 1, 0).write(-1L, 8, 0)
                .figures(OUT_BYTES, 2048).arrive(O + T, 5000, 1001, 65535, 1460, ON).sends(T, 1001, 1460)
                .sends(T, 2461, 588)
                .byteAt(584, 0).byteAt(585, 'A').byteAt(586, 'B').byteAt(587, 'C').sendsNothing();

        Sentence.says("Illegal argument: n is not 1 .. 8; illegal state: it has closed, or is FREE, LISTENING or "
                + "ABORTED.");
        int[] wrong = {0, -1, 9, 10, MIN, MAX};
        for (int n : wrong) {
            Script.in(ON, "n " + n).illegalArgument("write", e -> e.write(1, n)).figures(OUT_BYTES, 0).sendsNothing();
            Script.in(FREE, "n " + n).illegalArgument("write", e -> e.write(1, n));
        }
        for (int state = 0; state <= 11; state++) {
            Script t = Script.in(state, "write");
            if (state == ASKING || state == ANSWERING || state == ON || state == ALONE) {
                t.write(1, 1, 1).figures(OUT_BYTES, 1);
            } else {
                t.illegalState("write", e -> e.write(1, 1)).illegalState("write", e -> e.write(1, 8))
                        .figures(OUT_BYTES, 0);
            }
        }
        Script.in(ANSWERING, "closed").close().illegalState("write", e -> e.write(1, 1));
    }

    private static void read() {
        Sentence.says("Reads the next byte, 0 .. 255; or NONE or OVER.");
        Script.in(ON, "bytes").feed("\u0000\u0001\u007f\u0080\u00fe\u00ff").arrive(T + L, 5001, 1001, 99, 0, ALONE)
                .read(0).read(1).read(127).read(128).read(254).read(255).read(StreamEnd.OVER).read(StreamEnd.OVER);
        Script.in(ON, "none").read(StreamEnd.NONE).figures(READABLE, 0, ROOM, 2048);
        Script.in(ASKING, "none yet").read(StreamEnd.NONE);
        Script.in(ANSWERING, "none yet").read(StreamEnd.NONE);
        int[] over = {ALONE, PARTING, ENDING, QUIET};
        for (int state : over) {
            Script.in(state, "over").read(StreamEnd.OVER);
        }

        Sentence.says("Illegal state: it is FREE, LISTENING or ABORTED, nothing can be read, and it would not tell "
                + "OVER.");
        int[] nothing = {FREE, LISTENING, ABORTED};
        for (int state : nothing) {
            Script.in(state, "nothing").illegalState("read()", e -> e.read());
        }
        Script.in(ON, "ABORTED, something can be read").feed("a").arrive(T, 5001, 1001, 99, 0, ON).abort().read("a")
                .illegalState("read()", e -> e.read());
        Script.in(ON, "ABORTED, something and OVER").feed("a").arrive(T + L, 5001, 1001, 99, 0, ALONE).abort().read("a")
                .read(StreamEnd.OVER);
        Script.in(LEAVING, "FREE, something and OVER").feed("a").arrive(T + L, 5001, 1002, 99, 0, QUIET).run(50, 50)
                .state(FREE)
                .read("a").read(StreamEnd.OVER);
        Script.in(ON, "ABORTED, LAST came too early").arrive(T + L, 5002, 1001, 99, 0, ON).abort()
                .illegalState("read()", e -> e.read());
    }

    private static void readTellsRoom() {
        Sentence.says("When ROOM was less than the lesser of PIECE and 1024, and is not so any more behind this, a "
                + "thanks is to be sent (in ON, LEAVING, LEFT).");
        Script.full("PIECE 5", 5).read("xxxx").figures(ROOM, 4).sendsNothing().read("x").figures(ROOM, 5)
                .sends(T, 1001, 7049, 5, 0, "").sendsNothing().read("x").sendsNothing();
        Script.full("PIECE 1", 1).read("x").sends(T, 1001, 7049, 1, 0, "").read("x").sendsNothing();
        Script.full("LEAVING", 3).close().sends(T + L, 1001, 0).read("xx").sendsNothing().read("x")
                .sends(T, 1002, 7049, 3, 0, "");
        Script.full("LEFT", 3).close().sends(T + L, 1001, 0).arrive(T, 7049, 1002, 99, 0, LEFT).read("xx")
                .sendsNothing()
                .read("x").sends(T, 1002, 7049, 3, 0, "").sendsNothing();
        Script.full("ABORTED", 3).arrive(R, 7049, 0, 0, 0, ABORTED).read("xxxx").sendsNothing();
        nearly(3, 2046, "ALONE").arrive(T + L, 7047, 1001, 99, 0, ALONE).sends(T, 1001, 0).read("xxxx").sendsNothing();
        nearly(3, 2046, "PARTING").close().sends(T + L, 1001, 0).arrive(T + L, 7047, 1001, 99, 0, PARTING)
                .sends(T, 1002, 0).read("xxxx").sendsNothing();
        nearly(3, 2046, "ENDING").arrive(T + L, 7047, 1001, 99, 0, ALONE).close().sends(T + L, 1001, 0).read("xxxx")
                .sendsNothing();
        nearly(3, 2046, "QUIET").close().sends(T + L, 1001, 0).arrive(T + L, 7047, 1002, 99, 0, QUIET).sends(T, 1002, 0)
                .read("xxxx").sendsNothing();
        int[] pieces = {1024, 1025, 1460};
        for (int piece : pieces) {
            nearly(piece, 1026, "PIECE " + piece).figures(ROOM, 1022).read("x").sendsNothing().read("x")
                    .figures(ROOM, 1024)
                    .sends(T, 1001, 6027, 1024, 0, "").sendsNothing().read("x").sendsNothing();
        }
        nearly(1023, 1026, "PIECE 1023").read("x").figures(ROOM, 1023).sends(T, 1001, 6027, 1023, 0, "").read("x")
                .sendsNothing();
        nearly(1024, 1024, "ROOM is just enough").figures(ROOM, 1024).read("x").sendsNothing();
    }

    /** An end that is ON, with so many bytes 'x' to be read. */
    private static Script nearly(int piece, int count, String name) {
        int some = Math.min(count, 1460);
        Script s = Script.answered(name, piece, 99, 1460).feed(Script.times("x", some))
                .arrive(T, 5001, 1001, 99, 0, ON);
        if (count > some) {
            s.feed(Script.times("x", count - some)).arrive(T, 5001 + some, 1001, 99, 0, ON);
        }
        return s.sends(T, 1001, 0);
    }

    private static void close() {
        Sentence.says("Nothing more will be written: LISTENING and ASKING are FREE, ON is LEAVING, ALONE is ENDING; "
                + "ANSWERING goes on.");
        int[][] rows = {{LISTENING, FREE}, {ASKING, FREE}, {ON, LEAVING}, {ALONE, ENDING}, {ANSWERING, ANSWERING}};
        for (int[] row : rows) {
            Script.in(row[0], "close()").close().state(row[1]).illegalState("write", e -> e.write(1, 1));
        }
        Script.in(ANSWERING, "LEAVING then").close().arrive(T, 5001, 1001, 99, 0, LEAVING).sends(T + L, 1001, 0);

        Sentence.says("Illegal state: it has closed, or is FREE or ABORTED.");
        int[] closed = {FREE, LEAVING, LEFT, PARTING, ENDING, QUIET, ABORTED};
        for (int state : closed) {
            Script.in(state, "close()").illegalState("close()", e -> e.close()).state(state).sendsNothing();
        }
        Script.in(ANSWERING, "closed twice").close().illegalState("close()", e -> e.close()).state(ANSWERING)
                .arrive(T, 5001, 1001, 99, 0, LEAVING).illegalState("close()", e -> e.close());
        Script.in(LISTENING, "closed twice, FREE").close().illegalState("close()", e -> e.close()).begin(1, true)
                .close();
    }

    private static void abort() {
        Sentence.says("ABORTED; a reset with NEXT as number, THANKS, and EXPECTED as what it thanks for (0 before "
                + "the peer's OPEN) is to be sent, but for LISTENING, ASKING and QUIET.");
        int[] told = {ANSWERING, ON, LEAVING, LEFT, ALONE, PARTING, ENDING};
        for (int state : told) {
            Script.in(state, "abort()").abort().state(ABORTED).figures(ALARM, 0)
                    .sends(R + T, Script.nextIn(state), Script.expectedIn(state), 0, 0, "").sendsNothing();
        }
        int[] silent = {LISTENING, ASKING, QUIET};
        for (int state : silent) {
            Script.in(state, "abort()").abort().state(ABORTED).figures(ALARM, 0).sendsNothing().run(2000, 2000)
                    .state(ABORTED);
        }
        Script.in(ON, "not all was sent").write("abc").sends(T, 1001, 3).write("de").abort()
                .sends(R + T, 1004, 5001, 0, 0, "").sendsNothing();
        new Script("numbers that go round", 100, 50).begin(MAX, true).arrive(O, MAX, 0, 9, 0, ANSWERING).abort()
                .sends(R + T, MIN, MIN, 0, 0, "");

        Sentence.says("Illegal state: it is FREE or ABORTED.");
        Script.in(FREE, "abort()").illegalState("abort()", e -> e.abort()).state(FREE).sendsNothing();
        Script.in(ABORTED, "abort()").illegalState("abort()", e -> e.abort()).state(ABORTED).sendsNothing();
        Script.in(ON, "twice").abort().illegalState("abort()", e -> e.abort()).sends(R + T, 1001, 0).sendsNothing();
    }

    private static void run() {
        Sentence.says("So many ticks go by, one by one: the time.");
        new Script("ticks", 100, 50).run(1, 1).run(1999, 2000).run(2000, 4000).begin(1, true).run(1, 4001);
        // what comes with a tick counts before the next one: alarms at 60, 180, 420, 900 and 1860
        Script.in(ASKING, "one by one").run(2000, 2000).figures(TRIES, 5, WAIT, 1200, ALARM, 1060);
        Script.in(QUIET, "one by one, QUIET").run(51, 51).state(FREE);

        Sentence.says("Illegal argument: n is not 1 .. 2000; illegal state: it would be more than 1000000.");
        Script s = Script.in(ASKING, "n");
        int[] wrong = {0, -1, 2001, MIN, MAX};
        for (int n : wrong) {
            s.illegalArgument("run(" + n + ")", e -> e.run(n));
        }
        for (int n : FAR_OUT) {
            s.illegalArgument("run(" + n + ")", e -> e.run(n));
        }
        s.figures(ALARM, 60).run(1, 1).figures(ALARM, 59);
    }

    private static void runToTheEndOfTime() {
        Script s = new Script("just 1000000", 100, 50);
        for (int i = 1; i <= 499; i++) {
            s.run(2000, 2000 * i);
        }
        s.run(1999, 999999).illegalState("run(2)", e -> e.run(2)).illegalState("run(2000)", e -> e.run(2000))
                .illegalArgument("run(2001)", e -> e.run(2001)).illegalArgument("run(0)", e -> e.run(0)).run(1, 1000000)
                .illegalState("run(1)", e -> e.run(1)).illegalState("run(2000)", e -> e.run(2000))
                .illegalArgument("run(2001)", e -> e.run(2001));
        Script t = new Script("1000000 at once", 100, 50);
        for (int i = 1; i <= 500; i++) {
            t.run(2000, 2000 * i);
        }
        t.illegalState("run(1)", e -> e.run(1)).begin(1, false).sends(O, 1, 0).figures(ALARM, 60);
    }

    private static void next() {
        Sentence.says("Makes the next segment, if something is to be sent: whether there was.");
        new Script("next()", 100, 50).sendsNothing().begin(1, false).sends(O, 1, 0).sendsNothing()
                .segment(O, 1, 0, 2048, 100, 0)
                .sendsNothing();
        for (int state = 0; state <= 11; state++) {
            Script.in(state, "nothing").sendsNothing();
        }
    }

    private static void segment() {
        Sentence.says("Of the segment that was made last: what = 0: its flags, 1: number, 2: thanked (0 without "
                + "THANKS), 3: window, 4: largest (0 without OPEN), 5: how many bytes.");
        new Script("parts", 77, 50).begin(-5, false).sends(O, -5, 0, 2048, 77, "").arrive(O + T, 9, -4, 40, 20, ON)
                .feed("xyz").arrive(T, 10, -4, 40, 20, ON).write("ab").close().sends(T + L, -4, 13, 2045, 0, "ab")
                .sendsNothing().segment(T + L, -4, 13, 2045, 0, 2).abort().segment(T + L, -4, 13, 2045, 0, 2)
                .arrive(T, 1, 66, 0, 0, ABORTED).sends(R, 66, 0, 0, 0, "");

        Sentence.says("Illegal argument: what is none of these; illegal state: none was made.");
        int[] wrong = {-1, 6, 7, MIN, MAX};
        Script made = Script.in(ASKING, "made");
        Script none = new Script("none was made", 100, 50).begin(1, true).sendsNothing();
        for (int what : wrong) {
            made.illegalArgument("segment(" + what + ")", e -> e.segment(what));
            none.illegalArgument("segment(" + what + ")", e -> e.segment(what));
        }
        for (int i = 0; i <= 5; i++) {
            int what = i;
            none.illegalState("segment(" + what + ")", e -> e.segment(what));
        }
        made.segment(O, 1000, 0, 2048, 100, 0);
        new Script("to be sent, but not made", 100, 50).begin(1, false).illegalState("segment(0)", e -> e.segment(0));
    }

    private static void byteAt() {
        Sentence.says("Byte i of it.");
        Script.in(ON, "bytes").write("\u0000\u0080\u00ff").sends(T, 1001, 3).byteAt(0, 0).byteAt(1, 128).byteAt(2, 255);
        Script.answered("the most bytes", 1460, 2048, 1460).write(Script.times("abcdefgh", 183)).sends(T, 1001, 1460)
                .byteAt(0, 'a').byteAt(1459, 'd').outOfBounds("byteAt(1460)", e -> e.byteAt(1460));

        Sentence.says("Illegal state: none was made; index out of bounds: it has no such byte.");
        new Script("none was made", 100, 50).illegalState("byteAt(0)", e -> e.byteAt(0))
                .illegalState("byteAt(-1)", e -> e.byteAt(-1)).illegalState("byteAt(1460)", e -> e.byteAt(1460));
        Script s = Script.in(ON, "three").write("abc").sends(T, 1001, 3).outOfBounds("byteAt(3)", e -> e.byteAt(3))
                .outOfBounds("byteAt(-1)", e -> e.byteAt(-1));
        for (int i : FAR_OUT) {
            s.outOfBounds("byteAt(" + i + ")", e -> e.byteAt(i));
        }
        s.byteAt(2, 'c').feed("x").arrive(T, 5001, 1004, 99, 0, ON).sends(T, 1004, 0)
                .outOfBounds("byteAt(0) of a thanks", e -> e.byteAt(0));
    }

    private static void feed() {
        Sentence.says("Adds n bytes, as write() takes them, to those of the segment that arrives next: how many they "
                + "are.");
        Script s = Script.in(ON, "bytes");
        int sum = 0;
        for (int n = 1; n <= 8; n++) {
            sum += n;
            s.feed(0xf1e2d3c435261708L, n, sum);
        }
        String bytes = "\u00f1\u00e2\u00d3\u00c4\u0035\u0026\u0017\u0008";
        s.arrive(T, 5001, 1001, 99, 0, ON).figures(READABLE, 36);
        for (int n = 1; n <= 8; n++) {
            s.read(bytes.substring(8 - n));
        }
        s.feed(1, 1, 1);

        Sentence.says("Illegal argument: n is not 1 .. 8; illegal state: they would be more than 1460.");
        int[] wrong = {0, -1, 9, MIN, MAX};
        Script t = Script.in(ON, "n");
        for (int n : wrong) {
            t.illegalArgument("feed(.., " + n + ")", e -> e.feed(1, n));
        }
        t.feed(Script.times("abcdefgh", 182)).illegalState("feed(.., 5)", e -> e.feed(1, 5))
                .illegalState("feed(.., 8)", e -> e.feed(1, 8)).illegalArgument("feed(.., 9)", e -> e.feed(1, 9))
                .feed(0x31323334, 4, 1460).illegalState("feed(.., 1)", e -> e.feed(1, 1))
                .illegalArgument("feed(.., 0)", e -> e.feed(1, 0)).arrive(T, 5001, 1001, 99, 0, ON)
                .figures(READABLE, 1460)
                .feed(1, 1, 1);
        new Script("1459 and 2", 100, 50).feed(Script.times("x", 1459)).illegalState("feed(.., 2)", e -> e.feed(1, 2))
                .feed(1, 1, 1460);
    }

    private static void arrive() {
        Sentence.says("A segment arrives, with the bytes that were fed (which are used up): the state then.");
        Script.in(ON, "used up").feed("ab").arrive(T, 5001, 1001, 99, 0, ON).figures(READABLE, 2)
                .arrive(T, 5003, 1001, 99, 0, ON).figures(READABLE, 2, EXPECTED, 5003).feed(1, 1, 1);
        new Script("used up, though they count for nothing", 100, 50).feed("ab").arrive(R, 1, 1, 1, 1, FREE)
                .feed(1, 1, 1)
                .arrive(0, 10, 0, 0, 0, FREE).sends(R + T, 0, 11, 0, 0, "").arrive(0, 10, 0, 0, 0, FREE)
                .sends(R + T, 0, 10, 0, 0, "");

        Sentence.says("Illegal argument: flags is not 0 .. 15, or window or largest not 0 .. 65535 (the bytes stay).");
        int[][] wrong = {{-1, 0, 0}, {16, 0, 0}, {MIN, 0, 0}, {MAX, 0, 0}, {T, -1, 0}, {T, 65536, 0},
            {T, MIN, 0}, {T, MAX, 0}, {T, 0, -1}, {T, 0, 65536}, {T, 0, MIN}, {T, 0, MAX}, {16, 65536, 65536}};
        Script s = Script.in(ON, "wrong parts").feed("abc");
        for (int[] row : wrong) {
            s.illegalArgument("arrive(" + row[0] + ", .., " + row[1] + ", " + row[2] + ")",
                    e -> e.arrive(row[0], 5001, 1001, row[1], row[2]));
        }
        s.figures(WINDOW, 99, READABLE, 0, EXPECTED, 5001).sendsNothing().arrive(T, 5001, 1001, 65535, 65535, ON)
                .figures(READABLE, 3, WINDOW, 65535).arrive(T, 5004, 1001, 0, 0, ON).figures(WINDOW, 0);
        Script.in(FREE, "wrong parts when FREE").illegalArgument("arrive(16)", e -> e.arrive(16, 0, 0, 0, 0))
                .sendsNothing();
        Script.in(ON, "the greatest flags").arrive(15, 5001, 0, 0, 0, ABORTED);
    }

    private static void stateAndFigure() {
        Sentence.says("The state.");
        for (int state = 0; state <= 11; state++) {
            Script.in(state, "state()").state(state).state(state);
        }
        Sentence.says("what = 0: OLDEST, 1: NEXT, 2: peer's window, 3: EXPECTED (0 before the peer's OPEN), 4: ROOM, "
                + "5: WAIT, 6: how many bytes OUT has, 7: how many can be read, 8: tries, 9: PIECE, 10: SMOOTH, 11: "
                + "SPREAD (both 0 before the first time), 12: in how many ticks the alarm comes, 0 if it is off.");
        Script s = Script.in(ASKING, "figures").figures(3, 0, 10, 0, 11, 0).run(10, 10)
                .arrive(O + T, 5000, 1001, 40, 30, ON)
                .write("abcde").sends(T, 1001, 5).write("fg").feed("xyz").arrive(T, 5001, 1003, 41, 0, ON).run(35, 45);
        int[] due = {1003, 1006, 41, 5004, 2045, 60, 5, 3, 1, 30, 80, 20, 55};
        for (int i = 0; i < due.length; i++) {
            s.figures(i, due[i]);
        }
        s.abort().figures(12, 0);

        Sentence.says("Illegal argument: what is none of these.");
        int[] wrong = {-1, 13, 14, MIN, MAX};
        Script t = Script.in(ON, "no such figure");
        Script u = Script.in(FREE, "no such figure");
        for (int what : wrong) {
            t.illegalArgument("figure(" + what + ")", e -> e.figure(what));
            u.illegalArgument("figure(" + what + ")", e -> e.figure(what));
        }
    }
}
