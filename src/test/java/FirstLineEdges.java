/** The document's first line: what an end does at all, and that it does so over a line that is not to be trusted. */
final class FirstLineEdges implements Names {
    private FirstLineEdges() {
    }

    static void all() {
        twoEnds();
        opens();
        numbers();
        resends();
        putsInOrder();
        closes();
        isAborted();
    }

    private static void twoEnds() {
        Sentence.says("One end of a stream of bytes between two ends that tell each other by segments, which may be "
                + "lost, come twice, late or in another order:");
        for (TwoEnds.Fault fault : TwoEnds.Fault.values()) {
            for (int segment = 0; segment < 14; segment++) {
                new TwoEnds(fault, segment, 0).talk();
                new TwoEnds(fault, segment, 3).talk();
            }
        }
    }

    private static void opens() {
        Sentence.says("it opens,");
        new Script("asks", 100, 50).begin(1000, false).state(ASKING).sends(O, 1000, 0, 2048, 100, "")
                .arrive(O + T, 5000, 1001, 99, 60, ON).sends(T, 1001, 5001, 2048, 0, "").sendsNothing();
        new Script("listens", 100, 50).begin(1000, true).state(LISTENING).sendsNothing()
                .arrive(O, 5000, 0, 99, 60, ANSWERING).sends(O + T, 1000, 5001, 2048, 100, "")
                .arrive(T, 5001, 1001, 99, 0, ON).sendsNothing();
        new Script("both ask", 100, 50).begin(1000, false).sends(O, 1000, 0)
                .arrive(O, 5000, 0, 99, 60, ANSWERING).sends(O + T, 1000, 5001, 2048, 100, "")
                .arrive(T, 5001, 1001, 99, 0, ON).sendsNothing();
    }

    private static void numbers() {
        Sentence.says("numbers what is written,");
        Script.asked("bytes and LAST follow OPEN", 3, 99, 0).write("abcde").close()
                .sends(T, 1001, 5001, 2048, 0, "abc").sends(T + L, 1004, 5001, 2048, 0, "de")
                .figures(OLDEST, 1001, NEXT, 1007).sendsNothing();
    }

    private static void resends() {
        Sentence.says("resends what is not thanked for,");
        Script.asked("bytes, once more", 100, 99, 0).write("abc").sends(T, 1001, 3).run(20, 20)
                .sends(T, 1001, 5001, 2048, 0, "abc").sendsNothing()
                .arrive(T, 5001, 1003, 99, 0, ON).sendsNothing().run(40, 60).sends(T, 1003, 5001, 2048, 0, "c")
                .arrive(T, 5001, 1004, 99, 0, ON).run(2000, 2060).sendsNothing();
        Script.in(ASKING, "OPEN, once more").run(60, 60).sends(O, 1000, 0, 2048, 100, "").sendsNothing();
        Script.in(LEAVING, "LAST, once more").run(20, 20).sends(T + L, 1001, 0).sendsNothing();
    }

    private static void putsInOrder() {
        Sentence.says("puts in order what comes,");
        Script.asked("the last first, and twice", 100, 99, 0)
                .feed("ef").arrive(T + L, 5005, 1001, 99, 0, ON).read(StreamEnd.NONE)
                .feed("ef").arrive(T + L, 5005, 1001, 99, 0, ON).read(StreamEnd.NONE)
                .feed("cd").arrive(T, 5003, 1001, 99, 0, ON).read(StreamEnd.NONE)
                .feed("ab").arrive(T, 5001, 1001, 99, 0, ALONE).read("abcdef").read(StreamEnd.OVER);
    }

    private static void closes() {
        Sentence.says("closes,");
        Script.in(ON, "first").close().state(LEAVING).sends(T + L, 1001, 0).arrive(T, 5001, 1002, 99, 0, LEFT)
                .arrive(T + L, 5001, 1002, 99, 0, QUIET).sends(T, 1002, 5002, 2048, 0, "").run(50, 50).state(FREE);
        Script.in(ON, "second").arrive(T + L, 5001, 1001, 99, 0, ALONE).sends(T, 1001, 5002, 2048, 0, "")
                .close().state(ENDING).sends(T + L, 1001, 0).arrive(T, 5002, 1002, 99, 0, FREE).sendsNothing();
        Script.in(ON, "both at once").close().sends(T + L, 1001, 0).arrive(T + L, 5001, 1001, 99, 0, PARTING)
                .sends(T, 1002, 5002, 2048, 0, "").arrive(T, 5002, 1002, 99, 0, QUIET).run(50, 50).state(FREE);
    }

    private static void isAborted() {
        Sentence.says("and is aborted when nothing helps.");
        Script s = Script.asked("no answer", 100, 99, 0).write("a").sends(T, 1001, 1);
        int[] waits = {20, 40, 80, 160, 320, 640, 1200, 1200};
        int time = 0;
        for (int wait : waits) {
            time += wait;
            s.run(wait - 1, time - 1).sendsNothing().run(1, time).state(ON).sends(T, 1001, 5001, 2048, 0, "a");
        }
        s.run(1199, time + 1199).state(ON).run(1, time + 1200).state(ABORTED).sendsNothing();
    }
}
