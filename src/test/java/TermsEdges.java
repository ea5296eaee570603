/** The section "Terms" up to the states. */
final class TermsEdges implements Names {
    private TermsEdges() {
    }

    static void all() {
        calls();
        numbersGoRound();
        halfWayRound();
        partsOfASegment();
        sizes();
        rowOut();
        rowIn();
        firstOldestNext();
        window();
        expectedAndRoom();
        piece();
        states();
    }

    private static void calls() {
        Sentence.says("An object is used for at most 512 calls after it has been made; what later calls answer is "
                + "free.");
        Script s = new Script("512 calls", 100, 50).begin(1, false);
        for (int i = 1; i <= 509; i++) {
            s.run(1, i);
        }
        s.write(7, 1, 1).figures(OUT_BYTES, 1);
    }

    private static void numbersGoRound() {
        Sentence.says("NUMBERS are ints of 32 bits that go round: x is BEFORE y if y - x (as an int) is above 0, and "
                + "NOT BEHIND it if that is 0, too.");
        new Script("own numbers, behind the greatest int", 100, 50).begin(MAX - 1, false).sends(O, MAX - 1, 0)
                .arrive(O + T, 5000, MAX, 99, 0, ON).sends(T, MAX, 0)
                .write("abc").sends(T, MAX, 5001, 2048, 0, "abc").figures(OLDEST, MAX, NEXT, MIN + 2)
                .arrive(T, 5001, MIN, 99, 0, ON).figures(OLDEST, MIN, OUT_BYTES, 2)
                .arrive(T, 5001, MAX, 98, 0, ON).figures(OLDEST, MIN, WINDOW, 99).sendsNothing()
                .arrive(T, 5001, MIN + 3, 99, 0, ON).figures(OLDEST, MIN).sends(T, MIN + 2, 0)
                .arrive(T, 5001, MIN + 2, 99, 0, ON).figures(OLDEST, MIN + 2, OUT_BYTES, 0);
        new Script("own numbers, over 0", 100, 50).begin(-2, false).sends(O, -2, 0)
                .arrive(O + T, 5000, -1, 99, 0, ON).sends(T, -1, 0)
                .write("ab").close().sends(T + L, -1, 5001, 2048, 0, "ab").figures(NEXT, 2)
                .arrive(T, 5001, 1, 99, 0, LEAVING).figures(OLDEST, 1).arrive(T, 5001, 2, 99, 0, LEFT);
        new Script("the peer's numbers, behind the greatest int", 100, 50).begin(1000, true)
                .arrive(O, MAX - 1, 0, 99, 0, ANSWERING).figures(EXPECTED, MAX).sends(O + T, 1000, 0)
                .feed("c").arrive(T, MIN + 1, 1001, 99, 0, ON).figures(EXPECTED, MAX, READABLE, 0).sends(T, 1001, 0)
                .feed("ab").arrive(T, MAX, 1001, 99, 0, ON).figures(EXPECTED, MIN + 2).read("abc").sends(T, 1001, 0)
                .arrive(T, MAX, 1001, 99, 0, ON).sends(T, 1001, MIN + 2, 2048, 0, "")
                .arrive(T + L, MIN + 2, 1001, 99, 0, ALONE).figures(EXPECTED, MIN + 3);
        new Script("the peer's numbers, over 0", 100, 50).begin(1000, true)
                .arrive(O, -2, 0, 99, 0, ANSWERING).sends(O + T, 1000, -1, 2048, 100, "")
                .feed("a").arrive(T, -1, 1001, 99, 0, ON).figures(EXPECTED, 0).sends(T, 1001, 0, 2047, 0, "")
                .feed("ab").arrive(T, -1, 1001, 99, 0, ON).figures(EXPECTED, 1).read("ab");
        new Script("who told the window, behind the greatest int", 100, 50).begin(1000, true)
                .arrive(O, MAX - 1, 0, 99, 0, ANSWERING).sends(O + T, 1000, 0)
                .feed("a").arrive(T, MAX, 1001, 10, 0, ON).figures(WINDOW, 10)
                .arrive(T, MIN, 1001, 11, 0, ON).figures(WINDOW, 11)
                .feed("ab").arrive(T, MAX, 1001, 12, 0, ON).figures(WINDOW, 11, EXPECTED, MIN + 1);
    }

    /** Two numbers that are 2^31 apart: neither is before the other. */
    private static void halfWayRound() {
        Script.answered("thanked, half way round from NEXT", 100, 99, 0).arrive(T, 5001, 1001 + MIN, 98, 0, ON)
                .sendsNothing().figures(OLDEST, 1001, WINDOW, 99);
        Script.answered("thanked, one short of half way round", 100, 99, 0).arrive(T, 5001, 1001 + MAX, 98, 0, ON)
                .sends(T, 1001, 0).figures(OLDEST, 1001, WINDOW, 99);
        Script.answered("half way round from OLDEST, behind what was sent", 100, 99, 0).write("ab").sends(T, 1001, 2)
                .arrive(T, 5001, 1001 + MIN, 98, 0, ON).figures(OLDEST, 1001, OUT_BYTES, 2, WINDOW, 99)
                .sends(T, 1003, 0);
        Script.answered("not before OLDEST, and told by a later number", 100, 99, 0)
                .arrive(T, 5002, 1001 + MIN, 98, 0, ON).figures(OLDEST, 1001, WINDOW, 98).sendsNothing();
        Script.answered("a number half way round from EXPECTED", 100, 99, 0).arrive(0, 5001 + MIN, 0, 0, 0, ON)
                .sends(T, 1001, 0).feed("ab").arrive(0, 5001 + MIN, 0, 0, 0, ON).sends(T, 1001, 0)
                .feed("ab").arrive(0, 5000 + MIN, 0, 0, 0, ON).sends(T, 1001, 0)
                .arrive(0, 5001 + MAX, 0, 0, 0, ON).sends(T, 1001, 0);
    }

    private static void partsOfASegment() {
        Sentence.says("TIME is counted in ticks.");
        new Script("ticks", 100, 50).run(1, 1).run(2, 3).run(1, 4);

        Sentence.says("A SEGMENT has FLAGS, the sum of some of OPEN 1, LAST 2, RESET 4, THANKS 8;");
        Script s = new Script("all sums of flags", 100, 50);
        for (int flags = 0; flags <= 15; flags++) {
            s.arrive(flags, 10, 77, 0, 0, FREE);
            int size = (flags & 1) + (flags >> 1 & 1);
            if ((flags & 4) != 0) {
                s.sendsNothing();
            } else if ((flags & 8) != 0) {
                s.sends(4, 77, 0, 0, 0, "");
            } else {
                s.sends(12, 0, 10 + size, 0, 0, "");
            }
        }

        Sentence.says("a NUMBER, a THANKED number (all before it has come), a WINDOW, 0 .. 65535, a LARGEST, 0 .. "
                + "65535, and 0 .. 1460 BYTES.");
        new Script("the greatest parts", 1460, 50).begin(1000, true)
                .arrive(O, 5000, 0, 65535, 65535, ANSWERING).figures(WINDOW, 65535, PIECE, 1460)
                .sends(O + T, 1000, 5001, 2048, 1460, "").feed(Script.times("x", 1460))
                .arrive(T, 5001, 1001, 65535, 65535, ON).figures(READABLE, 1460, EXPECTED, 6461);
        new Script("the least parts", 1460, 50).begin(0, true).arrive(O, 0, 0, 0, 0, ANSWERING)
                .figures(WINDOW, 0, PIECE, 536, EXPECTED, 1).sends(O + T, 0, 1, 2048, 1460, "")
                .arrive(T, 1, 1, 0, 0, ON).figures(READABLE, 0, EXPECTED, 1);
        Script.answered("a made segment has 1460 bytes at most", 1460, 65535, 65535)
                .write(Script.times("abcdefgh", 183))
                .sends(T, 1001, 1460).sends(T, 2461, 4).sendsNothing();
    }

    private static void sizes() {
        Sentence.says("Its OPEN, then its bytes, then its LAST take up one number each, from its number on; the SIZE "
                + "is how many these are.");
        // a reset to a segment without THANKS tells its number and size together
        new Script("sizes", 100, 50).arrive(0, 10, 0, 0, 0, FREE).sends(R + T, 0, 10, 0, 0, "")
                .arrive(O, 10, 0, 0, 0, FREE).sends(R + T, 0, 11, 0, 0, "")
                .arrive(L, 10, 0, 0, 0, FREE).sends(R + T, 0, 11, 0, 0, "")
                .arrive(O + L, 10, 0, 0, 0, FREE).sends(R + T, 0, 12, 0, 0, "")
                .feed("a").arrive(0, 10, 0, 0, 0, FREE).sends(R + T, 0, 11, 0, 0, "")
                .feed("abc").arrive(O + L, MAX, 0, 0, 0, FREE).sends(R + T, 0, MIN + 4, 0, 0, "")
                .feed(Script.times("x", 1460)).arrive(O + L, 10, 0, 0, 0, FREE).sends(R + T, 0, 1472, 0, 0, "");
        Script.answered("LAST is behind the bytes that come", 100, 99, 0).feed("ab")
                .arrive(T + L, 5001, 1001, 99, 0, ALONE)
                .figures(EXPECTED, 5004, READABLE, 2);
        Script.answered("LAST is behind the bytes that go", 100, 99, 0).write("ab").close().sends(T + L, 1001, 2)
                .figures(NEXT, 1004).arrive(T, 5001, 1003, 99, 0, LEAVING).figures(OUT_BYTES, 0)
                .arrive(T, 5001, 1004, 99, 0, LEFT);
        Script.answered("OPEN is before the bytes", 100, 99, 0).feed("a").arrive(R + O, 5000, 0, 0, 0, ON)
                .sends(T, 1001, 0).arrive(R + O, 5000, 0, 0, 0, ON).sendsNothing();
    }

    private static void rowOut() {
        Sentence.says("THE END has a STATE;");
        new Script("a state", 100, 50).state(FREE);

        Sentence.says("a row OUT, of at most 2048 bytes that were written and not thanked for;");
        Script s = Script.answered("OUT", 1460, 65535, 1460).figures(OUT_BYTES, 0);
        for (int i = 0; i < 255; i++) {
            s.write(0x6162636465666768L, 8, 8);
        }
        s.write("1234567").figures(OUT_BYTES, 2047).write(0x3839, 2, 1).figures(OUT_BYTES, 2048).write(0x39, 1, 0)
                .sends(T, 1001, 1460).sends(T, 2461, 588).byteAt(587, '8').write(0x39, 1, 0)
                .arrive(T, 5001, 1002, 65535, 0, ON).figures(OUT_BYTES, 2047).write(0x4142, 2, 1).write(0x43, 1, 0)
                .sends(T, 3049, 5001, 2048, 0, "A");
    }

    private static void rowIn() {
        Sentence.says("a row IN, of at most 2048 bytes that came, of which those before EXPECTED can be read.");
        Script.answered("IN, out of order", 100, 99, 0).feed("b").arrive(T, 5002, 1001, 99, 0, ON).read(StreamEnd.NONE)
                .figures(EXPECTED, 5001, READABLE, 0).feed("a").arrive(T, 5001, 1001, 99, 0, ON)
                .figures(EXPECTED, 5003, READABLE, 2).read("ab").read(StreamEnd.NONE);
        Script.full("IN, full", 100).figures(READABLE, 2048, EXPECTED, 7049)
                .feed("y").arrive(T, 7049, 1001, 99, 0, ON).figures(READABLE, 2048, EXPECTED, 7049).sends(T, 1001, 0)
                .read("x").feed("yz").arrive(T, 7049, 1001, 99, 0, ON).figures(READABLE, 2048, EXPECTED, 7050);
        Script.answered("IN, full at the far end first", 100, 99, 0)
                .feed(Script.times("x", 588)).arrive(T, 6461, 1001, 99, 0, ON).figures(READABLE, 0)
                .feed("y").arrive(T, 7049, 1001, 99, 0, ON)
                .feed(Script.times("x", 1460)).arrive(T, 5001, 1001, 99, 0, ON)
                .figures(READABLE, 2048, EXPECTED, 7049, ROOM, 0);
    }

    private static void firstOldestNext() {
        Sentence.says("FIRST is its own first number, OLDEST the first one that was not thanked for, NEXT the first "
                + "one that was not sent yet (those of its OPEN, its bytes and its LAST follow one another);");
        new Script("one after another", 2, 50).begin(7, false).sends(O, 7, 0)
                .arrive(O + T, 5000, 8, 99, 0, ON).figures(OLDEST, 8, NEXT, 8).write("abc").close()
                .sends(T, 8, 5001, 2048, 0, "ab").figures(OLDEST, 8, NEXT, 10)
                .sends(T + L, 10, 5001, 2048, 0, "c").figures(OLDEST, 8, NEXT, 12)
                .arrive(T, 5001, 9, 99, 0, LEAVING).figures(OLDEST, 9, NEXT, 12)
                .arrive(T, 5001, 12, 99, 0, LEFT).figures(OLDEST, 12, NEXT, 12);

        Sentence.says("at first, and LISTENING, both are FIRST; NEXT is FIRST and 1 as soon as the state is ASKING "
                + "or ANSWERING, though OPEN is still to be sent.");
        new Script("at first", 100, 50).figures(OLDEST, 0, NEXT, 0);
        int[] firsts = {0, 7, -1, MAX, MIN};
        for (int first : firsts) {
            new Script("LISTENING, then ANSWERING from " + first, 100, 50).begin(first, true)
                    .figures(OLDEST, first, NEXT, first).arrive(O, 5000, 0, 99, 0, ANSWERING)
                    .figures(OLDEST, first, NEXT, first + 1).sends(O + T, first, 0)
                    .figures(OLDEST, first, NEXT, first + 1)
                    .arrive(R, 5001, 0, 0, 0, LISTENING).figures(OLDEST, first, NEXT, first);
            new Script("ASKING from " + first, 100, 50).begin(first, false).figures(OLDEST, first, NEXT, first + 1)
                    .sends(O, first, 0).figures(OLDEST, first, NEXT, first + 1);
        }
    }

    private static void window() {
        Sentence.says("PEER'S WINDOW tells how many numbers from OLDEST on may be sent.");
        Script.answered("window 3", 100, 3, 0).write("abcdef").sends(T, 1001, 5001, 2048, 0, "abc").sendsNothing()
                .arrive(T, 5001, 1002, 3, 0, ON).sends(T, 1004, 5001, 2048, 0, "d").sendsNothing()
                .arrive(T, 5001, 1005, 2, 0, ON).sends(T, 1005, 5001, 2048, 0, "ef").sendsNothing();
        Script.answered("window 0", 100, 0, 0).write("a").sendsNothing();
        Script.answered("window 1", 100, 1, 0).write("ab").sends(T, 1001, 5001, 2048, 0, "a").sendsNothing();
        Script.answered("window just as wide", 100, 2, 0).write("ab").sends(T, 1001, 5001, 2048, 0, "ab")
                .sendsNothing();
        Script.answered("it shrinks below what was sent", 100, 5, 0).write("abcde").sends(T, 1001, 5).write("fg")
                .arrive(T, 5001, 1001, 4, 0, ON).sendsNothing().arrive(T, 5001, 1002, 4, 0, ON).sendsNothing()
                .arrive(T, 5001, 1003, 4, 0, ON).sends(T, 1006, 5001, 2048, 0, "f").sendsNothing();
    }

    private static void expectedAndRoom() {
        Sentence.says("EXPECTED is the first number of the peer's that has not come, ROOM 2048 less the bytes that "
                + "can be read.");
        Script.answered("ROOM 2048 and less", 100, 99, 0).figures(EXPECTED, 5001, ROOM, 2048)
                .feed("b").arrive(T, 5002, 1001, 99, 0, ON).figures(EXPECTED, 5001, ROOM, 2048)
                .feed("a").arrive(T, 5001, 1001, 99, 0, ON).figures(EXPECTED, 5003, ROOM, 2046)
                .read("a").figures(EXPECTED, 5003, ROOM, 2047)
                .arrive(T + L, 5003, 1001, 99, 0, ALONE).figures(EXPECTED, 5004, ROOM, 2047)
                .read("b").figures(ROOM, 2048);
        Script.full("ROOM 0", 100).figures(ROOM, 0).read("x").figures(ROOM, 1);
    }

    private static void piece() {
        Sentence.says("PIECE is how many bytes a segment takes at most, at first its own largest.");
        new Script("its own largest", 1460, 50).figures(PIECE, 1460).begin(1, false).figures(PIECE, 1460);
        new Script("its own least", 1, 50).figures(PIECE, 1);
        Script.answered("one less than PIECE", 5, 99, 0).write("abcd").sends(T, 1001, 5001, 2048, 0, "abcd")
                .sendsNothing();
        Script.answered("just PIECE", 5, 99, 0).write("abcde").sends(T, 1001, 5001, 2048, 0, "abcde").sendsNothing();
        Script.answered("one more than PIECE", 5, 99, 0).write("abcdef").sends(T, 1001, 5001, 2048, 0, "abcde")
                .sends(T, 1006, 5001, 2048, 0, "f").sendsNothing();
    }

    private static void states() {
        Sentence.says("STATES: 0 FREE, 1 LISTENING, 2 ASKING (has sent OPEN), 3 ANSWERING (has sent OPEN and got "
                + "one), 4 ON, 5 LEAVING (LAST is to be sent or thanked for), 6 LEFT (it was), 7 ALONE (the peer's "
                + "LAST has come), 8 PARTING (LEAVING, and the peer's has come), 9 ENDING (ALONE, and has closed), "
                + "10 QUIET, 11 ABORTED.");
        new Script("asks, and leaves first", 100, 50).state(0).begin(1, false).state(2)
                .arrive(O, 50, 0, 9, 0, 3).arrive(T, 51, 2, 9, 0, 4).close().state(5).sends(T + L, 2, 0).state(5)
                .arrive(T, 51, 3, 9, 0, 6).arrive(T + L, 51, 3, 9, 0, 10).run(50, 50).state(0);
        new Script("listens, and leaves last", 100, 50).begin(1, true).state(1)
                .arrive(O, 50, 0, 9, 0, 3).arrive(T, 51, 2, 9, 0, 4).arrive(T + L, 51, 2, 9, 0, 7).close().state(9)
                .sends(T + L, 2, 0).arrive(T, 52, 3, 9, 0, 0);
        new Script("both leave at once", 100, 50).begin(1, false).arrive(O + T, 50, 2, 9, 0, 4).close().state(5)
                .arrive(T + L, 51, 2, 9, 0, 8).sends(T + L, 2, 0).arrive(T, 52, 3, 9, 0, 10).abort().state(11);
    }
}
