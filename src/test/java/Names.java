/** The document's numbers by their names, for the tests that speak of them. */
interface Names {
    int FREE = 0;
    int LISTENING = 1;
    int ASKING = 2;
    int ANSWERING = 3;
    int ON = 4;
    int LEAVING = 5;
    int LEFT = 6;
    int ALONE = 7;
    int PARTING = 8;
    int ENDING = 9;
    int QUIET = 10;
    int ABORTED = 11;

    int OLDEST = 0;
    int NEXT = 1;
    int WINDOW = 2;
    int EXPECTED = 3;
    int ROOM = 4;
    int WAIT = 5;
    int OUT_BYTES = 6;
    int READABLE = 7;
    int TRIES = 8;
    int PIECE = 9;
    int SMOOTH = 10;
    int SPREAD = 11;
    int ALARM = 12;

    int O = StreamEnd.OPEN;
    int L = StreamEnd.LAST;
    int R = StreamEnd.RESET;
    int T = StreamEnd.THANKS;

    int MAX = Integer.MAX_VALUE;
    int MIN = Integer.MIN_VALUE;
}
