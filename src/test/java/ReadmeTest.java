/** README's example: it does what its words say, README shows it as it stands here, and README names every call. */
public final class ReadmeTest {
    // the example starts here
    /** Carries every segment that one end has to send to the other end. */
    static void carry(StreamEnd from, StreamEnd to) {
        while (from.next()) {
            for (int i = 0; i < from.segment(5); i++) {
                to.feed(from.byteAt(i), 1);
            }
            to.arrive(from.segment(0), from.segment(1), from.segment(2), from.segment(3), from.segment(4));
        }
    }

    /** The client says "hi", and both ends close: what the server has read. */
    static String talk(StreamEnd client, StreamEnd server) {
        server.begin(7000, true);       // listens
        client.begin(1000, false);      // asks
        carry(client, server);          // OPEN
        carry(server, client);          // OPEN and THANKS: the client is ON
        client.write(0x6869L, 2);
        client.close();
        carry(client, server);          // the bytes and LAST
        StringBuilder got = new StringBuilder();
        int b = server.read();
        while (b >= 0) {                // NONE: more may come; OVER: nothing more will
            got.append((char) b);
            b = server.read();
        }
        server.close();
        carry(server, client);          // THANKS and LAST
        carry(client, server);          // THANKS: the server is FREE
        client.run(2000);               // the client is QUIET for so long, then FREE, too
        return got.toString();
    }
    // the example ends here

    public static void main(String[] args) {
        StreamEnd client = new StreamEnd(536, 2000);
        StreamEnd server = new StreamEnd(536, 2000);
        expect("the server reads hi", talk(client, server).equals("hi"));
        expect("OVER behind it", server.read() == StreamEnd.OVER);
        expect("both are FREE", client.state() == Script.FREE && server.state() == Script.FREE);
        readmeShowsTheExample();
        readmeNamesEveryCall();
        Script.finish();
    }

    private static void readmeShowsTheExample() {
        String here = Document.between(Document.textOf("src/test/java/ReadmeTest.java"), "// the example starts here\n",
                "    // the example ends here");
        String shown = Document.between(Document.textOf("README.md"), "```java\n", "```");
        expect("README shows the example", !shown.isEmpty() && here.replaceAll("(?m)^    ", "").equals(shown));
    }

    private static void readmeNamesEveryCall() {
        String readme = Document.textOf("README.md");
        for (String line : Document.faceLines()) {
            String call = line.replaceAll(" *[=(].*", "").replaceAll(".* ", "");
            expect("README names " + call, readme.contains("`" + call + "(") || readme.contains("`" + call + "`")
                    || readme.contains("`new " + call + "("));
        }
    }

    private static void expect(String what, boolean holds) {
        if (!holds) {
            Script.note("README: not so: " + what);
        }
    }
}
