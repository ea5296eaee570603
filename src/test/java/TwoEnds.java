import java.util.ArrayList;
import java.util.List;

/** Two ends that talk until both are FREE, over a line that does one thing wrong with one segment. */
final class TwoEnds implements Names {
    private static final int MOST_CALLS = 512;
    private static final int MOST_ROUNDS = 40;
    private static final int TICKS = 10;
    private static final int LATE = 4;
    private static final String CLIENT_SAYS = "what the client says";
    private static final String SERVER_SAYS = "and the answer";

    enum Fault { LOST, TWICE, LATE, IN_ANOTHER_ORDER }

    /** A segment on its way, with the round in which it comes. */
    private static final class Carried {
        final int[] head = new int[5];
        final String text;
        final int comes;

        Carried(Side from, int comes) {
            for (int what = 0; what < head.length; what++) {
                head[what] = from.call().segment(what);
            }
            StringBuilder all = new StringBuilder();
            for (int i = from.call().segment(5); i > 0; i--) {
                all.append((char) from.call().byteAt(all.length()));
            }
            text = all.toString();
            this.comes = comes;
        }

        void arriveAt(Side to) {
            if (!text.isEmpty()) {
                to.call().feed(Script.pack(text), text.length());
            }
            to.state = to.call().arrive(head[0], head[1], head[2], head[3], head[4]);
        }
    }

    /** One of the ends, with what is on its way to it, and how often it was called. */
    private static final class Side {
        final StreamEnd end;
        final String says;
        final List<Carried> line = new ArrayList<>();
        final StringBuilder read = new StringBuilder();
        int state;
        int closesIn;
        boolean closed = false;
        int calls = 0;

        Side(int largest, String says, int closesIn) {
            end = new StreamEnd(largest, 60);
            this.says = says;
            this.closesIn = closesIn;
        }

        StreamEnd call() {
            calls++;
            return end;
        }

        void begin(int first, boolean listening) {
            call().begin(first, listening);
            state = call().state();
        }

        /** Writes all at once, as soon as it may, and closes some rounds later. */
        void act() {
            if (closed || state < ON) {
                return;
            }
            if (closesIn == 0) {
                for (int at = 0; at < says.length(); at += 8) {
                    String part = says.substring(at, Math.min(says.length(), at + 8));
                    call().write(Script.pack(part), part.length());
                }
                call().close();
                closed = true;
            }
            closesIn--;
        }

        void tick() {
            call().run(TICKS);
            state = call().state();
        }

        void readAll() {
            for (int k = call().figure(READABLE); k > 0; k--) {
                read.append((char) call().read());
            }
        }

        boolean isOver() {
            try {
                return call().read() == StreamEnd.OVER;
            } catch (IllegalStateException e) {
                return false;
            }
        }
    }

    private final String name;
    private final Fault fault;
    private final int faulty;
    private final Side client;
    private final Side server;
    private int round = 0;
    private int sent = 0;

    TwoEnds(Fault fault, int faulty, int serverWaits) {
        name = "segment " + faulty + " " + fault + ", the server waits " + serverWaits;
        this.fault = fault;
        this.faulty = faulty;
        client = new Side(5, CLIENT_SAYS, 0);
        server = new Side(7, SERVER_SAYS, serverWaits);
    }

    void talk() {
        server.begin(MAX - 3, true);
        client.begin(-4, false);
        while (round < MOST_ROUNDS && !bothAreFree()) {
            round++;
            client.act();
            server.act();
            send(client, server);
            send(server, client);
            deliver(server);
            deliver(client);
            client.tick();
            server.tick();
        }
        client.readAll();
        server.readAll();
        check();
    }

    private boolean bothAreFree() {
        return client.state == FREE && server.state == FREE;
    }

    private void send(Side from, Side to) {
        while (from.call().next()) {
            boolean wrong = sent == faulty;
            sent++;
            Carried c = new Carried(from, wrong && fault == Fault.LATE ? round + LATE : round);
            if (wrong && fault == Fault.LOST) {
                continue;
            }
            to.line.add(wrong && fault == Fault.IN_ANOTHER_ORDER ? 0 : to.line.size(), c);
            if (wrong && fault == Fault.TWICE) {
                to.line.add(c);
            }
        }
    }

    private void deliver(Side to) {
        List<Carried> now = new ArrayList<>(to.line);
        to.line.clear();
        for (Carried c : now) {
            if (c.comes > round) {
                to.line.add(c);
            } else {
                c.arriveAt(to);
            }
        }
    }

    private void check() {
        expect("both ends are FREE", bothAreFree());
        expect("the server read: " + server.read, server.read.toString().equals(CLIENT_SAYS));
        expect("the client read: " + client.read, client.read.toString().equals(SERVER_SAYS));
        expect("OVER behind all", server.isOver() && client.isOver());
        expect("the document allows so many calls", server.calls <= MOST_CALLS && client.calls <= MOST_CALLS);
    }

    private void expect(String what, boolean holds) {
        if (!holds) {
            Script.note("two ends, " + name + ": not so: " + what);
        }
    }
}
