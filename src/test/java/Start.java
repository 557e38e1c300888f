/** Graphs to start from. */
final class Start {
    private Start() {
    }

    /** A graph whose node 0 gives this number, 0 to 1000, for 512 samples: a wave of 1000 at this level. */
    static ToneGraph steady(int number) {
        ToneGraph x = new ToneGraph();
        x.setWave('q');
        x.setEnvelope(0, 0, number, 0);
        x.begin(0, 100);
        return x;
    }

    /** The outputs are 512, 1024, 2048, 4096, 8192 and 16384 of the nodes 0 to 5, 1 of node 6 and 32767 of node 7. */
    static ToneGraph loud() {
        ToneGraph x = steady(512);
        for (int node = 1; node <= 5; node++) {
            x.addGain(200);
            x.connect(node - 1, node, 100);
        }
        x.addGain(20);
        x.connect(0, 6, 1);
        x.addGain(200);
        x.connect(5, 7, 100);
        return x;
    }

    /** A full board: gains 1 to 3, delays 4 to 6, filters 7 and 8, and the bus 9. */
    static ToneGraph full() {
        ToneGraph x = new ToneGraph();
        x.addGain(100);
        x.addGain(-50);
        x.addGain(200);
        x.addDelay(5, 40);
        x.addDelay(9, -60);
        x.addDelay(60, 0);
        x.addFilter(30, 20, 10);
        x.addFilter(64, -64, 13);
        x.addBus(400);
        return x;
    }

    static String orderOf(ToneGraph x) {
        StringBuilder order = new StringBuilder();
        for (int place = 0; place < x.nodes(); place++) {
            order.append(place == 0 ? "" : " ").append(x.nodeAt(place));
        }
        return order.toString();
    }
}
