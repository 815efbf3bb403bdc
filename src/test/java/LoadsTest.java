import java.util.Random;

/** Promises 26 to 29: PORTS, wants, ROADS and FLOW. */
public final class LoadsTest {
    private static final Check CHECK = new Check("LoadsTest");

    public static void main(String[] args) {
        port();
        want();
        road();
        flow();
        flowTakesBack();
        flowAsManyBeforeMiles();
        flowAtTheBounds();
        flowAgainstAllWays();
        CHECK.finish();
    }

    private static PetrolBoard board(int[] ports, int[] wants) {
        PetrolBoard b = new PetrolBoard();
        for (int loads : ports) {
            b.port(loads);
        }
        for (int k = 0; k < wants.length; k++) {
            b.station();
            b.want(k, wants[k]);
        }
        return b;
    }

    private static void due(PetrolBoard b, int shut, int loads, int miles) {
        CHECK.due(b.flow(shut, 0), loads);
        CHECK.due(b.flow(shut, 1), miles);
    }

    private static void port() {
        CHECK.promise("promise 26");
        PetrolBoard b = new PetrolBoard();
        CHECK.due(b.port(-1), -1);
        CHECK.due(b.port(51), -1);
        CHECK.due(b.port(Integer.MAX_VALUE), -1);
        CHECK.due(b.count(10), 0);
        CHECK.due(b.port(0), 0);
        CHECK.due(b.port(50), 1);
        CHECK.due(b.port(7), 2);
        CHECK.due(b.port(7), 3);
        CHECK.due(b.port(7), -1);
        CHECK.due(b.count(10), 4);
        CHECK.due(b.foretold(1, true), 6400);
    }

    private static void want() {
        CHECK.promise("promise 27");
        PetrolBoard b = board(new int[] {50}, new int[] {});
        CHECK.due(b.want(0, 1), false);
        b.station();
        b.road(0, 0, 3);
        due(b, -1, 0, 0);
        CHECK.due(b.want(0, 20), true);
        due(b, -1, 20, 60);
        CHECK.due(b.want(0, 21), false);
        CHECK.due(b.want(0, -1), false);
        CHECK.due(b.want(-1, 1), false);
        CHECK.due(b.want(1, 1), false);
        CHECK.due(b.want(10, 1), false);
        due(b, -1, 20, 60);
        CHECK.due(b.want(0, 2), true);
        due(b, -1, 2, 6);
        CHECK.due(b.want(0, 0), true);
        due(b, -1, 0, 0);
    }

    private static void road() {
        CHECK.promise("promise 28");
        PetrolBoard b = board(new int[] {3}, new int[] {2, 2});
        CHECK.due(b.road(0, 0, 999), true);
        due(b, -1, 2, 1998);
        CHECK.due(b.road(0, 0, 1000), false);
        CHECK.due(b.road(0, 0, -1), false);
        CHECK.due(b.road(1, 0, 1), false);
        CHECK.due(b.road(-1, 0, 1), false);
        CHECK.due(b.road(0, 2, 1), false);
        CHECK.due(b.road(0, -1, 1), false);
        CHECK.due(b.road(4, 10, 1), false);
        due(b, -1, 2, 1998);
        CHECK.due(b.road(0, 0, 1), true);
        CHECK.due(b.road(0, 1, 2), true);
        due(b, -1, 3, 4);
        CHECK.due(b.road(0, 0, 0), true);
        due(b, -1, 2, 4);
    }

    private static void flow() {
        CHECK.promise("promise 29");
        PetrolBoard b = board(new int[] {5, 4}, new int[] {3, 4, 2});
        b.road(0, 0, 10);
        b.road(0, 1, 20);
        b.road(1, 1, 5);
        due(b, -1, 7, 50);
        due(b, 0, 4, 20);
        due(b, 1, 5, 70);
        CHECK.due(b.flow(2, 0), -1);
        CHECK.due(b.flow(-2, 0), -1);
        CHECK.due(b.flow(-1, 2), -1);
        CHECK.due(b.flow(-1, -1), -1);
        CHECK.due(b.flow(Integer.MIN_VALUE, 0), -1);
        // Shut for that call only.
        due(b, -1, 7, 50);
    }

    private static void flowTakesBack() {
        CHECK.promise("promise 29, the nearest isn't each one's");
        // The nearest ROAD of PORT 1 is wanted by PORT 0, which has no other.
        PetrolBoard b = board(new int[] {1, 1}, new int[] {1, 1});
        b.road(0, 0, 5);
        b.road(1, 0, 1);
        b.road(1, 1, 100);
        due(b, -1, 2, 105);
        due(b, 0, 1, 1);
        due(b, 1, 1, 5);
        PetrolBoard chain = board(new int[] {2, 2, 2}, new int[] {2, 2, 2});
        chain.road(0, 0, 1);
        chain.road(1, 0, 1);
        chain.road(1, 1, 2);
        chain.road(2, 1, 1);
        chain.road(2, 2, 9);
        due(chain, -1, 6, 2 + 4 + 18);
        due(chain, 0, 4, 2 + 2);
    }

    private static void flowAsManyBeforeMiles() {
        CHECK.promise("promise 29, loads go ahead of miles");
        PetrolBoard b = board(new int[] {2, 2}, new int[] {2, 1});
        b.road(0, 0, 1);
        b.road(0, 1, 1);
        b.road(1, 0, 999);
        due(b, -1, 3, 1 + 1 + 999);
    }

    private static void flowAtTheBounds() {
        CHECK.promise("promise 29, the greatest numbers");
        PetrolBoard b = board(new int[] {50, 50, 50, 50}, new int[] {20, 20, 20, 20, 20, 20, 20, 20, 20, 20});
        for (int p = 0; p < 4; p++) {
            for (int s = 0; s < 10; s++) {
                b.road(p, s, 999);
            }
        }
        due(b, -1, 200, 199_800);
        due(b, 3, 150, 149_850);
    }

    private static void flowAgainstAllWays() {
        CHECK.promise("promise 29, against all ways tried");
        Random random = new Random(11);
        for (int run = 0; run < 150; run++) {
            int[] ports = new int[1 + random.nextInt(3)];
            int[] wants = new int[1 + random.nextInt(3)];
            for (int p = 0; p < ports.length; p++) {
                ports[p] = random.nextInt(4);
            }
            for (int s = 0; s < wants.length; s++) {
                wants[s] = random.nextInt(4);
            }
            PetrolBoard b = board(ports, wants);
            int[] roads = new int[9];
            for (int k = 0; k < 9; k++) {
                if (k / 3 < ports.length && k % 3 < wants.length && random.nextInt(4) > 0) {
                    roads[k] = 1 + random.nextInt(9);
                    b.road(k / 3, k % 3, roads[k]);
                }
            }
            // The same board for many: what was asked before leaves no trace.
            for (int ask = 0; ask < 6; ask++) {
                int shut = random.nextInt(ports.length + 1) - 1;
                int changed = random.nextInt(ports.length) * 3 + random.nextInt(wants.length);
                roads[changed] = random.nextInt(10);
                b.road(changed / 3, changed % 3, roads[changed]);
                int[] left = java.util.Arrays.copyOf(ports, 3);
                if (shut >= 0) {
                    left[shut] = 0;
                }
                int[] best = {0, 0};
                tryLoads(left, java.util.Arrays.copyOf(wants, 3), roads, 0, 0, 0, best);
                due(b, shut, best[0], best[1]);
            }
        }
    }

    private static void tryLoads(int[] left, int[] lacking, int[] roads, int k, int loads, int miles, int[] best) {
        if (k == 9) {
            if (loads > best[0] || loads == best[0] && miles < best[1]) {
                best[0] = loads;
                best[1] = miles;
            }
            return;
        }
        int most = roads[k] == 0 ? 0 : Math.min(left[k / 3], lacking[k % 3]);
        for (int sent = 0; sent <= most; sent++) {
            left[k / 3] -= sent;
            lacking[k % 3] -= sent;
            tryLoads(left, lacking, roads, k + 1, loads + sent, miles + sent * roads[k], best);
            left[k / 3] += sent;
            lacking[k % 3] += sent;
        }
    }
}
