/** The edges of promises 33 and 34: ifHung, bestSwap. */
final class PredictionEdges {
    private final Edges e;

    PredictionEdges(Edges edges) {
        e = edges;
    }

    void all() {
        ifHungWrong();
        ifHung();
        ifHungSlots();
        bestSwapWrong();
        bestSwapNone();
        bestSwapFirst();
        bestSwapOfMany();
    }

    private void ifHungWrong() {
        e.promise(33, "NO_SUCH if there is no such bracelet");
        e.rangeOfBracelets("ifHung ? 0 1", "abcd");
        for (int n : Edges.SIZES) {
            e.given("ring ab" + (n - 2) + "-", "sign 0 1");
            e.promise(33, "NO_SUCH if there is no such slot");
            e.range("ifHung 0 ? 1", 0, n - 1, Edges.NO_SUCH);
            e.promise(33, "kind: 0 to 5");
            e.range("ifHung 0 0 ?", 0, 5, Edges.BAD_VALUE);
            e.range("ifHung 0 " + (n - 1) + " ?", 0, 5, Edges.BAD_VALUE);
            e.refused("ifHung 0 0 9", Edges.BAD_VALUE);
            e.promise(33, "NO_SUCH ahead of BAD_VALUE");
            e.refused("ifHung 0 " + n + " 6", Edges.NO_SUCH);
            e.refused("ifHung 0 -1 -1", Edges.NO_SUCH);
            e.refused("ifHung 1 0 6", Edges.NO_SUCH);
        }
    }

    private void ifHung() {
        e.promise(33, "without a motif");
        e.given("ring abcd");
        e.asked("ifHung 0 0 1", 0);
        e.promise(33, "the box does not matter");
        e.given("make 4", "sign 0 1", "fill 1 0");
        e.asked("ifHung 0 3 1", 1);
        e.given("ring 4a", "sign 0 0", "fill 1 99");
        e.asked("ifHung 0 3 0", 1);
        for (int kind = 0; kind <= 5; kind++) {
            e.promise(33, "a charm was hung");
            e.given("make 4", "sign 0 " + kind);
            e.asked("ifHung 0 2 " + kind, kind == 0 ? 4 : 1);
            e.asked("ifHung 0 2 " + (kind % 5 + 1), kind == 0 ? 3 : 0);
            e.promise(33, "another one in place of the charm that is there; 0 if the slot became empty");
            e.given("ring abde", "sign 0 " + kind);
            int there = kind == 0 || kind == 3 ? 0 : 1;
            e.asked("ifHung 0 1 " + kind, kind == 2 ? 1 : there + 1);
            e.asked("ifHung 0 1 3", kind == 2 ? 0 : kind == 3 ? 1 : there);
            e.asked("ifHung 0 1 0", kind == 2 ? 0 : kind == 0 ? 1 : there);
        }
        e.promise(33, "the motif has at most as many signs as there are slots");
        e.given(Edges.steps("ring aa-a", MotifEdges.signs("1111")));
        e.asked("ifHung 0 2 1", 4);
        e.given(Edges.steps("ring aa-a", MotifEdges.signs("11111")));
        e.asked("ifHung 0 2 1", 0);
    }

    private void ifHungSlots() {
        e.promise(33, "at slots over the end of the ring");
        for (int n : Edges.SIZES) {
            for (int s = 0; s < n; s++) {
                e.given(Edges.steps("ring b" + (n - 1) + "-", "roll 0 " + s, MotifEdges.signs("12")));
                int before = (s + n - 1) % n;
                e.asked("ifHung 0 " + before + " 1", 1);
                e.asked("ifHung 0 " + before + " 2", 0);
                e.asked("ifHung 0 " + s + " 1", 0);
                e.given(Edges.steps("make " + n, MotifEdges.signs("000")));
                e.asked("ifHung 0 " + s + " 1", n - 3);
                e.asked("ifHung 0 " + s + " 0", n);
            }
        }
    }

    private void bestSwapWrong() {
        e.promise(34, "NO_SUCH if there is no such bracelet");
        e.rangeOfBracelets("bestSwap ?", "abcd");
    }

    private void bestSwapNone() {
        e.promise(34, "NONE if no swap would make the lean less than it is");
        for (int n : Edges.SIZES) {
            e.given("fill 1 17", "ring " + n + "-", "ring " + n + "a", "ring " + "a" + (n - 1) + "-");
            for (int b = 0; b < 3; b++) {
                e.asked("bestSwap " + b, Edges.NONE);
            }
        }
        e.promise(34, "NONE if the lean is 0 or would be the same");
        e.given("ring a-a-", "ring abab", "ring 2a2-", "weigh 1 1");
        e.asked("bestSwap 0", Edges.NONE);
        e.asked("bestSwap 1", Edges.NONE);
        e.asked("bestSwap 2", 3);
        e.promise(34, "by 2 less is less, and no swap can change it by 1");
        e.given("weigh 1 1", "weigh 2 2", "weigh 3 3", "ring ab2-", "ring abc-", "ring a-b-");
        e.asked("bestSwap 0", 3);
        e.asked("bestSwap 1", 1);
        e.asked("bestSwap 2", Edges.NONE);
        e.promise(34, "the weights are those of now");
        e.given("ring 2ab-", "weigh 2 2");
        e.asked("bestSwap 0", Edges.NONE);
    }

    private void bestSwapFirst() {
        e.promise(34, "of several the one with the lowest first slot, then with the lowest second slot");
        e.given("ring 2a6-", "ring 4-2a2-", "ring 2-2a4-", "ring 6-2a");
        e.asked("bestSwap 0", 4);
        e.asked("bestSwap 1", 4);
        e.asked("bestSwap 2", 206);
        e.asked("bestSwap 3", 206);
        e.promise(34, "100 * the first slot + the second slot");
        e.given("ring 14-2e", "ring 8-4e4-", "ring 12-4a");
        e.asked("bestSwap 0", 414);
        e.asked("bestSwap 1", 8);
        e.asked("bestSwap 2", 412);
    }

    private void bestSwapOfMany() {
        e.promise(34, "the swap after which its lean would be the least");
        long seed = 7;
        for (int i = 0; i < 60; i++) {
            int n = Edges.SIZES[i % 4];
            StringBuilder ring = new StringBuilder();
            for (int s = 0; s < n; s++) {
                seed = seed * 6364136223846793005L + 1442695040888963407L;
                int drawn = (int) (seed >>> 40) % (i % 8 < 4 ? 6 : 12);
                ring.append("-abcde------".charAt(drawn));
            }
            e.given("weigh 3 5", "weigh 4 " + (1 + i % 50), "ring " + ring);
            e.asked("bestSwap 0", bestByTrying(n));
        }
    }

    /** Swaps each two slots on an object of its own. */
    private long bestByTrying(int n) {
        long least = e.after().call("bracelet 0 3");
        long best = Edges.NONE;
        for (int first = 0; first < n; first++) {
            for (int second = first + 1; second < n; second++) {
                long lean = e.after().call("swap 0 " + first + " " + second);
                if (lean < least) {
                    least = lean;
                    best = 100 * first + second;
                }
            }
        }
        return best;
    }
}
