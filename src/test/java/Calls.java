/** The calls of the face by number, so that one row of numbers can be asked of the program and of the model. */
final class Calls {
    static final String[] NAMES = {"set", "roller", "file", "melt", "card", "run", "of", "tooth", "count", "pair", "why",
        "leastGap", "bestOffset", "thickest", "put", "wipe", "carryOut", "fault", "save", "restore", "undo"};

    private Calls() {
    }

    static long answer(RollerMesh x, int call, long[] a) {
        int[] n = new int[a.length];
        for (int i = 0; i < n.length; i++) {
            n[i] = (int) a[i];
        }
        return call < 9 ? small(x, call, n) : call < 14 ? ofPairs(x, call, n) : others(x, call, n[0], a[0]);
    }

    private static long small(RollerMesh x, int call, int[] n) {
        switch (call) {
            case 0:
                return x.set(n[0], n[1]);
            case 1:
                return x.roller(n[0], n[1]);
            case 2:
                return x.file(n[0], n[1], n[2]);
            case 3:
                return x.melt(n[0]);
            case 4:
                return x.card(n[0], n[1]);
            case 5:
                return x.run(n[0], n[1], n[2], n[3], n[4], n[5]);
            case 6:
                return x.of(n[0], n[1]);
            case 7:
                return x.tooth(n[0], n[1]);
            default:
                return x.count(n[0]);
        }
    }

    private static long ofPairs(RollerMesh x, int call, int[] n) {
        switch (call) {
            case 9:
                return x.pair(n[0], n[1], n[2], n[3], n[4]);
            case 10:
                return x.why(n[0], n[1], n[2], n[3], n[4]);
            case 11:
                return x.leastGap(n[0], n[1], n[2]);
            case 12:
                return x.bestOffset(n[0], n[1], n[2]);
            default:
                return x.thickest(n[0], n[1], n[2], n[3]);
        }
    }

    private static long others(RollerMesh x, int call, int first, long characters) {
        switch (call) {
            case 14:
                return x.put(characters);
            case 15:
                return x.wipe();
            case 16:
                return x.carryOut();
            case 17:
                return x.fault();
            case 18:
                return x.save(first);
            case 19:
                return x.restore(first);
            default:
                return x.undo();
        }
    }
}
