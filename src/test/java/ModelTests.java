import java.util.Set;
import java.util.TreeSet;

/** Long rows of calls by chance, always the same ones: the program must answer each as the model does. */
final class ModelTests {
    private static final int OBJECTS = 700;
    private static final int CALLS = 512;

    private long seed;
    private final Set<String> met = new TreeSet<>();

    private ModelTests() {
    }

    static void add() {
        Check.test("promises 1 to 22: answers as the model does", () -> new ModelTests().compare());
        Check.test("no argument makes a call throw", () -> new ModelTests().beHostile());
    }

    private void compare() {
        int wrong = 0;
        for (int object = 0; object < OBJECTS && wrong < 3; object++) {
            wrong += isAsTheModel(object) ? 0 : 1;
        }
        String[] due = {"set -2", "roller -2", "roller -4", "file -1", "file -2", "melt -1", "card -2", "run -1",
            "run -2", "run -5", "of -1", "of -2", "tooth -1", "count -2", "pair -1", "pair -2", "why -1", "why -2",
            "why -6", "leastGap -1", "leastGap -2", "leastGap -6", "bestOffset -1", "bestOffset -2", "bestOffset -6",
            "thickest -1", "thickest -2", "thickest -6", "put -2", "put -4", "carryOut -3", "fault -6", "save -2",
            "restore -2", "restore -5", "undo -5"};
        Set<String> all = new TreeSet<>(Set.of(due));
        for (String name : Calls.NAMES) {
            all.add(name + " fine");
        }
        Check.dueText("what the calls by chance meet", all.toString(), met.toString());
    }

    private boolean isAsTheModel(int object) {
        seed = 1000 + object;
        RollerMesh program = new RollerMesh();
        Model model = new Model();
        int mostTeeth = object % 4 == 0 ? 24 : 2 + object % 5;
        for (int call = 0; call < CALLS; call++) {
            int number = below(Calls.NAMES.length);
            // Without as many rollers as this there is not much that can be asked.
            if (model.answer(8, new long[6]) < 3 && below(3) > 0) {
                number = 1;
            }
            long[] arguments = arguments(number, mostTeeth);
            if (number == 14 && below(3) > 0) {
                writeAll(program, model, textByChance(mostTeeth));
                number = below(4) == 0 ? 17 : 16;
            }
            long due = model.answer(number, arguments);
            long got = Calls.answer(program, number, arguments);
            met.add(Calls.NAMES[number] + (due < 0 ? " " + due : " fine"));
            if (due != got) {
                Check.due("object " + object + ", call " + call + ", " + Calls.NAMES[number]
                    + java.util.Arrays.toString(arguments), due, got);
                return false;
            }
        }
        return true;
    }

    private static void writeAll(RollerMesh program, Model model, String text) {
        for (int from = 0; from < text.length(); from += 8) {
            long[] characters = new long[6];
            characters[0] = Shops.packed(text.substring(from, Math.min(text.length(), from + 8)));
            Check.due("put", model.answer(14, characters), program.put(characters[0]));
        }
    }

    /** Arguments that are mostly in range, but for one that is at an edge of it or beyond. */
    private long[] arguments(int call, int mostTeeth) {
        int[][] most = {{2, 30}, {mostTeeth, 4}, {7, 23, 3}, {7}, {30, 30}, {7, 7, 23, 30, 99, 99}, {7, 6}, {7, 23}, {10},
            {7, 7, 23, 30, 3}, {7, 7, 23, 30, 1}, {7, 7, 23}, {7, 7, 1}, {7, 7, 23, 30}, {0}, {}, {}, {}, {1}, {1}, {}};
        long[] arguments = new long[6];
        for (int i = 0; i < most[call].length; i++) {
            int top = most[call][i] == 7 ? 2 + below(3) : most[call][i];
            arguments[i] = below(top + 1);
            if (below(20) == 0) {
                arguments[i] = new int[] {-1, top + 1, 0, top, 99, 100, -9, -10}[below(8)];
            }
        }
        if (call == 1) {
            arguments[1] -= 2;
        } else if (call == 2) {
            arguments[1] %= mostTeeth;
            arguments[2] -= below(4);
        } else if (call == 14) {
            arguments[0] = charactersByChance();
        }
        return arguments;
    }

    private long charactersByChance() {
        String signs = "+rmf/@_:*.=,;-0123456789";
        long characters = 0;
        int length = below(9);
        for (int i = 0; i < length; i++) {
            characters = characters << 8 | signs.charAt(below(signs.length()));
        }
        return below(6) == 0 ? characters ^ 1L << below(64) : characters;
    }

    private String textByChance(int mostTeeth) {
        StringBuilder text = new StringBuilder();
        int orders = 1 + below(5);
        for (int order = 0; order < orders; order++) {
            text.append(order == 0 ? "" : ";").append(orderByChance(mostTeeth));
        }
        if (below(4) == 0) {
            int place = below(text.length());
            String signs = "+rmf/@_:*.=,;-0123456789x";
            switch (below(3)) {
                case 0:
                    text.deleteCharAt(place);
                    break;
                case 1:
                    text.insert(place, signs.charAt(below(signs.length())));
                    break;
                default:
                    text.setCharAt(place, signs.charAt(below(signs.length())));
            }
        }
        return text.length() > 80 ? text.substring(0, 80) : text.toString();
    }

    private String orderByChance(int mostTeeth) {
        int kind = below(5);
        if (kind == 0) {
            StringBuilder values = new StringBuilder("+" + valueByChance());
            for (int more = below(mostTeeth + 2); more > 0; more--) {
                values.append(',').append(valueByChance());
            }
            return values.toString();
        }
        if (kind == 1) {
            return "m" + below(5);
        }
        if (kind == 2) {
            return "f" + below(4) + "." + below(mostTeeth) + "=" + valueByChance();
        }
        return "r" + below(4) + "/" + below(4) + "@" + below(26) + "_" + (8 + below(24)) + ":" + below(100) + "*" + below(100);
    }

    private String valueByChance() {
        return (below(3) == 0 ? "-" : "") + below(4);
    }

    private void beHostile() {
        long[] edges = {Long.MIN_VALUE, Long.MAX_VALUE, Integer.MIN_VALUE, Integer.MAX_VALUE, -1, 0, 1, 2, 7, 8, 23, 24,
            30, 31, 1 << 30, 1 << 27, 79536431, 159072863};
        for (int object = 0; object < OBJECTS; object++) {
            seed = object;
            RollerMesh program = new RollerMesh();
            for (int call = 0; call < 2 * CALLS; call++) {
                int number = below(Calls.NAMES.length);
                long[] arguments = arguments(number, 24);
                int spoilt = below(7);
                if (spoilt < 6) {
                    arguments[spoilt] = edges[below(edges.length)];
                }
                Calls.answer(program, number, arguments);
            }
        }
    }

    private int below(int bound) {
        seed = seed * 6364136223846793005L + 1442695040888963407L;
        return (int) ((seed >>> 33) % bound);
    }
}
