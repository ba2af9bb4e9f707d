/** What the tests do with a shop again and again. */
final class Shops {
    private Shops() {
    }

    static RollerMesh fresh() {
        return new RollerMesh();
    }

    /** A roller with these heights; it costs several changes. */
    static int addRoller(RollerMesh shop, int... heights) {
        int roller = shop.roller(heights.length, 0);
        for (int tooth = 0; tooth < heights.length; tooth++) {
            shop.file(roller, tooth, heights[tooth]);
        }
        return roller;
    }

    static RollerMesh withRollers(int[]... rollers) {
        RollerMesh shop = fresh();
        for (int[] heights : rollers) {
            addRoller(shop, heights);
        }
        return shop;
    }

    static int[] teeth(int... heights) {
        return heights;
    }

    /** Up to 8 characters as the number that put() takes. */
    static long packed(String characters) {
        long number = 0;
        for (char character : characters.toCharArray()) {
            number = number << 8 | character;
        }
        return number;
    }

    /** Puts a text of any length, and returns the last answer. */
    static int write(RollerMesh shop, String text) {
        int answer = shop.count(9);
        for (int from = 0; from < text.length(); from += 8) {
            answer = shop.put(packed(text.substring(from, Math.min(text.length(), from + 8))));
        }
        return answer;
    }

    /** Empties the pad, writes the text, and carries it out. */
    static int obey(RollerMesh shop, String text) {
        shop.wipe();
        write(shop, text);
        return shop.carryOut();
    }

    static String heights(RollerMesh shop, int roller) {
        StringBuilder text = new StringBuilder();
        int teeth = shop.of(roller, 0);
        for (int tooth = 0; tooth < teeth; tooth++) {
            text.append(tooth == 0 ? "" : ",").append(shop.tooth(roller, tooth) - 9);
        }
        return text.toString();
    }

    /** All that can be asked of what undo() and restore() bring back. */
    static String looks(RollerMesh shop) {
        StringBuilder text = new StringBuilder();
        for (int what = 0; what <= 8; what++) {
            text.append(shop.count(what)).append(' ');
        }
        int rollers = shop.count(0);
        for (int roller = 0; roller < rollers; roller++) {
            text.append('|').append(heights(shop, roller)).append(' ');
            text.append(shop.of(roller, 5)).append(' ').append(shop.of(roller, 6));
        }
        return text.toString();
    }

    /** All that there is, the history, the slots and the pad too; it leaves little as it was. */
    static String deepLooks(RollerMesh shop) {
        StringBuilder text = new StringBuilder(allLooks(shop));
        for (int left = shop.undo(); left >= 0; left = shop.undo()) {
            text.append("\nundone ").append(looks(shop));
        }
        for (int slot = 0; slot <= 1; slot++) {
            text.append("\nslot ").append(shop.restore(slot)).append(' ').append(looks(shop));
        }
        text.append("\nfault ").append(shop.fault()).append(" orders ").append(shop.carryOut());
        return text.append(' ').append(looks(shop)).toString();
    }

    /** The looks, and with them the pad's length and the number of changes that can be undone. */
    static String allLooks(RollerMesh shop) {
        return looks(shop) + " pad " + shop.count(9) + " history " + shop.count(10);
    }
}
