/** Numbers at the ends of what the document allows, and beyond them. */
final class Edges {
    static final int INVALID = RoofOrdinances.INVALID_ARGUMENT;
    static final int NOT_POSSIBLE = RoofOrdinances.NOT_POSSIBLE;
    static final int LIMIT_REACHED = RoofOrdinances.LIMIT_REACHED;
    static final int NOT_FOUND = RoofOrdinances.NOT_FOUND;
    static final int ALL_KEYS = 65535;

    static final int[] GANGWAYS = {0, 1, 2, 4, 5, 6, 8, 9, 10, 12, 13, 14,
        16, 17, 18, 19, 20, 21, 22, 23, 24, 25, 26, 27};
    static final int[] NUMBERS_BETWEEN_THAT_ARE_NONE = {3, 7, 11, 15};
    static final int[] NUMBERS_ABOVE_THAT_ARE_NONE = {28, 29, 30, 31};

    private Edges() {
    }

    static int[] outside(int least, int greatest) {
        return new int[] {least - 1, greatest + 1, Integer.MIN_VALUE, Integer.MAX_VALUE};
    }

    static int[] noGangways() {
        return new int[] {3, 7, 11, 15, 28, 29, 30, 31, -1, 32, Integer.MIN_VALUE, Integer.MAX_VALUE};
    }

    static int[] noRoofs() {
        return outside(0, 15);
    }

    static int[] noOwners() {
        return outside(0, 3);
    }

    static int lesser(int gangway) {
        return gangway < 16 ? gangway : gangway - 16;
    }

    static int greater(int gangway) {
        return gangway < 16 ? gangway + 1 : gangway - 12;
    }

    static boolean leadsFrom(int gangway, int roof) {
        return lesser(gangway) == roof || greater(gangway) == roof;
    }

    static int distance(int roof, int other) {
        return Math.abs(roof / 4 - other / 4) + Math.abs(roof % 4 - other % 4);
    }

    static int otherEnd(int gangway, int roof) {
        return lesser(gangway) == roof ? greater(gangway) : lesser(gangway);
    }

    /** A city whose gangways all bear 0, so that a test gives it the few that it needs. */
    static RoofOrdinances withoutGangways() {
        RoofOrdinances x = new RoofOrdinances();
        for (int gangway : GANGWAYS) {
            x.bears(gangway, 0);
        }
        return x;
    }

    /** Lets an owner walk over one gangway after the other. */
    static void walk(RoofOrdinances x, int owner, int... gangways) {
        for (int gangway : gangways) {
            x.walk(owner, gangway);
        }
    }
}
