/** A map of 60 crossings, all of them odd, whose pairs can be exchanged 1002 times; it was found by a search, and other lengths make it more or less. */
final class ManyExchanges {
    /** Streets: a, b, length. */
    private static final int[] STREETS = {
        28, 10, 2102, 31, 52, 6530, 8, 58, 9286, 26, 37, 194, 2, 12, 1, 49, 56, 10, 0, 58, 3599, 0, 8, 9108, 27, 36, 38, 37, 40, 9, 49, 59, 3, 26, 22, 4712, 9, 1, 61, 59, 41, 2972, 15, 54, 1133,
        29, 17, 42, 7, 26, 1870, 21, 14, 6, 44, 48, 148, 48, 57, 38, 50, 43, 1235, 55, 39, 51, 20, 7, 21, 12, 11, 951, 46, 59, 8, 5, 7, 2395, 29, 7, 7, 0, 12, 1, 16, 42, 1, 9, 3, 49,
        25, 3, 2, 14, 23, 37, 59, 18, 1885, 32, 35, 2855, 40, 18, 1689, 40, 47, 2339, 42, 46, 1, 11, 14, 361, 13, 19, 2545, 24, 57, 16, 32, 28, 1318, 34, 27, 88, 5, 9, 2015, 53, 6, 4859, 12, 28, 2505,
        58, 31, 6135, 36, 1, 7, 4, 0, 861, 33, 26, 18, 58, 40, 1313, 35, 26, 58, 17, 2, 325, 6, 55, 401, 39, 27, 128, 2, 15, 2076, 58, 43, 4740, 51, 55, 20, 53, 59, 5228, 32, 51, 1, 10, 36, 1004,
        10, 0, 1916, 25, 8, 8537, 16, 30, 46, 21, 4, 7, 35, 15, 24, 38, 44, 1988, 39, 45, 41, 33, 38, 1396, 34, 30, 56, 25, 23, 1, 59, 32, 1, 50, 48, 2745, 13, 59, 2333, 32, 45, 59, 20, 19, 6};

    private ManyExchanges() {
    }

    static int streets() {
        return STREETS.length / 3;
    }

    static int a(int street) {
        return STREETS[3 * street];
    }

    static int b(int street) {
        return STREETS[3 * street + 1];
    }

    static int length(int street) {
        return STREETS[3 * street + 2];
    }

    /** How many sides each street has so that every crossing is odd: two, but for the streets of a tree, where one is needed. */
    static int[] sides() {
        int[] sides = new int[streets()];
        int[] parent = new int[60];
        int[] order = tree(parent);
        boolean[] odd = new boolean[60];
        java.util.Arrays.fill(sides, 2);
        for (int i = order.length - 1; i > 0; i--) {
            int c = order[i];
            if (odd[c]) continue;
            int street = parent[c];
            sides[street] = 1;
            odd[a(street)] = !odd[a(street)];
            odd[b(street)] = !odd[b(street)];
        }
        return sides;
    }

    /** The crossings as they are come to from 0, and the street by which each of them is. */
    private static int[] tree(int[] parent) {
        int[] order = new int[60];
        boolean[] seen = new boolean[60];
        seen[0] = true;
        int n = 1;
        for (int i = 0; i < n; i++) {
            for (int s = 0; s < streets(); s++) {
                int next = a(s) == order[i] ? b(s) : b(s) == order[i] ? a(s) : order[i];
                if (seen[next]) continue;
                seen[next] = true;
                parent[next] = s;
                order[n] = next;
                n++;
            }
        }
        return order;
    }
}
