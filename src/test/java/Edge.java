/** The numbers at the ends of a range and next to them. */
final class Edge {
    private Edge() {
    }

    /** The next numbers on either side of a range, and the smallest and the largest int. */
    static int[] outside(int least, int greatest) {
        return new int[] {Integer.MIN_VALUE, least - 1, greatest + 1, Integer.MAX_VALUE};
    }

    /** The ends of a range, and the next numbers within it. */
    static int[] inside(int least, int greatest) {
        return new int[] {least, least + 1, greatest - 1, greatest};
    }
}
