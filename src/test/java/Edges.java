/** Numbers just outside a range and far from it; some would fall into it again as a byte, or multiplied as an int. */
final class Edges {
    static final int[] NO_CORPUS = outside(0, 7);

    private Edges() {
    }

    static int[] below(int least) {
        return new int[] {least - 1, least - 2, least - 256, -(1 << 16), -(1 << 30), Integer.MIN_VALUE + 1, Integer.MIN_VALUE};
    }

    static int[] above(int most) {
        return new int[] {most + 1, most + 2, most + 256, 1 << 16, 1 << 30, Integer.MAX_VALUE - 1, Integer.MAX_VALUE};
    }

    static int[] outside(int least, int most) {
        int[] below = below(least);
        int[] above = above(most);
        int[] both = new int[below.length + above.length];
        System.arraycopy(below, 0, both, 0, below.length);
        System.arraycopy(above, 0, both, below.length, above.length);
        return both;
    }
}
