/** Numbers at and beside the ends of what a sentence of the document allows. */
final class Edges {
    private Edges() { }

    /** The first ints that are not taken on both sides, and the farthest ones. */
    static int[] outside(int least, int greatest) {
        return new int[] {Integer.MIN_VALUE, least - 1, greatest + 1, Integer.MAX_VALUE};
    }

    /** The last ints that are taken on both sides, and those within beside them. */
    static int[] ends(int least, int greatest) {
        return new int[] {least, least + 1, greatest - 1, greatest};
    }
}
