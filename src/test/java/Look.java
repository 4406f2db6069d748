/** Short ways to make chains, to type texts and to look at zones. */
final class Look {
    static final int INVALID = ColdChain.INVALID_ARGUMENT;
    static final int ILLEGAL = ColdChain.ILLEGAL_STATE;
    static final int FULL = ColdChain.CAPACITY_EXCEEDED;
    static final int NONE = ColdChain.NONE;
    static final int LOW = Integer.MIN_VALUE;
    static final int HIGH = Integer.MAX_VALUE;

    private Look() {
    }

    static ColdChain withVan(int setPoint, int cooling) {
        ColdChain chain = new ColdChain();
        chain.addVan(setPoint, cooling);
        return chain;
    }

    static ColdChain withOpenVan(int setPoint, int cooling) {
        ColdChain chain = withVan(setPoint, cooling);
        chain.door(0, 1);
        return chain;
    }

    static void type(ColdChain chain, String text) {
        for (int k = 0; k < text.length(); k++) {
            chain.appendCharacter(text.charAt(k));
        }
    }

    /** What runScript() answers for this text alone; the text is cleared ahead of it. */
    static int script(ColdChain chain, String text) {
        chain.clearText();
        type(chain, text);
        return chain.runScript();
    }

    static String zones(ColdChain chain, int van, int what) {
        return chain.zone(van, 0, what) + " " + chain.zone(van, 1, what) + " " + chain.zone(van, 2, what);
    }
}
