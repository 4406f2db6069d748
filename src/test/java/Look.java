/** Short ways to make chains, to type texts and to look at all that can be told. */
final class Look {
    static final int INVALID = ColdChain.INVALID_ARGUMENT;
    static final int ILLEGAL = ColdChain.ILLEGAL_STATE;
    static final int FULL = ColdChain.CAPACITY_EXCEEDED;
    static final int NONE = ColdChain.NONE;
    static final int LOW = Integer.MIN_VALUE;
    static final int HIGH = Integer.MAX_VALUE;

    private Look() {
    }

    interface Call {
        int answer();
    }

    /** The call must answer this error code and change nothing that can be looked at. */
    static void refused(ColdChain chain, String name, int want, Call call) {
        String before = all(chain);
        Checks.due(name, call.answer(), want);
        Checks.isTrue(name + " changes nothing", before.equals(all(chain)));
    }

    static ColdChain withVan(int setPoint, int cooling) {
        ColdChain chain = new ColdChain();
        chain.addVan(setPoint, cooling);
        return chain;
    }

    static ColdChain withOpenVan(int setPoint, int cooling) {
        ColdChain chain = withVan(setPoint, cooling);
        chain.door(0, 1);
        return chain;
    }

    static void type(ColdChain chain, String text) {
        for (int k = 0; k < text.length(); k++) {
            chain.appendCharacter(text.charAt(k));
        }
    }

    /** What runScript() answers for this text alone; the text is cleared ahead of it. */
    static int script(ColdChain chain, String text) {
        chain.clearText();
        type(chain, text);
        return chain.runScript();
    }

    static String zones(ColdChain chain, int van, int what) {
        return chain.zone(van, 0, what) + " " + chain.zone(van, 1, what) + " " + chain.zone(van, 2, what);
    }

    /** All that the looking calls tell, in one text. */
    static String all(ColdChain chain) {
        StringBuilder told = new StringBuilder(allButText(chain));
        told.append("text ").append(chain.count(6));
        told.append(" saved ").append(chain.count(7));
        return told.toString();
    }

    static String allButText(ColdChain chain) {
        StringBuilder told = new StringBuilder();
        for (int what = 0; what <= 8; what++) {
            if (what != 6 && what != 7) {
                told.append(chain.count(what)).append(' ');
            }
        }
        for (int van = 0; van < 3; van++) {
            for (int what = 0; what <= 3; what++) {
                told.append(chain.van(van, what)).append(' ');
            }
            for (int zone = 0; zone < 3; zone++) {
                addZone(told, chain, van, zone);
            }
            told.append(chain.longestOpen(van)).append('\n');
        }
        for (int pallet = 0; pallet < 12; pallet++) {
            for (int what = 0; what <= 10; what++) {
                told.append(chain.pallet(pallet, what)).append(' ');
            }
            told.append(chain.minutesLeft(pallet)).append('\n');
        }
        for (int cause = 0; cause <= 3; cause++) {
            told.append(chain.claims(cause)).append(' ');
        }
        return told.toString();
    }

    private static void addZone(StringBuilder told, ColdChain chain, int van, int zone) {
        for (int what = 0; what <= 5; what++) {
            told.append(chain.zone(van, zone, what)).append(' ');
        }
        for (int time = 1; time <= chain.count(2) + 1; time++) {
            told.append(chain.log(van, zone, time, 0)).append('/').append(chain.log(van, zone, time, 1)).append(' ');
        }
        told.append(chain.warm(van, zone, 0, 0, 600, 0)).append(' ');
        told.append(chain.warm(van, zone, 0, 0, 600, 1)).append('\n');
    }
}
