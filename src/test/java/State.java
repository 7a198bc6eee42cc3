/** What an object holds, told by its own answers, so that two objects can be compared. */
final class State {
    /** LEAVES told one by one at either end; those between them are told by the heads alone. */
    private static final int SINGLE = 50;

    private State() {
    }

    /**
     * The object is spent afterwards: the last calls change it, to see what stood hidden behind the
     * ends of its rows. At most 250 calls.
     */
    static String of(LogTree x) {
        StringBuilder text = new StringBuilder();
        int leaves = x.count(0);
        text.append(leaves).append(" LEAVES of ").append(x.count(2)).append(" powers, head ");
        text.append(x.head(leaves)).append(", half ").append(x.head(leaves / 2)).append(", each");
        for (int i = 0; i < leaves; i++) {
            if (i < SINGLE || i >= leaves - SINGLE) {
                text.append(' ').append(x.part(i, i + 1));
            }
        }
        text.append("; PROOF").append(proof(x));
        int length = x.length(40);
        text.append("; was ").append(length).append(", grown").append(proof(x));
        text.append("; add ").append(Check.outcome(() -> x.add(9)));
        text.append(", head ").append(x.head(x.count(0)));
        return text.toString();
    }

    static String proof(LogTree x) {
        StringBuilder text = new StringBuilder();
        int length = x.count(1);
        for (int i = 0; i < length; i++) {
            text.append(' ').append(x.proof(i));
        }
        return text.toString();
    }
}
