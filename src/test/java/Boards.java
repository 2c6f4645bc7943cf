/** Boards that several tests begin with. */
final class Boards {
    /** Numbers far from every bound; 32 and 33 are 0 and 1 to a shift that does not look. */
    static final int[] FAR = {
        Integer.MIN_VALUE, Integer.MIN_VALUE + 1, -33, -32, -31, -16, -2, 17, 31, 32, 33, 64, 65, 1 << 16,
        Integer.MAX_VALUE - 1, Integer.MAX_VALUE};

    private Boards() {
    }

    /** A board with a fact for each source from 0 to 5, then 0 to 5 again, and so on. */
    static Quarrelboard withFacts(int count) {
        Quarrelboard x = new Quarrelboard();
        for (int fact = 0; fact < count; fact++) {
            x.addFact(fact % 6);
        }
        return x;
    }

    /** A board without facts, with claims of the players 0, 1, 2, 0 and so on, each of a second. */
    static Quarrelboard withClaims(int count) {
        Quarrelboard x = new Quarrelboard();
        addClaims(x, count, 0);
        return x;
    }

    static void addClaims(Quarrelboard x, int count, int facts) {
        for (int more = 0; more < count; more++) {
            x.claim(facts, 1);
        }
    }

    /** Lets the player make a claim, whoever has the turn. */
    static int claimOf(Quarrelboard x, int player, int facts) {
        return claimOf(x, player, facts, 1);
    }

    static int claimOf(Quarrelboard x, int player, int facts, int seconds) {
        giveTurn(x, player);
        return x.claim(facts, seconds);
    }

    static void giveTurn(Quarrelboard x, int player) {
        for (int skips = 0; skips < 2 && x.turn() != player; skips++) {
            x.skip();
        }
    }

    /** Leaves a player with that many seconds, by claims of 100 and one of the rest, and the turn. */
    static Quarrelboard withBank(int player, int left) {
        Quarrelboard x = new Quarrelboard();
        for (int spend = 300 - left; spend > 0; spend -= Math.min(spend, 100)) {
            claimOf(x, player, 0, Math.min(spend, 100));
        }
        giveTurn(x, player);
        return x;
    }
}
