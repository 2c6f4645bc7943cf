import java.util.ArrayList;
import java.util.List;

/**
 * Long runs of calls, wrong ones among them, against a plain model of the document: all promises
 * together, and that a call that throws, or only asks, changes nothing. The runs are the same each
 * time.
 */
public final class ModelTest {
    private static final int RUNS = 2500;
    /** The document promises nothing of later calls. */
    private static final int CALLS = 512;
    /** The most calls that one step makes: both states of each claim. */
    private static final int CALLS_OF_A_STEP = 32;

    /** A claim as the document tells it: sets held as rows of booleans. */
    private static final class ModelClaim {
        int player;
        final boolean[] facts = new boolean[14];
        final boolean[] rests = new boolean[16];
        final boolean[] attacks = new boolean[16];
    }

    private static final class Model {
        final List<Integer> sources = new ArrayList<>();
        final boolean[] withdrawn = new boolean[14];
        final boolean[] fallen = new boolean[6];
        final List<ModelClaim> claims = new ArrayList<>();
        final int[] banks = {300, 300, 300};
        final int[] reputations = new int[3];
        int turn = 0;
        int closed = 0;

        boolean stands(int fact) {
            return !fallen[sources.get(fact)] && !withdrawn[fact];
        }

        boolean stands(int fact, int without) {
            return fact != without && stands(fact);
        }

        boolean canBeIn(int claim, int[] states, int without) {
            ModelClaim one = claims.get(claim);
            for (int fact = 0; fact < sources.size(); fact++) {
                if (one.facts[fact] && !stands(fact, without)) {
                    return false;
                }
            }
            for (int other = 0; other < claims.size(); other++) {
                if (one.rests[other] && states[other] != Quarrelboard.IN) {
                    return false;
                }
                if (claims.get(other).attacks[claim] && states[other] != Quarrelboard.OUT) {
                    return false;
                }
            }
            return true;
        }

        boolean canBeOut(int claim, int[] states, int without) {
            ModelClaim one = claims.get(claim);
            boolean can = false;
            for (int fact = 0; fact < sources.size(); fact++) {
                can |= one.facts[fact] && !stands(fact, without);
            }
            for (int other = 0; other < claims.size(); other++) {
                can |= one.rests[other] && states[other] == Quarrelboard.OUT;
                can |= claims.get(other).attacks[claim] && states[other] == Quarrelboard.IN;
            }
            return can;
        }

        /** Decides one claim, the last that can be, and looks at all again; without may be none. */
        int[] states(int without) {
            int[] states = new int[claims.size()];
            int claim = claims.size() - 1;
            while (claim >= 0) {
                int before = states[claim];
                if (before == Quarrelboard.OPEN && canBeIn(claim, states, without)) {
                    states[claim] = Quarrelboard.IN;
                } else if (before == Quarrelboard.OPEN && canBeOut(claim, states, without)) {
                    states[claim] = Quarrelboard.OUT;
                }
                claim = states[claim] == before ? claim - 1 : claims.size() - 1;
            }
            return states;
        }

        int score(int player, int without) {
            int[] states = states(without);
            int score = 0;
            for (int claim = 0; claim < states.length; claim++) {
                if (claims.get(claim).player == player && states[claim] == Quarrelboard.IN) {
                    score++;
                }
            }
            return score;
        }

        int keyFact(int player) {
            int key = Quarrelboard.NONE;
            for (int fact = sources.size() - 1; fact >= 0; fact--) {
                if (stands(fact)
                        && (key == Quarrelboard.NONE || score(player, fact) <= score(player, key))) {
                    key = fact;
                }
            }
            return key;
        }

        int verdict() {
            for (int player = 0; player < 3; player++) {
                int own = score(player, Quarrelboard.NONE);
                if (own > score((player + 1) % 3, Quarrelboard.NONE)
                        && own > score((player + 2) % 3, Quarrelboard.NONE)) {
                    return player;
                }
            }
            return Quarrelboard.NONE;
        }

        int close() {
            for (int player = 0; player < 3; player++) {
                reputations[player] += score(player, Quarrelboard.NONE);
            }
            for (ModelClaim one : claims) {
                boolean ill = false;
                for (int fact = 0; fact < sources.size(); fact++) {
                    ill |= one.facts[fact] && !stands(fact);
                }
                reputations[one.player] -= ill ? 1 : 0;
            }
            claims.clear();
            turn = 0;
            for (int player = 0; player < 3; player++) {
                banks[player] = 300;
            }
            closed++;
            return closed;
        }

        boolean isFact(int fact) {
            return fact >= 0 && fact < sources.size();
        }

        boolean isClaim(int claim) {
            return claim >= 0 && claim < claims.size();
        }

        Object addFact(int source) {
            if (source < 0 || source > 5) {
                return "IndexOutOfBoundsException";
            }
            if (sources.size() == 14) {
                return "IllegalStateException";
            }
            sources.add(source);
            return sources.size() - 1;
        }

        Object claim(int facts, int seconds) {
            ModelClaim one = new ModelClaim();
            for (int bit = 0; bit < 32; bit++) {
                if ((facts >>> bit & 1) == 1) {
                    if (!isFact(bit)) {
                        return "IllegalArgumentException";
                    }
                    one.facts[bit] = true;
                }
            }
            if (seconds < 1 || seconds > 100) {
                return "IllegalArgumentException";
            }
            if (claims.size() == 16 || banks[turn] < seconds) {
                return "IllegalStateException";
            }
            one.player = turn;
            banks[turn] -= seconds;
            turn = (turn + 1) % 3;
            claims.add(one);
            return claims.size() - 1;
        }

        Object tie(boolean attack, int claim, int other) {
            if (!isClaim(claim) || !isClaim(other)) {
                return "IndexOutOfBoundsException";
            }
            if (claim == other) {
                return "IllegalArgumentException";
            }
            ModelClaim one = claims.get(claim);
            boolean[] row = attack ? one.attacks : one.rests;
            row[other] = !row[other];
            return row[other];
        }

        Object toggleSource(int source) {
            if (source < 0 || source > 5) {
                return "IndexOutOfBoundsException";
            }
            fallen[source] = !fallen[source];
            return !fallen[source];
        }

        Object withdraw(int fact) {
            if (!isFact(fact)) {
                return "IndexOutOfBoundsException";
            }
            boolean first = !withdrawn[fact];
            withdrawn[fact] = true;
            return first;
        }

        /** The questions about a claim: its player, and how it is decided. */
        Object ofClaim(boolean player, int claim) {
            if (!isClaim(claim)) {
                return "IndexOutOfBoundsException";
            }
            return player ? claims.get(claim).player : states(Quarrelboard.NONE)[claim];
        }

        /** The questions about a player alone: bank, score, keyFact and reputation. */
        Object ofPlayer(int question, int player) {
            if (player < 0 || player > 2) {
                return "IndexOutOfBoundsException";
            }
            switch (question) {
                case 0: return banks[player];
                case 1: return score(player, Quarrelboard.NONE);
                case 2: return keyFact(player);
                default: return reputations[player];
            }
        }

        Object scoreWithout(int player, int fact) {
            if (player < 0 || player > 2 || !isFact(fact)) {
                return "IndexOutOfBoundsException";
            }
            return score(player, fact);
        }
    }

    /** Numbers that look like chance, and are the same each time. */
    private static final class Numbers {
        private long state;

        Numbers(long seed) {
            state = seed * 2862933555777941757L + 3037000493L;
        }

        int below(int bound) {
            state = state * 6364136223846793005L + 1442695040888963407L;
            return (int) ((state >>> 33) % bound);
        }

        boolean oneOf(int many) {
            return below(many) == 0;
        }

        /** Mostly below the bound; now and then at its edges, and far from it. */
        int near(int bound) {
            if (!oneOf(25) && bound > 0) {
                return below(bound);
            }
            int[] odd = {-1, bound, bound + 1, 16, 32, 64 + below(64), Integer.MIN_VALUE, Integer.MAX_VALUE};
            return odd[below(odd.length)];
        }

        int factSet(int count) {
            if (oneOf(25)) {
                return oneOf(2) ? 1 << near(31) : near(1 << count);
            }
            int set = 0;
            for (int more = below(4); more > 0 && count > 0; more--) {
                set |= 1 << below(count);
            }
            return set;
        }
    }

    private static final Checks checks = new Checks();
    private static int callsOfRun;

    private static void call(int run, Quarrelboard x, Model m, Numbers n, int rare) {
        int claims = m.claims.size();
        int facts = m.sources.size();
        int kind = n.below(100);
        if (kind < 4) {
            int source = n.near(6);
            due(run, "addFact", Checks.answer(() -> x.addFact(source)), m.addFact(source));
        } else if (kind < 8) {
            int source = n.near(6);
            due(run, "toggleSource", Checks.answer(() -> x.toggleSource(source)), m.toggleSource(source));
        } else if (kind < 9) {
            int fact = n.near(facts);
            due(run, "withdraw", Checks.answer(() -> x.withdraw(fact)), m.withdraw(fact));
        } else if (kind < 19) {
            int set = n.factSet(facts);
            int seconds = n.oneOf(6) ? n.near(101) : 1 + n.below(30);
            due(run, "claim", Checks.answer(() -> x.claim(set, seconds)), m.claim(set, seconds));
        } else if (kind < 22) {
            m.turn = (m.turn + 1) % 3;
            due(run, "skip", x.skip(), m.turn);
        } else if (kind < 40) {
            int one = n.near(claims);
            int other = n.near(claims);
            due(run, "rest", Checks.answer(() -> x.rest(one, other)), m.tie(false, one, other));
        } else if (kind < 60) {
            int one = n.near(claims);
            int other = n.near(claims);
            due(run, "attack", Checks.answer(() -> x.attack(one, other)), m.tie(true, one, other));
        } else if (kind < 61 && n.oneOf(rare)) {
            due(run, "close", x.close(), m.close());
        } else {
            ask(run, x, m, n);
        }
    }

    private static void ask(int run, Quarrelboard x, Model m, Numbers n) {
        int claim = n.near(m.claims.size());
        int fact = n.near(m.sources.size());
        int player = n.near(3);
        switch (n.below(14)) {
            case 0: due(run, "factStands", Checks.answer(() -> x.factStands(fact)),
                    m.isFact(fact) ? (Object) m.stands(fact) : "IndexOutOfBoundsException"); break;
            case 1: due(run, "facts", x.facts(), m.sources.size()); break;
            case 2: due(run, "claims", x.claims(), m.claims.size()); break;
            case 3: due(run, "playerOf", Checks.answer(() -> x.playerOf(claim)), m.ofClaim(true, claim)); break;
            case 4: due(run, "turn", x.turn(), m.turn); break;
            case 5: due(run, "bank", Checks.answer(() -> x.bank(player)), m.ofPlayer(0, player)); break;
            case 6: due(run, "stateOf", Checks.answer(() -> x.stateOf(claim)), m.ofClaim(false, claim)); break;
            case 7: due(run, "stateByRounds", Checks.answer(() -> x.stateByRounds(claim)),
                    m.ofClaim(false, claim)); break;
            case 8: due(run, "score", Checks.answer(() -> x.score(player)), m.ofPlayer(1, player)); break;
            case 9: due(run, "scoreWithout", Checks.answer(() -> x.scoreWithout(player, fact)),
                    m.scoreWithout(player, fact)); break;
            case 10: due(run, "keyFact", Checks.answer(() -> x.keyFact(player)), m.ofPlayer(2, player)); break;
            case 11: due(run, "verdict", x.verdict(), m.verdict()); break;
            case 12: due(run, "reputation", Checks.answer(() -> x.reputation(player)),
                    m.ofPlayer(3, player)); break;
            default: dueStates(run, x, m);
        }
    }

    private static void dueStates(int run, Quarrelboard x, Model m) {
        int[] states = m.states(Quarrelboard.NONE);
        for (int claim = 0; claim < states.length; claim++) {
            due(run, "stateOf", x.stateOf(claim), states[claim]);
            due(run, "stateByRounds", x.stateByRounds(claim), states[claim]);
        }
    }

    private static void due(int run, String what, Object got, Object want) {
        callsOfRun++;
        checks.due("run " + run + ": " + what, got, want);
    }

    public static void main(String[] args) {
        for (int run = 0; run < RUNS; run++) {
            Quarrelboard x = new Quarrelboard();
            Model m = new Model();
            Numbers n = new Numbers(run);
            int rare = 1 + n.below(6);
            callsOfRun = 0;
            while (callsOfRun + CALLS_OF_A_STEP <= CALLS) {
                call(run, x, m, n, rare);
            }
        }
        checks.end();
    }
}
