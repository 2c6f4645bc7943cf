import java.util.Arrays;

/**
 * A debate game: facts with sources that fall, claims that rest on facts and on other claims and
 * attack others, turns with time banks, verdicts by the claims that stand, what would stand without
 * a fact, and reputations over debates.
 *
 * <p>A set of facts, of sources or of claims is held in an int: the sum of 2 to the power of the
 * numbers in it.
 */
public final class Quarrelboard {
    public static final int NONE = -1;
    public static final int OPEN = 0, IN = 1, OUT = 2;

    private static final int SOURCES = 6;
    private static final int MAX_FACTS = 14;
    private static final int PLAYERS = 3;
    private static final int MAX_CLAIMS = 16;
    private static final int BANK_AT_FIRST = 300;
    private static final int MAX_SECONDS = 100;

    private final FactBook book;
    private final Debate debate;
    private final Judge judge;
    private final int[] reputations;
    private int closedDebates;

    public Quarrelboard() {
        book = new FactBook();
        debate = new Debate();
        judge = new Judge(debate);
        reputations = new int[PLAYERS];
        closedDebates = 0;
    }

    // ---- facts and sources

    public int addFact(int source) throws IndexOutOfBoundsException, IllegalStateException {
        checkSource(source);
        int fact = book.add(source);
        if (fact == NONE) {
            throw new IllegalStateException("there is no room for another fact");
        }
        return fact;
    }

    public boolean toggleSource(int source) throws IndexOutOfBoundsException {
        checkSource(source);
        return book.flipSource(source);
    }

    public boolean withdraw(int fact) throws IndexOutOfBoundsException {
        checkFact(fact);
        return book.takeBack(fact);
    }

    public boolean factStands(int fact) throws IndexOutOfBoundsException {
        checkFact(fact);
        return contains(book.standing(), fact);
    }

    public int facts() {
        return book.size();
    }

    // ---- claims and turns

    public int claim(int facts, int seconds) throws IllegalArgumentException, IllegalStateException {
        if (!book.hasAll(facts)) {
            throw new IllegalArgumentException("there is no such fact");
        }
        if (seconds < 1 || seconds > MAX_SECONDS) {
            throw new IllegalArgumentException("the seconds are out of range");
        }
        int claim = debate.add(facts, seconds);
        if (claim == NONE) {
            throw new IllegalStateException("there is no room for another claim, or too little time");
        }
        return claim;
    }

    public int skip() {
        debate.passTurn();
        return debate.speaker();
    }

    public boolean rest(int claim, int other)
            throws IndexOutOfBoundsException, IllegalArgumentException {
        checkTwoClaims(claim, other);
        return debate.flipRest(claim, other);
    }

    public boolean attack(int claim, int other)
            throws IndexOutOfBoundsException, IllegalArgumentException {
        checkTwoClaims(claim, other);
        return debate.flipAttack(claim, other);
    }

    public int claims() {
        return debate.size();
    }

    public int playerOf(int claim) throws IndexOutOfBoundsException {
        checkClaim(claim);
        return debate.ownerOf(claim);
    }

    public int turn() {
        return debate.speaker();
    }

    public int bank(int player) throws IndexOutOfBoundsException {
        checkPlayer(player);
        return debate.secondsLeft(player);
    }

    // ---- what stands

    public int stateOf(int claim) throws IndexOutOfBoundsException {
        checkClaim(claim);
        judge.decideByGoingOn(book.standing());
        return judge.decisionOn(claim);
    }

    public int stateByRounds(int claim) throws IndexOutOfBoundsException {
        checkClaim(claim);
        judge.decideInRounds(book.standing());
        return judge.decisionOn(claim);
    }

    public int score(int player) throws IndexOutOfBoundsException {
        checkPlayer(player);
        return scoreIf(player, book.standing());
    }

    public int scoreWithout(int player, int fact) throws IndexOutOfBoundsException {
        checkPlayer(player);
        checkFact(fact);
        return scoreIf(player, without(book.standing(), fact));
    }

    public int keyFact(int player) throws IndexOutOfBoundsException {
        checkPlayer(player);
        int standing = book.standing();
        int key = NONE;
        int least = 0;
        for (int fact = 0; fact < MAX_FACTS; fact++) {
            if (contains(standing, fact)) {
                int points = scoreIf(player, without(standing, fact));
                if (key == NONE || points < least) {
                    key = fact;
                    least = points;
                }
            }
        }
        return key;
    }

    public int verdict() {
        judge.decideByGoingOn(book.standing());
        int leader = NONE;
        int most = -1;
        for (int player = 0; player < PLAYERS; player++) {
            int points = debate.countOf(player, judge.claimsIn());
            if (points > most) {
                leader = player;
                most = points;
            } else if (points == most) {
                leader = NONE;
            }
        }
        return leader;
    }

    // ---- debates

    public int close() {
        int standing = book.standing();
        judge.decideByGoingOn(standing);
        int ill = debate.illFounded(standing);
        for (int player = 0; player < PLAYERS; player++) {
            reputations[player] += debate.countOf(player, judge.claimsIn()) - debate.countOf(player, ill);
        }
        debate.beginAgain();
        closedDebates++;
        return closedDebates;
    }

    public int reputation(int player) throws IndexOutOfBoundsException {
        checkPlayer(player);
        return reputations[player];
    }

    // ---- what the calls share

    private int scoreIf(int player, int standingFacts) {
        judge.decideByGoingOn(standingFacts);
        return debate.countOf(player, judge.claimsIn());
    }

    private void checkSource(int source) {
        if (source < 0 || source >= SOURCES) {
            throw new IndexOutOfBoundsException("there is no such source");
        }
    }

    private void checkFact(int fact) {
        if (fact < 0 || fact >= book.size()) {
            throw new IndexOutOfBoundsException("there is no such fact");
        }
    }

    private void checkPlayer(int player) {
        if (player < 0 || player >= PLAYERS) {
            throw new IndexOutOfBoundsException("there is no such player");
        }
    }

    private void checkClaim(int claim) {
        if (claim < 0 || claim >= debate.size()) {
            throw new IndexOutOfBoundsException("there is no such claim");
        }
    }

    private void checkTwoClaims(int claim, int other) {
        checkClaim(claim);
        checkClaim(other);
        if (claim == other) {
            throw new IllegalArgumentException("both claims are the same");
        }
    }

    private static boolean contains(int set, int number) {
        return (set & (1 << number)) != 0;
    }

    private static int without(int set, int number) {
        return set & ~(1 << number);
    }

    /** The facts and their sources, which outlast the debates. */
    private static final class FactBook {
        private final int[] sources;
        private int count;
        private int withdrawn;
        private int fallenSources;

        FactBook() {
            sources = new int[MAX_FACTS];
            count = 0;
            withdrawn = 0;
            fallenSources = 0;
        }

        int size() {
            return count;
        }

        /** Also false for a negative number, whose highest bit names a fact that can't be. */
        boolean hasAll(int facts) {
            return facts >= 0 && facts < (1 << count);
        }

        /** Returns the number of the new fact; NONE, if there is no room for one. */
        int add(int source) {
            if (count >= MAX_FACTS) {
                return NONE;
            }
            int fact = count;
            sources[fact] = source;
            count++;
            return fact;
        }

        boolean flipSource(int source) {
            fallenSources ^= 1 << source;
            return !contains(fallenSources, source);
        }

        boolean takeBack(int fact) {
            boolean first = !contains(withdrawn, fact);
            withdrawn |= 1 << fact;
            return first;
        }

        int standing() {
            int standing = 0;
            for (int fact = 0; fact < count; fact++) {
                if (!contains(withdrawn, fact) && !contains(fallenSources, sources[fact])) {
                    standing |= 1 << fact;
                }
            }
            return standing;
        }
    }

    /** The claims, the turn and the banks of one debate; its rows serve the next debate too. */
    private static final class Debate {
        private final int[] owners;
        private final int[] groundFacts;
        private final int[] groundClaims;
        private final int[] attackers;
        private final int[] banks;
        private int count;
        private int speaker;

        Debate() {
            owners = new int[MAX_CLAIMS];
            groundFacts = new int[MAX_CLAIMS];
            groundClaims = new int[MAX_CLAIMS];
            attackers = new int[MAX_CLAIMS];
            banks = new int[PLAYERS];
            Arrays.fill(banks, BANK_AT_FIRST);
            count = 0;
            speaker = 0;
        }

        void beginAgain() {
            Arrays.fill(banks, BANK_AT_FIRST);
            count = 0;
            speaker = 0;
        }

        int size() {
            return count;
        }

        int speaker() {
            return speaker;
        }

        int secondsLeft(int player) {
            return banks[player];
        }

        int ownerOf(int claim) {
            return owners[claim];
        }

        /**
         * Returns the number of the new claim; NONE, if there is no room for one, or the speaker
         * can't pay for it.
         */
        int add(int facts, int seconds) {
            if (count >= MAX_CLAIMS || banks[speaker] < seconds) {
                return NONE;
            }
            int claim = count;
            owners[claim] = speaker;
            groundFacts[claim] = facts;
            // the place may hold what a claim of an earlier debate left
            groundClaims[claim] = 0;
            attackers[claim] = 0;
            count++;
            banks[speaker] -= seconds;
            passTurn();
            return claim;
        }

        void passTurn() {
            speaker = speaker < PLAYERS - 1 ? speaker + 1 : 0;
        }

        boolean flipRest(int claim, int other) {
            groundClaims[claim] ^= 1 << other;
            return contains(groundClaims[claim], other);
        }

        boolean flipAttack(int claim, int other) {
            attackers[other] ^= 1 << claim;
            return contains(attackers[other], claim);
        }

        /** The rule by which a claim is IN. */
        boolean holds(int claim, int standingFacts, int claimsIn, int claimsOut) {
            return (groundFacts[claim] & ~standingFacts) == 0
                    && (groundClaims[claim] & ~claimsIn) == 0
                    && (attackers[claim] & ~claimsOut) == 0;
        }

        /** The rule by which a claim is OUT. */
        boolean fails(int claim, int standingFacts, int claimsIn, int claimsOut) {
            return (groundFacts[claim] & ~standingFacts) != 0
                    || (groundClaims[claim] & claimsOut) != 0
                    || (attackers[claim] & claimsIn) != 0;
        }

        /** Whether it matters for a claim how another one is decided. */
        boolean matters(int claim, int other) {
            return contains(groundClaims[claim] | attackers[claim], other);
        }

        /** The claims that themselves rest on a fact that does not stand. */
        int illFounded(int standingFacts) {
            int found = 0;
            for (int claim = 0; claim < count; claim++) {
                if ((groundFacts[claim] & ~standingFacts) != 0) {
                    found |= 1 << claim;
                }
            }
            return found;
        }

        int countOf(int player, int someClaims) {
            int found = 0;
            for (int claim = 0; claim < count; claim++) {
                if (owners[claim] == player && contains(someClaims, claim)) {
                    found++;
                }
            }
            return found;
        }
    }

    /** Decides all claims of the debate anew, each time that it is asked to. */
    private static final class Judge {
        private final Debate debate;
        private final int[] queue;
        private int queued;
        private int standingFacts;
        private int claimsIn;
        private int claimsOut;

        Judge(Debate debate) {
            this.debate = debate;
            queue = new int[MAX_CLAIMS];
            queued = 0;
            standingFacts = 0;
            claimsIn = 0;
            claimsOut = 0;
        }

        int claimsIn() {
            return claimsIn;
        }

        int decisionOn(int claim) {
            if (contains(claimsIn, claim)) {
                return IN;
            }
            return contains(claimsOut, claim) ? OUT : OPEN;
        }

        /** Goes on from each claim that was decided to those for which that matters. */
        void decideByGoingOn(int facts) {
            openAll(facts);
            for (int claim = 0; claim < debate.size(); claim++) {
                decideAndQueue(claim);
            }
            for (int head = 0; head < queued && head < MAX_CLAIMS; head++) {
                goOnFrom(queue[head]);
            }
        }

        /** Goes over all claims, again and again, until nothing changes. */
        void decideInRounds(int facts) {
            openAll(facts);
            boolean changed = true;
            // each round that changes something decides a claim, so as many rounds are enough
            for (int round = 0; changed && round < MAX_CLAIMS; round++) {
                changed = false;
                for (int claim = 0; claim < debate.size(); claim++) {
                    if (decide(claim)) {
                        changed = true;
                    }
                }
            }
        }

        private void openAll(int facts) {
            queued = 0;
            standingFacts = facts;
            claimsIn = 0;
            claimsOut = 0;
        }

        private void goOnFrom(int decided) {
            for (int claim = 0; claim < debate.size(); claim++) {
                if (debate.matters(claim, decided)) {
                    decideAndQueue(claim);
                }
            }
        }

        private void decideAndQueue(int claim) {
            if (decide(claim) && queued < MAX_CLAIMS) {
                queue[queued] = claim;
                queued++;
            }
        }

        /** Uses the two rules on a claim; returns whether that decided it. */
        private boolean decide(int claim) {
            if (contains(claimsIn | claimsOut, claim)) {
                return false;
            }
            if (debate.fails(claim, standingFacts, claimsIn, claimsOut)) {
                claimsOut |= 1 << claim;
                return true;
            }
            if (debate.holds(claim, standingFacts, claimsIn, claimsOut)) {
                claimsIn |= 1 << claim;
                return true;
            }
            return false;
        }
    }
}
