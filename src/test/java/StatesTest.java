/** Promises 15 and 16: how claims are decided, found in two ways. */
public final class StatesTest {
    private static final int OPEN = Quarrelboard.OPEN;
    private static final int IN = Quarrelboard.IN;
    private static final int OUT = Quarrelboard.OUT;
    private static final Checks checks = new Checks();

    private static Quarrelboard withClaims(int count) {
        Quarrelboard x = new Quarrelboard();
        x.addFact(0);
        for (int claim = 0; claim < count; claim++) {
            x.claim(0, 1);
        }
        return x;
    }

    /** Asks by rounds first: it must not answer what the other way found before. */
    private static void dueStates(String what, Quarrelboard x, int... want) {
        for (int claim = 0; claim < want.length; claim++) {
            checks.due(what + ": stateByRounds(" + claim + ")", x.stateByRounds(claim), want[claim]);
        }
        for (int claim = 0; claim < want.length; claim++) {
            checks.due(what + ": stateOf(" + claim + ")", x.stateOf(claim), want[claim]);
        }
    }

    private static void alone() {
        Quarrelboard x = withClaims(1);
        dueStates("a claim without anything", x, IN);
        x.claim(1, 1);
        dueStates("a claim on a fact", x, IN, IN);
        x.toggleSource(0);
        dueStates("a claim on a fallen fact", x, IN, OUT);
        x.toggleSource(0);
        dueStates("a claim on a fact that stands again", x, IN, IN);
        x.withdraw(0);
        dueStates("a claim on a withdrawn fact", x, IN, OUT);
    }

    private static void rests() {
        Quarrelboard x = withClaims(2);
        x.claim(1, 1);
        x.rest(0, 1);
        x.rest(0, 2);
        x.rest(1, 2);
        dueStates("rests on what is IN", x, IN, IN, IN);
        x.toggleSource(0);
        dueStates("rests on what is OUT", x, OUT, OUT, OUT);
        x.rest(1, 2);
        dueStates("rests on one that is OUT and one that is IN", x, OUT, IN, OUT);
        x.rest(0, 2);
        dueStates("rests on one that is IN", x, IN, IN, OUT);
    }

    private static void attacks() {
        Quarrelboard x = withClaims(4);
        x.attack(0, 1);
        dueStates("attacked by one", x, IN, OUT, IN, IN);
        x.attack(1, 2);
        dueStates("attacked by one that is OUT", x, IN, OUT, IN, IN);
        x.attack(2, 3);
        dueStates("a row of attacks", x, IN, OUT, IN, OUT);
        x.attack(1, 3);
        dueStates("attacked by one that is OUT and one that is IN", x, IN, OUT, IN, OUT);
        x.attack(2, 3);
        dueStates("attacked by one that is OUT alone", x, IN, OUT, IN, IN);
        x.attack(0, 1);
        dueStates("now it is IN", x, IN, IN, OUT, OUT);
    }

    private static void rings() {
        Quarrelboard x = withClaims(3);
        x.attack(0, 1);
        x.attack(1, 0);
        dueStates("two attack each other", x, OPEN, OPEN, IN);
        x.attack(2, 0);
        dueStates("a third decides it", x, OUT, IN, IN);
        x.attack(2, 0);
        x.rest(2, 0);
        dueStates("what rests on it is OPEN too", x, OPEN, OPEN, OPEN);
        x.attack(1, 2);
        dueStates("attacked by one that is OPEN", x, OPEN, OPEN, OPEN);

        Quarrelboard y = withClaims(3);
        y.rest(0, 1);
        y.rest(1, 0);
        dueStates("two rest on each other", y, OPEN, OPEN, IN);
        y.attack(2, 0);
        dueStates("which fall together", y, OUT, OUT, IN);
        y.attack(0, 2);
        dueStates("and are OPEN if they strike back", y, OPEN, OPEN, OPEN);

        Quarrelboard z = withClaims(3);
        z.attack(0, 1);
        z.attack(1, 2);
        z.attack(2, 0);
        dueStates("three in a ring of attacks", z, OPEN, OPEN, OPEN);
        z.rest(0, 1);
        dueStates("one that rests on what it attacks", z, OPEN, OPEN, OPEN);
    }

    private static void openWithOneReason() {
        Quarrelboard x = withClaims(4);
        x.attack(0, 1);
        x.attack(1, 0);
        x.rest(2, 0);
        x.rest(2, 3);
        dueStates("one ground OPEN, one IN", x, OPEN, OPEN, OPEN, IN);
        x.claim(1, 1);
        x.toggleSource(0);
        x.rest(2, 4);
        dueStates("one ground OPEN, one OUT", x, OPEN, OPEN, OUT, IN, OUT);
        x.rest(2, 4);
        x.attack(3, 2);
        dueStates("a ground OPEN, attacked by what is IN", x, OPEN, OPEN, OUT, IN, OUT);
        x.attack(3, 2);
        x.attack(4, 2);
        dueStates("a ground OPEN, attacked by what is OUT", x, OPEN, OPEN, OPEN, IN, OUT);
        x.attack(0, 4);
        dueStates("a fallen fact decides, not an OPEN attack", x, OPEN, OPEN, OPEN, IN, OUT);
    }

    private static void restsOnWhatAttacksIt() {
        Quarrelboard x = withClaims(2);
        x.rest(0, 1);
        x.attack(1, 0);
        dueStates("rests on what attacks it, which is IN", x, OUT, IN);
        x.claim(0, 1);
        x.attack(2, 1);
        dueStates("rests on what attacks it, which is OUT", x, OUT, OUT, IN);
        x.attack(1, 2);
        dueStates("rests on what attacks it, which is OPEN", x, OPEN, OPEN, OPEN);
    }

    /** Sixteen in a row against the order of their numbers, which takes the most rounds. */
    private static void longRows() {
        Quarrelboard x = withClaims(15);
        x.claim(1, 1);
        dueStates("sixteen without ties", x, IN, IN, IN, IN, IN, IN, IN, IN, IN, IN, IN, IN, IN, IN, IN, IN);
        for (int claim = 0; claim < 15; claim++) {
            x.rest(claim, claim + 1);
        }
        dueStates("a long row of rests", x, IN, IN, IN, IN, IN, IN, IN, IN, IN, IN, IN, IN, IN, IN, IN, IN);
        x.toggleSource(0);
        dueStates("a long row of rests that falls", x,
                OUT, OUT, OUT, OUT, OUT, OUT, OUT, OUT, OUT, OUT, OUT, OUT, OUT, OUT, OUT, OUT);

        Quarrelboard y = withClaims(16);
        for (int claim = 0; claim < 15; claim++) {
            y.attack(claim + 1, claim);
        }
        dueStates("a long row of attacks", y,
                OUT, IN, OUT, IN, OUT, IN, OUT, IN, OUT, IN, OUT, IN, OUT, IN, OUT, IN);
        y.attack(0, 15);
        dueStates("a ring of sixteen attacks", y,
                OPEN, OPEN, OPEN, OPEN, OPEN, OPEN, OPEN, OPEN, OPEN, OPEN, OPEN, OPEN, OPEN, OPEN, OPEN, OPEN);

        Quarrelboard z = withClaims(16);
        for (int claim = 0; claim < 15; claim++) {
            z.attack(claim, claim + 1);
        }
        dueStates("a long row of attacks in the order of the numbers", z,
                IN, OUT, IN, OUT, IN, OUT, IN, OUT, IN, OUT, IN, OUT, IN, OUT, IN, OUT);
    }

    /** Ten of which each matters for all later ones, and six in a row that are decided one by one. */
    private static void crowdAheadOfARow() {
        Quarrelboard x = withClaims(16);
        for (int claim = 0; claim < 10; claim++) {
            for (int other = 0; other < claim; other++) {
                x.rest(claim, other);
            }
        }
        for (int claim = 10; claim < 15; claim++) {
            x.rest(claim, claim + 1);
        }
        dueStates("a crowd of IN", x, IN, IN, IN, IN, IN, IN, IN, IN, IN, IN, IN, IN, IN, IN, IN, IN);
        x.attack(15, 0);
        x.attack(9, 15);
        dueStates("a crowd in a ring", x, OPEN, OPEN, OPEN, OPEN, OPEN, OPEN, OPEN, OPEN, OPEN, OPEN, OPEN,
                OPEN, OPEN, OPEN, OPEN, OPEN);
        x.attack(9, 15);
        dueStates("a crowd of OUT", x, OUT, OUT, OUT, OUT, OUT, OUT, OUT, OUT, OUT, OUT,
                IN, IN, IN, IN, IN, IN);
    }

    private static void noSuchClaim() {
        Quarrelboard x = new Quarrelboard();
        checks.dueIndex("stateOf without claims", () -> x.stateOf(0));
        checks.dueIndex("stateByRounds without claims", () -> x.stateByRounds(0));
        x.claim(0, 1);
        x.claim(0, 1);
        int[] none = {-1, 2, 15, 16, 32, Integer.MIN_VALUE, Integer.MAX_VALUE};
        for (int claim : none) {
            checks.dueIndex("stateOf(" + claim + ")", () -> x.stateOf(claim));
            checks.dueIndex("stateByRounds(" + claim + ")", () -> x.stateByRounds(claim));
        }
        x.close();
        checks.dueIndex("stateOf of the last debate", () -> x.stateOf(0));
        checks.dueIndex("stateByRounds of the last debate", () -> x.stateByRounds(0));
    }

    private static void questionsChangeNothing() {
        Quarrelboard x = withClaims(2);
        x.claim(1, 1);
        x.attack(2, 1);
        dueStates("before", x, IN, OUT, IN);
        x.scoreWithout(0, 0);
        x.keyFact(1);
        x.verdict();
        dueStates("after other questions", x, IN, OUT, IN);
        checks.due("and they answer the same again", x.stateOf(1) == x.stateOf(1), true);
    }

    public static void main(String[] args) {
        alone();
        rests();
        attacks();
        rings();
        openWithOneReason();
        restsOnWhatAttacksIt();
        longRows();
        crowdAheadOfARow();
        noSuchClaim();
        questionsChangeNothing();
        checks.end();
    }
}
