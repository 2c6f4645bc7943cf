/** Promises 17 to 20: scores, what would stand without a fact, and the verdict. */
public final class ScoresTest {
    private static final int NONE = Quarrelboard.NONE;
    private static final int[] NO_PLAYERS = {-1, 3, 4, 16, Integer.MIN_VALUE, Integer.MAX_VALUE};
    private static final Checks checks = new Checks();

    private static void dueScores(String what, Quarrelboard x, int zero, int one, int two) {
        checks.due(what + ": score(0)", x.score(0), zero);
        checks.due(what + ": score(1)", x.score(1), one);
        checks.due(what + ": score(2)", x.score(2), two);
    }

    private static void promise17Score() {
        Quarrelboard x = Boards.withFacts(2);
        dueScores("no claims", x, 0, 0, 0);
        Boards.claimOf(x, 1, 0);
        Boards.claimOf(x, 1, 1);
        Boards.claimOf(x, 0, 2);
        Boards.claimOf(x, 1, 3);
        dueScores("all IN", x, 1, 3, 0);
        x.toggleSource(1);
        dueScores("some OUT", x, 0, 2, 0);
        Boards.claimOf(x, 2, 0);
        Boards.claimOf(x, 2, 0);
        dueScores("more", x, 0, 2, 2);
        x.attack(4, 5);
        x.attack(5, 4);
        dueScores("OPEN ones don't count", x, 0, 2, 0);
        x.attack(0, 4);
        dueScores("one of the two", x, 0, 2, 1);
        for (int player : NO_PLAYERS) {
            checks.dueIndex("score(" + player + ")", () -> x.score(player));
        }
    }

    private static void promise17ManyClaims() {
        Quarrelboard x = new Quarrelboard();
        for (int claim = 0; claim < 16; claim++) {
            Boards.claimOf(x, 2, 0);
        }
        dueScores("all of one player", x, 0, 0, 16);
        checks.due("who wins", x.verdict(), 2);
    }

    private static void promise18ScoreWithout() {
        Quarrelboard x = Boards.withFacts(3);
        Boards.claimOf(x, 0, 1);
        Boards.claimOf(x, 0, 2);
        Boards.claimOf(x, 1, 3);
        Boards.claimOf(x, 2, 0);
        checks.due("without 0", x.scoreWithout(0, 0), 1);
        checks.due("without 1", x.scoreWithout(0, 1), 1);
        checks.due("without 2", x.scoreWithout(0, 2), 2);
        checks.due("another without 0", x.scoreWithout(1, 0), 0);
        checks.due("another without 2", x.scoreWithout(1, 2), 1);
        checks.due("one without facts", x.scoreWithout(2, 0), 1);
        x.attack(2, 3);
        checks.due("its attacker stands", x.score(2), 0);
        checks.due("it would be more", x.scoreWithout(2, 1), 1);
        checks.due("or not", x.scoreWithout(2, 2), 0);
        x.withdraw(1);
        checks.due("without what was withdrawn", x.scoreWithout(2, 1), 1);
        checks.due("without another one too", x.scoreWithout(0, 0), 0);
        checks.due("only if", x.score(0), 1);
        x.toggleSource(0);
        checks.due("without a fallen one", x.scoreWithout(0, 0), 0);
        checks.due("the fact stands as it did", x.factStands(2), true);
    }

    private static void promise18OneFactNotItsSource() {
        Quarrelboard x = new Quarrelboard();
        x.addFact(4);
        x.addFact(4);
        Boards.claimOf(x, 0, 1);
        Boards.claimOf(x, 0, 2);
        checks.due("a fact of the same source still stands", x.scoreWithout(0, 0), 1);
        checks.due("and the other way", x.scoreWithout(0, 1), 1);
    }

    private static void promise18Wrong() {
        Quarrelboard x = new Quarrelboard();
        checks.dueIndex("without facts", () -> x.scoreWithout(0, 0));
        x.addFact(0);
        x.addFact(0);
        for (int player : NO_PLAYERS) {
            checks.dueIndex("no such player", () -> x.scoreWithout(player, 0));
        }
        int[] none = {-1, 2, 13, 14, 32, Integer.MIN_VALUE, Integer.MAX_VALUE};
        for (int fact : none) {
            checks.dueIndex("no such fact", () -> x.scoreWithout(0, fact));
            checks.dueIndex("neither", () -> x.scoreWithout(3, fact));
        }
        checks.due("there are no claims", x.scoreWithout(2, 1), 0);
    }

    private static void promise19KeyFact() {
        Quarrelboard x = Boards.withFacts(4);
        Boards.claimOf(x, 0, 2);
        Boards.claimOf(x, 0, 4);
        Boards.claimOf(x, 0, 4);
        Boards.claimOf(x, 1, 8);
        checks.due("two claims rest on it", x.keyFact(0), 2);
        checks.due("one claim rests on it", x.keyFact(1), 3);
        checks.due("none rests on any: the lowest", x.keyFact(2), 0);
        Boards.claimOf(x, 0, 2);
        checks.due("of several the lowest", x.keyFact(0), 1);
        x.withdraw(1);
        checks.due("one that stands", x.keyFact(0), 2);
        x.toggleSource(2);
        checks.due("none of its claims stands: the lowest that stands", x.keyFact(0), 0);
        x.withdraw(0);
        checks.due("the lowest was withdrawn", x.keyFact(0), 3);
        checks.due("the last fact that stands", x.keyFact(2), 3);
        x.toggleSource(3);
        for (int player = 0; player < 3; player++) {
            checks.due("no fact stands", x.keyFact(player), NONE);
        }
        x.toggleSource(2);
        checks.due("one stands again", x.keyFact(1), 2);
    }

    private static void promise19WouldBeMore() {
        Quarrelboard x = Boards.withFacts(3);
        Boards.claimOf(x, 1, 1);
        Boards.claimOf(x, 0, 0);
        Boards.claimOf(x, 2, 2);
        x.attack(0, 1);
        checks.due("a fact that only the other needs is not key", x.keyFact(0), 1);
        checks.due("without it the score would be more", x.scoreWithout(0, 0), 1);
        x.attack(2, 0);
        checks.due("its helper rests on the second", x.keyFact(0), 1);
        checks.due("so it would fall without it", x.scoreWithout(0, 1), 0);
        checks.due("that of the helper", x.keyFact(2), 1);
    }

    private static void promise19EachMakesItMore() {
        Quarrelboard x = Boards.withFacts(1);
        Boards.claimOf(x, 1, 1);
        Boards.claimOf(x, 0, 0);
        x.attack(0, 1);
        checks.due("the only fact, though the score would be more", x.keyFact(0), 0);
    }

    private static void promise19Furthest() {
        Quarrelboard x = Boards.withFacts(14);
        Boards.claimOf(x, 2, 1 << 13);
        checks.due("the last fact", x.keyFact(2), 13);
        for (int player : NO_PLAYERS) {
            checks.dueIndex("keyFact(" + player + ")", () -> x.keyFact(player));
        }
        Quarrelboard y = new Quarrelboard();
        checks.dueIndex("no such player, no facts", () -> y.keyFact(3));
        checks.due("no facts", y.keyFact(0), NONE);
    }

    private static void promise20Verdict() {
        Quarrelboard x = Boards.withFacts(1);
        checks.due("no claims", x.verdict(), NONE);
        Boards.claimOf(x, 1, 0);
        checks.due("the only one", x.verdict(), 1);
        Boards.claimOf(x, 2, 0);
        checks.due("two have the same", x.verdict(), NONE);
        Boards.claimOf(x, 0, 0);
        checks.due("three have the same", x.verdict(), NONE);
        Boards.claimOf(x, 0, 1);
        checks.due("the first has most", x.verdict(), 0);
        x.toggleSource(0);
        checks.due("not without its fact", x.verdict(), NONE);
        Boards.claimOf(x, 2, 0);
        checks.due("the last has most", x.verdict(), 2);
        Boards.claimOf(x, 0, 0);
        checks.due("the first and the last", x.verdict(), NONE);
        Boards.claimOf(x, 1, 0);
        Boards.claimOf(x, 1, 0);
        checks.due("the middle one above two that have the same", x.verdict(), 1);
    }

    private static void promise20TwoBelowHaveTheSame() {
        for (int winner = 0; winner < 3; winner++) {
            Quarrelboard x = new Quarrelboard();
            for (int player = 0; player < 3; player++) {
                Boards.claimOf(x, player, 0);
            }
            Boards.claimOf(x, winner, 0);
            checks.due("two below have the same", x.verdict(), winner);
            Boards.claimOf(x, (winner + 1) % 3, 0);
            checks.due("two above have the same", x.verdict(), NONE);
            Boards.claimOf(x, (winner + 1) % 3, 0);
            checks.due("three differ", x.verdict(), (winner + 1) % 3);
        }
    }

    private static void promise20OpenClaims() {
        Quarrelboard x = new Quarrelboard();
        Boards.claimOf(x, 0, 0);
        Boards.claimOf(x, 1, 0);
        Boards.claimOf(x, 2, 0);
        x.attack(0, 1);
        x.attack(1, 0);
        checks.due("OPEN claims don't count", x.verdict(), 2);
        x.attack(0, 2);
        checks.due("all OPEN", x.verdict(), NONE);
    }

    public static void main(String[] args) {
        promise17Score();
        promise17ManyClaims();
        promise18ScoreWithout();
        promise18OneFactNotItsSource();
        promise18Wrong();
        promise19KeyFact();
        promise19WouldBeMore();
        promise19EachMakesItMore();
        promise19Furthest();
        promise20Verdict();
        promise20TwoBelowHaveTheSame();
        promise20OpenClaims();
        checks.end();
    }
}
