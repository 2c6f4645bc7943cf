/**
 * The sentences of 'Terms' that name a bound, each with a test of its own; the sentence stands above
 * it. How claims are decided is in BoundsOfStatesTest, that a call that throws changes nothing in
 * RefusedTest.
 */
public final class BoundsOfTermsTest {
    private static final Checks checks = new Checks();

    // "An object is used for at most 512 calls after it has been made."
    private static void fiveHundredAndTwelveCalls() {
        Quarrelboard closes = new Quarrelboard();
        Quarrelboard skips = new Quarrelboard();
        Quarrelboard falls = new Quarrelboard();
        for (int call = 1; call <= 512; call++) {
            checks.due("close, call " + call, closes.close(), call);
            checks.due("skip, call " + call, skips.skip(), call % 3);
            checks.due("toggleSource, call " + call, falls.toggleSource(5), call % 2 == 0);
        }
    }

    // the same sentence: two debates of which each takes the most calls
    private static void fiveHundredAndTwelveCallsOfTies() {
        Quarrelboard x = Boards.withClaims(16);
        int calls = 16;
        for (int round = 1; round <= 2; round++) {
            for (int claim = 0; claim < 16; claim++) {
                for (int other = 0; other < 16; other++) {
                    if (claim != other && calls < 511) {
                        checks.due("rest, round " + round, x.rest(claim, other), round == 1);
                        calls++;
                    }
                }
            }
        }
        checks.due("calls before the last", calls, 496);
        checks.due("none rests on another any more", x.score(0), 6);
        for (int call = calls + 2; call < 512; call++) {
            x.skip();
        }
        checks.due("the last call", x.close(), 1);
    }

    // "Sources are 0 to 5"
    private static void sourcesAre0To5() {
        Quarrelboard x = new Quarrelboard();
        checks.dueIndex("addFact(-1)", () -> x.addFact(-1));
        checks.due("addFact(0)", x.addFact(0), 0);
        checks.due("addFact(5)", x.addFact(5), 1);
        checks.dueIndex("addFact(6)", () -> x.addFact(6));
        checks.dueIndex("toggleSource(-1)", () -> x.toggleSource(-1));
        checks.due("toggleSource(0)", x.toggleSource(0), false);
        checks.due("toggleSource(5)", x.toggleSource(5), false);
        checks.dueIndex("toggleSource(6)", () -> x.toggleSource(6));
    }

    // "Sources are 0 to 5; each stands or has fallen": each by itself
    private static void eachSourceByItself() {
        for (int fallen = 0; fallen < 6; fallen++) {
            Quarrelboard x = Boards.withFacts(6);
            x.toggleSource(fallen);
            for (int fact = 0; fact < 6; fact++) {
                checks.due("the fact of source " + fact + ", fallen is " + fallen, x.factStands(fact),
                        fact != fallen);
            }
        }
    }

    // "and stands at first"
    private static void sourcesStandAtFirst() {
        Quarrelboard x = new Quarrelboard();
        for (int source = 0; source < 6; source++) {
            x.addFact(source);
            checks.due("a fact of source " + source, x.factStands(source), true);
        }
        for (int source = 0; source < 6; source++) {
            checks.due("the first toggle lets it fall", x.toggleSource(source), false);
        }
    }

    // "Facts are numbered from 0"
    private static void factsAreNumberedFrom0() {
        Quarrelboard x = new Quarrelboard();
        checks.dueIndex("no fact 0 yet", () -> x.factStands(0));
        checks.due("the first", x.addFact(5), 0);
        checks.due("there is a fact 0", x.factStands(0), true);
        checks.dueIndex("no fact -1", () -> x.factStands(-1));
        checks.dueIndex("no fact 1 yet", () -> x.factStands(1));
        checks.due("the second", x.addFact(5), 1);
        checks.due("there is a fact 1", x.factStands(1), true);
    }

    // "at most 14"
    private static void atMost14Facts() {
        Quarrelboard x = Boards.withFacts(13);
        checks.due("facts, of 13", x.facts(), 13);
        checks.due("the last of 13", x.factStands(12), true);
        checks.dueIndex("no fourteenth of 13", () -> x.factStands(13));
        checks.due("the fourteenth", x.addFact(0), 13);
        checks.due("the last of 14", x.factStands(13), true);
        checks.dueIndex("no fifteenth of 14", () -> x.factStands(14));
        checks.dueState("a fifteenth", () -> x.addFact(0));
        checks.due("facts, of 14", x.facts(), 14);
        checks.dueIndex("no fifteenth after that", () -> x.factStands(14));
    }

    // "it stands if its source stands, and it was not withdrawn"
    private static void itStandsIfBoth() {
        Quarrelboard x = new Quarrelboard();
        x.addFact(0);
        x.addFact(0);
        x.addFact(1);
        x.addFact(1);
        x.withdraw(1);
        x.withdraw(3);
        x.toggleSource(1);
        checks.due("stands, not withdrawn", x.factStands(0), true);
        checks.due("stands, withdrawn", x.factStands(1), false);
        checks.due("has fallen, not withdrawn", x.factStands(2), false);
        checks.due("has fallen, withdrawn", x.factStands(3), false);
    }

    // "The players are 0 to 2."
    private static void playersAre0To2() {
        Quarrelboard x = Boards.withFacts(1);
        for (int player : new int[] {0, 2}) {
            checks.due("bank(" + player + ")", x.bank(player), 300);
            checks.due("score(" + player + ")", x.score(player), 0);
            checks.due("scoreWithout(" + player + ", 0)", x.scoreWithout(player, 0), 0);
            checks.due("keyFact(" + player + ")", x.keyFact(player), 0);
            checks.due("reputation(" + player + ")", x.reputation(player), 0);
        }
        for (int player : new int[] {-1, 3}) {
            checks.dueIndex("bank(" + player + ")", () -> x.bank(player));
            checks.dueIndex("score(" + player + ")", () -> x.score(player));
            checks.dueIndex("scoreWithout(" + player + ", 0)", () -> x.scoreWithout(player, 0));
            checks.dueIndex("keyFact(" + player + ")", () -> x.keyFact(player));
            checks.dueIndex("reputation(" + player + ")", () -> x.reputation(player));
        }
    }

    // "The player 0 has the turn at first"
    private static void player0HasTheTurnAtFirst() {
        Quarrelboard x = new Quarrelboard();
        checks.due("turn", x.turn(), 0);
        checks.due("the first claim's player", x.playerOf(x.claim(0, 1)), 0);
    }

    // "the turn goes on to the next player, from 2 to 0": by skips, by claims, and by both
    private static void theTurnGoesRound() {
        for (int kinds = 0; kinds < 8; kinds++) {
            Quarrelboard x = new Quarrelboard();
            for (int turn = 0; turn < 3; turn++) {
                checks.due("turn before", x.turn(), turn);
                if ((kinds >> turn & 1) == 0) {
                    x.skip();
                } else {
                    checks.due("playerOf", x.playerOf(x.claim(0, 1)), turn);
                }
            }
            checks.due("from 2 to 0, kinds " + kinds, x.turn(), 0);
            checks.due("and on to 1", x.skip(), 1);
        }
    }

    // "A player has a bank of seconds, 300 at first."
    private static void banksOf300AtFirst() {
        for (int player = 0; player < 3; player++) {
            Quarrelboard x = new Quarrelboard();
            checks.due("bank at first", x.bank(player), 300);
            for (int left = 200; left >= 0; left -= 100) {
                Boards.claimOf(x, player, 0, 100);
                checks.due("bank", x.bank(player), left);
            }
            Boards.giveTurn(x, player);
            checks.dueState("not more than 300", () -> x.claim(0, 1));
            checks.due("the next player's", x.bank((player + 1) % 3), 300);
            checks.due("and the one's after that", x.bank((player + 2) % 3), 300);
        }
    }

    // "Claims of the debate are numbered from 0"
    private static void claimsAreNumberedFrom0() {
        Quarrelboard x = new Quarrelboard();
        checks.dueIndex("no claim 0 yet", () -> x.playerOf(0));
        checks.due("the first", x.claim(0, 1), 0);
        checks.due("there is a claim 0", x.playerOf(0), 0);
        checks.dueIndex("no claim -1", () -> x.playerOf(-1));
        checks.dueIndex("no claim 1 yet", () -> x.playerOf(1));
        x.close();
        checks.dueIndex("no claim 0 of the next debate yet", () -> x.playerOf(0));
        checks.due("the first of the next debate", x.claim(0, 1), 0);
    }

    // "at most 16"
    private static void atMost16Claims() {
        Quarrelboard x = Boards.withClaims(15);
        checks.due("claims, of 15", x.claims(), 15);
        checks.due("the last of 15", x.playerOf(14), 2);
        checks.dueIndex("no sixteenth of 15", () -> x.playerOf(15));
        checks.due("the sixteenth", x.claim(0, 1), 15);
        checks.due("the last of 16", x.playerOf(15), 0);
        checks.dueIndex("no seventeenth of 16", () -> x.playerOf(16));
        checks.dueState("a seventeenth", () -> x.claim(0, 1));
        checks.due("claims, of 16", x.claims(), 16);
        checks.dueIndex("no seventeenth after that", () -> x.playerOf(16));
    }

    // "The score of a player is the number of its claims that stand."
    private static void scoresFrom0To16() {
        for (int player = 0; player < 3; player++) {
            Quarrelboard x = new Quarrelboard();
            checks.due("no claim", x.score(player), 0);
            for (int claim = 1; claim <= 16; claim++) {
                Boards.claimOf(x, player, 0);
                checks.due("its claims", x.score(player), claim);
                checks.due("those of the next one", x.score((player + 1) % 3), 0);
                checks.due("those of the one after that", x.score((player + 2) % 3), 0);
            }
        }
    }

    // "The verdict is the player with the greatest score, if no other one has the same."
    private static void theGreatestScoreByOne() {
        for (int player = 0; player < 3; player++) {
            Quarrelboard x = new Quarrelboard();
            int other = (player + 1) % 3;
            for (int more = 0; more < 8; more++) {
                checks.due("the same", x.verdict(), Quarrelboard.NONE);
                Boards.claimOf(x, player, 0);
                checks.due("one more", x.verdict(), player);
                Boards.claimOf(x, other, 0);
            }
            checks.due("eight of each of two", x.verdict(), Quarrelboard.NONE);
        }
    }

    // "If several exceptions apply to a call, the one that its throws clause names first is thrown"
    private static void severalOfAddFact() {
        Quarrelboard x = Boards.withFacts(14);
        checks.dueIndex("no such source, 14 facts", () -> x.addFact(-1));
        checks.dueIndex("no such source, 14 facts", () -> x.addFact(6));
        checks.dueState("14 facts", () -> x.addFact(5));
    }

    // the same sentence, of claim: 16 claims, or too few seconds, or both
    private static void severalOfClaim() {
        Quarrelboard full = Boards.withClaims(16);
        Quarrelboard poor = Boards.withBank(0, 0);
        Quarrelboard both = Boards.withClaims(12);
        Boards.claimOf(both, 1, 0, 100);
        Boards.claimOf(both, 1, 0, 100);
        Boards.claimOf(both, 1, 0, 96);
        Boards.claimOf(both, 0, 0);
        checks.due("it has 16 claims", both.claims(), 16);
        checks.due("and the turn", both.turn(), 1);
        checks.due("and no second", both.bank(1), 0);
        for (Quarrelboard x : new Quarrelboard[] {full, poor, both}) {
            x.addFact(0);
            checks.dueState("neither is wrong", () -> x.claim(1, 100));
            checks.dueArgument("no such fact", () -> x.claim(2, 100));
            checks.dueArgument("no such fact, among others", () -> x.claim(3, 100));
            checks.dueArgument("facts below 0", () -> x.claim(-1, 100));
            checks.dueArgument("no second", () -> x.claim(1, 0));
            checks.dueArgument("101 seconds", () -> x.claim(1, 101));
            checks.dueArgument("no such fact, and no second", () -> x.claim(2, 0));
            checks.dueArgument("no such fact, and 101 seconds", () -> x.claim(2, 101));
        }
    }

    // the same sentence, of rest and attack
    private static void severalOfTies() {
        for (int claims = 0; claims <= 16; claims++) {
            Quarrelboard x = Boards.withClaims(claims);
            for (int none : new int[] {-1, claims}) {
                checks.dueIndex("rest of none on itself", () -> x.rest(none, none));
                checks.dueIndex("attack of none on itself", () -> x.attack(none, none));
            }
            if (claims > 0) {
                int last = claims - 1;
                checks.dueArgument("rest of the last on itself", () -> x.rest(last, last));
                checks.dueArgument("attack of the last on itself", () -> x.attack(last, last));
            }
        }
    }

    // "IndexOutOfBoundsException is thrown if there is no such source, fact, player or claim."
    private static void farNumbers() {
        for (Quarrelboard x : new Quarrelboard[] {new Quarrelboard(), fullBoard()}) {
            for (int far : Boards.FAR) {
                String n = "(" + far + ")";
                checks.dueIndex("addFact" + n, () -> x.addFact(far));
                checks.dueIndex("toggleSource" + n, () -> x.toggleSource(far));
                checks.dueIndex("withdraw" + n, () -> x.withdraw(far));
                checks.dueIndex("factStands" + n, () -> x.factStands(far));
                checks.dueIndex("rest" + n, () -> x.rest(far, 0));
                checks.dueIndex("rest on " + n, () -> x.rest(0, far));
                checks.dueIndex("attack" + n, () -> x.attack(far, 0));
                checks.dueIndex("attack on " + n, () -> x.attack(0, far));
                checks.dueIndex("playerOf" + n, () -> x.playerOf(far));
                checks.dueIndex("bank" + n, () -> x.bank(far));
                checks.dueIndex("stateOf" + n, () -> x.stateOf(far));
                checks.dueIndex("stateByRounds" + n, () -> x.stateByRounds(far));
                checks.dueIndex("score" + n, () -> x.score(far));
                checks.dueIndex("scoreWithout, player " + n, () -> x.scoreWithout(far, 0));
                checks.dueIndex("scoreWithout, fact " + n, () -> x.scoreWithout(0, far));
                checks.dueIndex("keyFact" + n, () -> x.keyFact(far));
                checks.dueIndex("reputation" + n, () -> x.reputation(far));
            }
        }
    }

    private static Quarrelboard fullBoard() {
        Quarrelboard x = Boards.withFacts(14);
        Boards.addClaims(x, 16, (1 << 14) - 1);
        return x;
    }

    // "The constants: NONE = -1", "OPEN = 0, IN = 1, OUT = 2"
    private static void constants() {
        checks.due("NONE", Quarrelboard.NONE, -1);
        checks.due("OPEN", Quarrelboard.OPEN, 0);
        checks.due("IN", Quarrelboard.IN, 1);
        checks.due("OUT", Quarrelboard.OUT, 2);
        Quarrelboard x = Boards.withClaims(4);
        x.attack(0, 1);
        x.attack(2, 3);
        x.attack(3, 2);
        checks.due("IN is answered as 1", x.stateOf(0), 1);
        checks.due("OUT is answered as 2", x.stateOf(1), 2);
        checks.due("OPEN is answered as 0", x.stateOf(2), 0);
        checks.due("NONE is answered as -1", x.keyFact(0), -1);
    }

    public static void main(String[] args) {
        fiveHundredAndTwelveCalls();
        fiveHundredAndTwelveCallsOfTies();
        sourcesAre0To5();
        eachSourceByItself();
        sourcesStandAtFirst();
        factsAreNumberedFrom0();
        atMost14Facts();
        itStandsIfBoth();
        playersAre0To2();
        player0HasTheTurnAtFirst();
        theTurnGoesRound();
        banksOf300AtFirst();
        claimsAreNumberedFrom0();
        atMost16Claims();
        scoresFrom0To16();
        theGreatestScoreByOne();
        severalOfAddFact();
        severalOfClaim();
        severalOfTies();
        farNumbers();
        constants();
        checks.end();
    }
}
