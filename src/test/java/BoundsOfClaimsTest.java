/** The sentences of promises 7 to 14 that name a bound, each with a test of its own. */
public final class BoundsOfClaimsTest {
    private static final Checks checks = new Checks();

    // Promise 7: "the player who has the turn": each of them
    private static void promise7WhoHasTheTurn() {
        for (int player = 0; player < 3; player++) {
            Quarrelboard x = new Quarrelboard();
            Boards.giveTurn(x, player);
            checks.due("its number", x.claim(0, 100), 0);
            checks.due("its player", x.playerOf(0), player);
            for (int any = 0; any < 3; any++) {
                checks.due("who pays", x.bank(any), any == player ? 200 : 300);
            }
        }
    }

    // Promise 7: "then the turn goes on", from 2 to 0, also with the last claim
    private static void promise7ThenTheTurnGoesOn() {
        Quarrelboard x = new Quarrelboard();
        for (int claim = 0; claim < 16; claim++) {
            checks.due("turn before", x.turn(), claim % 3);
            x.claim(0, 1);
            checks.due("turn after", x.turn(), (claim + 1) % 3);
        }
        Quarrelboard y = Boards.withClaims(14);
        y.claim(0, 1);
        checks.due("from 2 to 0", y.turn(), 0);
    }

    // Promise 7: "facts: the sum of 2 to the power of the facts on which it rests": from none to all
    private static void promise7SumOfFacts() {
        for (int facts = 0; facts <= 14; facts++) {
            Quarrelboard x = Boards.withFacts(facts);
            int all = (1 << facts) - 1;
            checks.due("no fact", x.claim(0, 1), 0);
            checks.due("all " + facts, x.claim(all, 1), 1);
            checks.dueArgument("the one above them", () -> x.claim(all + 1, 1));
            checks.dueArgument("the one above them, and all", () -> x.claim(2 * all + 1, 1));
            checks.dueArgument("-1", () -> x.claim(-1, 1));
            checks.due("claims", x.claims(), 2);
            checks.due("turn", x.turn(), 2);
        }
    }

    // Promise 7: "if facts has one that there is not": each of those, alone and with one that is
    private static void promise7EachFactThatIsNot() {
        for (int facts : new int[] {0, 1, 13, 14}) {
            Quarrelboard x = Boards.withFacts(facts);
            for (int none = facts; none < 32; none++) {
                int alone = 1 << none;
                checks.dueArgument("fact " + none + " of " + facts, () -> x.claim(alone, 1));
                checks.dueArgument("fact " + none + " of " + facts + " and 0", () -> x.claim(alone | 1, 1));
                checks.dueArgument("all but " + none, () -> x.claim(~alone, 1));
            }
            checks.due("claims", x.claims(), 0);
        }
    }

    // Promise 7: "facts on which it rests": facts that don't stand are facts
    private static void promise7FactsThatDontStand() {
        Quarrelboard x = Boards.withFacts(14);
        for (int fact = 0; fact < 14; fact += 2) {
            x.withdraw(fact);
        }
        for (int source = 1; source < 6; source += 2) {
            x.toggleSource(source);
        }
        checks.due("all, of which none stands", x.claim((1 << 14) - 1, 100), 0);
        checks.due("which is OUT", x.stateOf(0), Quarrelboard.OUT);
        checks.due("and costs as much", x.bank(0), 200);
    }

    // Promise 7: "seconds: 1 to 100"
    private static void promise7Seconds1To100() {
        Quarrelboard x = new Quarrelboard();
        checks.dueArgument("0", () -> x.claim(0, 0));
        checks.due("1", x.claim(0, 1), 0);
        checks.due("299 are left", x.bank(0), 299);
        checks.due("100", x.claim(0, 100), 1);
        checks.due("200 are left", x.bank(1), 200);
        checks.dueArgument("101", () -> x.claim(0, 101));
        checks.dueArgument("-1", () -> x.claim(0, -1));
        for (int far : Boards.FAR) {
            if (far < 1 || far > 100) {
                checks.dueArgument("" + far, () -> x.claim(0, far));
            }
        }
        checks.due("nothing of the third bank", x.bank(2), 300);
        checks.due("nor of the turn", x.turn(), 2);
    }

    // Promise 7: every number of seconds from 1 to 100 costs just that
    private static void promise7EachNumberOfSeconds() {
        Quarrelboard x = new Quarrelboard();
        for (int seconds = 1; seconds <= 100; seconds++) {
            checks.due("claim", x.claim(0, seconds), 0);
            checks.due("bank", x.bank(0), 300 - seconds);
            x.close();
        }
    }

    // Promise 7: "Throws IllegalStateException if there are 16 claims", whoever has the turn
    private static void promise7IfThereAre16() {
        Quarrelboard x = Boards.withClaims(15);
        checks.due("15 are not 16", x.claim(0, 1), 15);
        for (int player = 0; player < 3; player++) {
            checks.dueState("16", () -> x.claim(0, 1));
            checks.dueState("16, the most seconds", () -> x.claim(0, 100));
            x.skip();
        }
        x.close();
        for (int claim = 0; claim < 16; claim++) {
            checks.due("in the next debate", x.claim(0, 1), claim);
        }
        checks.dueState("16 in the next debate", () -> x.claim(0, 1));
    }

    // Promise 7: "or the bank has fewer seconds": one fewer, as many, one more
    private static void promise7IfTheBankHasFewer() {
        for (int player = 0; player < 3; player++) {
            for (int left = 0; left <= 101; left++) {
                Quarrelboard x = Boards.withBank(player, left);
                int claims = x.claims();
                int more = left + 1;
                checks.due("bank", x.bank(player), left);
                if (more <= 100) {
                    checks.dueState("one second more than " + left, () -> x.claim(0, more));
                    checks.due("bank after that", x.bank(player), left);
                    checks.due("turn after that", x.turn(), player);
                }
                if (left >= 1 && left <= 100) {
                    checks.due("all " + left, x.claim(0, left), claims);
                    checks.due("none is left", x.bank(player), 0);
                }
            }
        }
    }

    // the same: it is the bank of the player who has the turn, not another's
    private static void promise7WhoseBank() {
        for (int player = 0; player < 3; player++) {
            Quarrelboard x = Boards.withBank(player, 0);
            checks.dueState("no second", () -> x.claim(0, 1));
            x.skip();
            checks.due("the next player's has", x.claim(0, 100), 3);
            checks.due("and the one's after that", x.claim(0, 100), 4);
            checks.dueState("no second still", () -> x.claim(0, 1));
            x.close();
            Boards.giveTurn(x, player);
            checks.due("in the next debate it has", x.claim(0, 100), 0);
        }
    }

    // Promise 8: "Returns who has the turn then.": from 2 to 0, without seconds, with 16 claims
    private static void promise8Skip() {
        Quarrelboard poor = Boards.withBank(0, 0);
        Quarrelboard full = Boards.withClaims(16);
        full.skip();
        full.skip();
        for (Quarrelboard x : new Quarrelboard[] {new Quarrelboard(), poor, full}) {
            int claims = x.claims();
            checks.due("the turn before", x.turn(), 0);
            for (int time = 1; time <= 7; time++) {
                checks.due("skip", x.skip(), time % 3);
                checks.due("turn", x.turn(), time % 3);
            }
            checks.due("without a claim", x.claims(), claims);
        }
        checks.due("an empty bank stays empty", poor.bank(0), 0);
        checks.due("a full bank stays full", poor.bank(1), 300);
    }

    // Promises 9 and 10: "or not any more. Returns true if it does then.", again and again
    private static void promises9And10AgainAndAgain() {
        Quarrelboard x = Boards.withClaims(2);
        for (int time = 1; time <= 30; time++) {
            checks.due("rest(0, 1)", x.rest(0, 1), time % 2 == 1);
            checks.due("attack(1, 0)", x.attack(1, 0), time % 2 == 1);
        }
        checks.due("neither is left", x.stateOf(0), Quarrelboard.IN);
    }

    // Promises 9 and 10: each pair is a thing of its own: just the one that was told is there
    private static void promises9And10EachPair() {
        for (int claim = 0; claim < 16; claim++) {
            Quarrelboard rests = Boards.withClaims(16);
            Quarrelboard attacks = Boards.withClaims(16);
            int told = (claim + 7) % 16;
            rests.rest(claim, told);
            attacks.attack(claim, told);
            for (int other = 0; other < 16; other++) {
                if (other != claim) {
                    String pair = "(" + claim + ", " + other + ")";
                    checks.due("rest" + pair, rests.rest(claim, other), other != told);
                    checks.due("attack" + pair, attacks.attack(claim, other), other != told);
                    checks.due("the other way, rest" + pair, rests.rest(other, claim), true);
                    checks.due("the other way, attack" + pair, attacks.attack(other, claim), true);
                    checks.due("attack of one that rests" + pair, rests.attack(claim, other), true);
                    checks.due("rest of one that attacks" + pair, attacks.rest(claim, other), true);
                }
            }
        }
    }

    // Promises 9 and 10: "Throws IndexOutOfBoundsException as told, of either"
    private static void promises9And10OfEither() {
        for (int claims = 0; claims <= 16; claims++) {
            Quarrelboard x = Boards.withClaims(claims);
            int none = claims;
            for (int one = 0; one < claims; one++) {
                int is = one;
                checks.dueIndex("rest, the first", () -> x.rest(none, is));
                checks.dueIndex("rest, the second", () -> x.rest(is, none));
                checks.dueIndex("rest, the first below 0", () -> x.rest(-1, is));
                checks.dueIndex("rest, the second below 0", () -> x.rest(is, -1));
                checks.dueIndex("attack, the first", () -> x.attack(none, is));
                checks.dueIndex("attack, the second", () -> x.attack(is, none));
                checks.dueIndex("attack, the first below 0", () -> x.attack(-1, is));
                checks.dueIndex("attack, the second below 0", () -> x.attack(is, -1));
            }
            checks.dueIndex("rest, both", () -> x.rest(none, -1));
            checks.dueIndex("attack, both", () -> x.attack(-1, none));
        }
    }

    // Promises 9 and 10: "Throws IllegalArgumentException if both are the same"
    private static void promises9And10BothTheSame() {
        Quarrelboard x = Boards.withClaims(16);
        for (int claim = 0; claim < 16; claim++) {
            int same = claim;
            checks.dueArgument("rest", () -> x.rest(same, same));
            checks.dueArgument("attack", () -> x.attack(same, same));
            checks.due("it is IN still", x.stateOf(claim), Quarrelboard.IN);
        }
    }

    // Promises 9 and 10: claims of one player may rest on and attack one another
    private static void promises9And10OfOnePlayer() {
        Quarrelboard x = new Quarrelboard();
        Boards.claimOf(x, 2, 0);
        Boards.claimOf(x, 2, 0);
        checks.due("rest", x.rest(0, 1), true);
        checks.due("attack", x.attack(1, 0), true);
        checks.due("it counts", x.stateOf(0), Quarrelboard.OUT);
    }

    // Promise 11: "Returns how many claims there are.": from none to 16, and none again
    private static void promise11From0To16() {
        Quarrelboard x = new Quarrelboard();
        for (int claim = 0; claim < 16; claim++) {
            checks.due("claims", x.claims(), claim);
            checks.dueArgument("one that is refused", () -> x.claim(0, 0));
            x.claim(0, 1);
        }
        checks.dueState("one too many", () -> x.claim(0, 1));
        checks.due("claims of the full debate", x.claims(), 16);
        x.close();
        checks.due("claims of the next", x.claims(), 0);
    }

    // Promise 12: "Returns the player of a claim.": the first and the last one, of each player
    private static void promise12FirstAndLast() {
        for (int player = 0; player < 3; player++) {
            Quarrelboard x = new Quarrelboard();
            for (int claim = 0; claim < 16; claim++) {
                checks.dueIndex("not yet", () -> x.playerOf(x.claims()));
                Boards.claimOf(x, claim == 7 ? (player + 1) % 3 : player, 0);
                checks.dueIndex("not below 0", () -> x.playerOf(-1));
            }
            for (int claim = 0; claim < 16; claim++) {
                checks.due("playerOf(" + claim + ")", x.playerOf(claim),
                        claim == 7 ? (player + 1) % 3 : player);
            }
            checks.dueIndex("not a seventeenth", () -> x.playerOf(16));
        }
    }

    // Promise 13: "Returns who has the turn.": what is refused does not pass it
    private static void promise13NotOfWhatIsRefused() {
        Quarrelboard x = new Quarrelboard();
        for (int player = 0; player < 3; player++) {
            checks.dueArgument("no such fact", () -> x.claim(1, 1));
            checks.due("turn", x.turn(), player);
            checks.dueArgument("no second", () -> x.claim(0, 0));
            checks.due("turn", x.turn(), player);
            x.skip();
        }
        checks.due("from 2 to 0", x.turn(), 0);
        Quarrelboard y = Boards.withClaims(16);
        for (int player = 1; player < 4; player++) {
            checks.dueState("16 claims", () -> y.claim(0, 1));
            checks.due("turn", y.turn(), player % 3);
            y.skip();
        }
    }

    // Promise 14: "Returns the seconds in the bank of a player.": 300, 299, 1, 0
    private static void promise14From300To0() {
        for (int player = 0; player < 3; player++) {
            Quarrelboard x = Boards.withBank(player, 300);
            checks.due("all", x.bank(player), 300);
            x.claim(0, 1);
            checks.due("one fewer", x.bank(player), 299);
            Quarrelboard y = Boards.withBank(player, 1);
            checks.due("one", y.bank(player), 1);
            y.claim(0, 1);
            checks.due("none", y.bank(player), 0);
            y.skip();
            y.skip();
            checks.due("none still", y.bank(player), 0);
            y.close();
            checks.due("in the next debate", y.bank(player), 300);
        }
    }

    public static void main(String[] args) {
        promise7WhoHasTheTurn();
        promise7ThenTheTurnGoesOn();
        promise7SumOfFacts();
        promise7EachFactThatIsNot();
        promise7FactsThatDontStand();
        promise7Seconds1To100();
        promise7EachNumberOfSeconds();
        promise7IfThereAre16();
        promise7IfTheBankHasFewer();
        promise7WhoseBank();
        promise8Skip();
        promises9And10AgainAndAgain();
        promises9And10EachPair();
        promises9And10OfEither();
        promises9And10BothTheSame();
        promises9And10OfOnePlayer();
        promise11From0To16();
        promise12FirstAndLast();
        promise13NotOfWhatIsRefused();
        promise14From300To0();
        checks.end();
    }
}
