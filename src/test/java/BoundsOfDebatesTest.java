/** The sentences of promises 21 and 22 that name a bound, each with a test of its own. */
public final class BoundsOfDebatesTest {
    private static final int ALL_FACTS = (1 << 14) - 1;
    private static final Checks checks = new Checks();

    private static void dueReputations(String what, Quarrelboard x, int zero, int one, int two) {
        checks.due(what + ": reputation(0)", x.reputation(0), zero);
        checks.due(what + ": reputation(1)", x.reputation(1), one);
        checks.due(what + ": reputation(2)", x.reputation(2), two);
    }

    // Promise 21: "the reputation of each player, 0 at first"
    private static void promise21Reputation0AtFirst() {
        Quarrelboard x = Boards.withFacts(14);
        dueReputations("at first", x, 0, 0, 0);
        Boards.addClaims(x, 16, ALL_FACTS);
        dueReputations("while the debate goes on", x, 0, 0, 0);
    }

    // Promise 21: "grows by its score": from 0 to 16, each player's
    private static void promise21GrowsByItsScore() {
        for (int player = 0; player < 3; player++) {
            Quarrelboard x = new Quarrelboard();
            int want = 0;
            for (int score : new int[] {0, 1, 2, 15, 16}) {
                for (int claim = 0; claim < score; claim++) {
                    Boards.claimOf(x, player, 0);
                }
                x.close();
                want += score;
                checks.due("reputation(" + player + ")", x.reputation(player), want);
                checks.due("the next player's", x.reputation((player + 1) % 3), 0);
                checks.due("the one's after that", x.reputation((player + 2) % 3), 0);
            }
        }
    }

    // Promise 21: "and becomes less by the number of its claims that rest on a fact that does not stand"
    private static void promise21BecomesLess() {
        for (int player = 0; player < 3; player++) {
            Quarrelboard x = Boards.withFacts(1);
            x.withdraw(0);
            int want = 0;
            for (int count : new int[] {0, 1, 2, 15, 16}) {
                for (int claim = 0; claim < count; claim++) {
                    Boards.claimOf(x, player, 1);
                }
                x.close();
                want -= count;
                checks.due("reputation(" + player + ")", x.reputation(player), want);
                checks.due("the next player's", x.reputation((player + 1) % 3), 0);
                checks.due("the one's after that", x.reputation((player + 2) % 3), 0);
            }
        }
    }

    // Promise 21: both at once
    private static void promise21GrowsAndBecomesLess() {
        for (int well = 0; well <= 16; well++) {
            Quarrelboard x = Boards.withFacts(1);
            x.toggleSource(0);
            for (int claim = 0; claim < 16; claim++) {
                Boards.claimOf(x, 1, claim < well ? 0 : 1);
            }
            x.close();
            dueReputations(well + " stand, " + (16 - well) + " don't", x, 0, well - (16 - well), 0);
        }
    }

    // Promise 21: "(themselves, ..)": a claim that rests on such a claim is OUT, and takes nothing
    private static void promise21Themselves() {
        Quarrelboard x = Boards.withFacts(2);
        x.withdraw(0);
        Boards.claimOf(x, 0, 1);
        for (int claim = 1; claim < 16; claim++) {
            Boards.claimOf(x, 1, 2);
            x.rest(claim, claim - 1);
        }
        checks.due("it is OUT", x.stateOf(15), Quarrelboard.OUT);
        x.close();
        dueReputations("one rests on such a fact, 15 on that claim", x, -1, 0, 0);
    }

    // Promise 21: "(.., each counted once)": a claim on 14 such facts; on 13 others and one such
    private static void promise21EachCountedOnce() {
        for (int stands = 0; stands <= 14; stands++) {
            Quarrelboard x = Boards.withFacts(14);
            for (int fact = stands; fact < 14; fact++) {
                x.withdraw(fact);
            }
            Boards.claimOf(x, 2, ALL_FACTS);
            x.close();
            dueReputations("of 14 facts " + stands + " stand", x, 0, 0, stands == 14 ? 1 : -1);
        }
    }

    // Promise 21: each such claim takes one, whether something else makes it OUT or would leave it OPEN
    private static void promise21WhateverElse() {
        Quarrelboard x = Boards.withFacts(1);
        x.toggleSource(0);
        Boards.claimOf(x, 0, 0);
        Boards.claimOf(x, 1, 1);
        Boards.claimOf(x, 1, 1);
        Boards.claimOf(x, 1, 1);
        x.attack(0, 1);
        x.attack(2, 3);
        x.attack(3, 2);
        x.close();
        dueReputations("three of them", x, 1, -3, 0);
    }

    // Promise 21: a claim that is OUT or OPEN, but on no such fact, neither adds nor takes
    private static void promise21NeitherAddsNorTakes() {
        Quarrelboard x = Boards.withFacts(14);
        Boards.claimOf(x, 0, 0);
        Boards.claimOf(x, 1, ALL_FACTS);
        Boards.claimOf(x, 2, ALL_FACTS);
        Boards.claimOf(x, 2, 0);
        x.attack(0, 1);
        x.attack(2, 3);
        x.attack(3, 2);
        x.close();
        dueReputations("IN, OUT, OPEN", x, 1, 0, 0);
    }

    // Promise 21: a fact "that does not stand" then, at the close: not before, not after
    private static void promise21AtTheClose() {
        Quarrelboard x = Boards.withFacts(1);
        x.toggleSource(0);
        x.claim(1, 1);
        x.toggleSource(0);
        x.close();
        dueReputations("it stands again", x, 1, 0, 0);
        x.claim(1, 1);
        x.toggleSource(0);
        x.close();
        dueReputations("it fell", x, 0, 0, 0);
        x.toggleSource(0);
        dueReputations("and stands again later", x, 0, 0, 0);
        x.close();
        dueReputations("a debate without claims", x, 0, 0, 0);
    }

    // Promise 21: "Then the next debate begins, without claims": from a full one
    private static void promise21WithoutClaims() {
        Quarrelboard x = Boards.withClaims(16);
        x.close();
        checks.due("claims", x.claims(), 0);
        for (int claim = 0; claim < 16; claim++) {
            int gone = claim;
            checks.dueIndex("playerOf", () -> x.playerOf(gone));
            checks.dueIndex("stateOf", () -> x.stateOf(gone));
            checks.dueIndex("stateByRounds", () -> x.stateByRounds(gone));
        }
        checks.due("the first", x.claim(0, 1), 0);
        checks.dueIndex("there is no second", () -> x.stateOf(1));
        checks.dueIndex("on which the first could rest", () -> x.rest(0, 1));
        checks.dueIndex("nor one that could attack it", () -> x.attack(1, 0));
    }

    // the same: what claims rested on and attacked is gone with them, of each number
    private static void promise21NothingIsLeft() {
        Quarrelboard x = Boards.withFacts(14);
        Boards.addClaims(x, 16, ALL_FACTS);
        for (int claim = 0; claim < 16; claim++) {
            for (int step = 1; step < 4; step++) {
                x.rest(claim, (claim + step) % 16);
                x.attack(claim, (claim + step + 3) % 16);
            }
        }
        x.close();
        Boards.addClaims(x, 16, 0);
        x.toggleSource(0);
        for (int claim = 0; claim < 16; claim++) {
            checks.due("stateOf", x.stateOf(claim), Quarrelboard.IN);
            checks.due("stateByRounds", x.stateByRounds(claim), Quarrelboard.IN);
        }
        for (int claim = 0; claim < 16; claim++) {
            for (int step = 1; step < 7; step++) {
                checks.due("rest", x.rest(claim, (claim + step) % 16), true);
                checks.due("attack", x.attack(claim, (claim + step) % 16), true);
            }
        }
    }

    // Promise 21: "with the player 0": from each turn
    private static void promise21WithThePlayer0() {
        for (int skips = 0; skips < 6; skips++) {
            Quarrelboard x = new Quarrelboard();
            for (int skip = 0; skip < skips; skip++) {
                x.skip();
            }
            x.close();
            checks.due("turn", x.turn(), 0);
            checks.due("the first claim's player", x.playerOf(x.claim(0, 1)), 0);
            x.close();
            checks.due("turn, after a claim", x.turn(), 0);
        }
    }

    // Promise 21: "and banks of 300": from each number of seconds, all three
    private static void promise21BanksOf300() {
        for (int player = 0; player < 3; player++) {
            for (int left : new int[] {0, 1, 299, 300}) {
                Quarrelboard x = Boards.withBank(player, left);
                x.close();
                for (int any = 0; any < 3; any++) {
                    checks.due("bank", x.bank(any), 300);
                }
            }
        }
        Quarrelboard y = new Quarrelboard();
        for (int claim = 0; claim < 9; claim++) {
            y.claim(0, 100);
        }
        y.close();
        for (int claim = 0; claim < 9; claim++) {
            checks.due("all can be spent again", y.claim(0, 100), claim);
        }
        checks.dueState("and no more", () -> y.claim(0, 1));
    }

    // Promise 21: facts, what was withdrawn, and fallen sources are not of the debate
    private static void promise21FactsGoOn() {
        Quarrelboard x = Boards.withFacts(13);
        x.withdraw(0);
        x.toggleSource(1);
        x.close();
        checks.due("facts", x.facts(), 13);
        checks.due("withdrawn", x.factStands(0), false);
        checks.due("fallen", x.factStands(1), false);
        checks.due("standing", x.factStands(2), true);
        checks.due("the fourteenth", x.addFact(1), 13);
        checks.due("of a fallen source", x.factStands(13), false);
        checks.dueState("no fifteenth", () -> x.addFact(2));
        checks.due("the source stands again", x.toggleSource(1), true);
    }

    // Promise 21: "Returns how many debates were closed.": from 1 on, whatever is refused between
    private static void promise21HowMany() {
        Quarrelboard x = new Quarrelboard();
        for (int debate = 1; debate <= 50; debate++) {
            checks.dueIndex("refused", () -> x.reputation(3));
            checks.dueArgument("refused", () -> x.claim(1, 1));
            x.claim(0, 1);
            checks.due("close", x.close(), debate);
        }
        dueReputations("one each time", x, 50, 0, 0);
    }

    // Promise 22: "Returns the reputation of a player.": as far up and down as 512 calls can bring it
    private static void promise22Furthest() {
        Quarrelboard up = Boards.withFacts(1);
        Quarrelboard down = Boards.withFacts(1);
        down.withdraw(0);
        for (int debate = 1; debate <= 29; debate++) {
            Boards.addClaims(up, 16, 1);
            Boards.addClaims(down, 16, 1);
            checks.due("close", up.close(), debate);
            checks.due("close", down.close(), debate);
        }
        dueReputations("up", up, 29 * 6, 29 * 5, 29 * 5);
        dueReputations("down", down, -29 * 6, -29 * 5, -29 * 5);
    }

    // Promise 22: "Throws IndexOutOfBoundsException as told": before and after a debate
    private static void promise22NoSuchPlayer() {
        Quarrelboard x = new Quarrelboard();
        for (int time = 0; time < 2; time++) {
            checks.dueIndex("reputation(-1)", () -> x.reputation(-1));
            checks.due("reputation(0)", x.reputation(0), time);
            checks.due("reputation(2)", x.reputation(2), 0);
            checks.dueIndex("reputation(3)", () -> x.reputation(3));
            x.claim(0, 1);
            x.close();
        }
    }

    public static void main(String[] args) {
        promise21Reputation0AtFirst();
        promise21GrowsByItsScore();
        promise21BecomesLess();
        promise21GrowsAndBecomesLess();
        promise21Themselves();
        promise21EachCountedOnce();
        promise21WhateverElse();
        promise21NeitherAddsNorTakes();
        promise21AtTheClose();
        promise21WithoutClaims();
        promise21NothingIsLeft();
        promise21WithThePlayer0();
        promise21BanksOf300();
        promise21FactsGoOn();
        promise21HowMany();
        promise22Furthest();
        promise22NoSuchPlayer();
        checks.end();
    }
}
