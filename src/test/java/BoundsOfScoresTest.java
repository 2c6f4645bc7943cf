/** The sentences of promises 17 to 20 that name a bound, each with a test of its own. */
public final class BoundsOfScoresTest {
    private static final int NONE = Quarrelboard.NONE;
    private static final Checks checks = new Checks();

    // Promise 17: "Returns the score of a player.": OUT and OPEN claims are not in it
    private static void promise17NeitherOutNorOpen() {
        for (int player = 0; player < 3; player++) {
            Quarrelboard x = Boards.withFacts(1);
            Boards.claimOf(x, player, 0);
            Boards.claimOf(x, player, 0);
            Boards.claimOf(x, player, 1);
            checks.due("three IN", x.score(player), 3);
            x.withdraw(0);
            checks.due("two IN, one OUT", x.score(player), 2);
            x.attack(0, 1);
            x.attack(1, 0);
            checks.due("two OPEN, one OUT", x.score(player), 0);
            x.attack(1, 0);
            checks.due("one IN, two OUT", x.score(player), 1);
        }
    }

    // Promises 17 to 19: "Throws IndexOutOfBoundsException as told": the empty board and the full one
    private static void promises17To19NoSuchPlayer() {
        Quarrelboard full = Boards.withFacts(14);
        Boards.addClaims(full, 16, 0);
        for (Quarrelboard x : new Quarrelboard[] {new Quarrelboard(), full}) {
            for (int player : new int[] {-1, 3}) {
                checks.dueIndex("score", () -> x.score(player));
                checks.dueIndex("keyFact", () -> x.keyFact(player));
                checks.dueIndex("scoreWithout", () -> x.scoreWithout(player, 0));
                checks.dueIndex("scoreWithout, the last fact", () -> x.scoreWithout(player, 13));
                checks.dueIndex("scoreWithout, nor such a fact", () -> x.scoreWithout(player, 14));
            }
        }
    }

    // Promise 18: "Throws IndexOutOfBoundsException as told": at each number of facts
    private static void promise18NoSuchFact() {
        for (int facts = 0; facts <= 14; facts++) {
            Quarrelboard x = Boards.withFacts(facts);
            x.claim(0, 1);
            int none = facts;
            for (int player = 0; player < 3; player++) {
                int of = player;
                checks.dueIndex("scoreWithout(" + of + ", -1)", () -> x.scoreWithout(of, -1));
                checks.dueIndex("scoreWithout(" + of + ", " + none + ")", () -> x.scoreWithout(of, none));
                if (facts > 0) {
                    checks.due("the last fact", x.scoreWithout(of, facts - 1), of == 0 ? 1 : 0);
                }
            }
        }
    }

    // Promise 18: "the score of a player, if a fact did not stand": each of 14, and only that one
    private static void promise18EachFact() {
        for (int player = 0; player < 3; player++) {
            Quarrelboard x = Boards.withFacts(14);
            for (int fact = 0; fact < 14; fact++) {
                Boards.claimOf(x, player, 1 << fact);
            }
            for (int fact = 0; fact < 14; fact++) {
                checks.due("one claim fewer", x.scoreWithout(player, fact), 13);
                checks.due("it stands still", x.factStands(fact), true);
                checks.due("so does its claim", x.stateOf(fact), Quarrelboard.IN);
                checks.due("the next player's", x.scoreWithout((player + 1) % 3, fact), 0);
            }
            checks.due("the score", x.score(player), 14);
        }
    }

    // Promise 18: without a fact that does not stand it is the score as it is
    private static void promise18OfOneThatDoesNotStand() {
        Quarrelboard x = Boards.withFacts(4);
        x.claim(1, 1);
        x.withdraw(1);
        x.toggleSource(2);
        x.withdraw(3);
        x.toggleSource(3);
        checks.due("withdrawn", x.scoreWithout(0, 1), 1);
        checks.due("its source fell", x.scoreWithout(0, 2), 1);
        checks.due("both", x.scoreWithout(0, 3), 1);
        checks.due("one that stands", x.scoreWithout(0, 0), 0);
        x.toggleSource(2);
        checks.due("after that it can stand again", x.factStands(2), true);
    }

    // Promise 18: it may be greater than the score, by as much as 15, or less by 16
    private static void promise18Furthest() {
        Quarrelboard less = Boards.withFacts(1);
        Quarrelboard more = Boards.withFacts(1);
        Boards.claimOf(less, 1, 1);
        Boards.claimOf(more, 1, 1);
        for (int claim = 1; claim < 16; claim++) {
            Boards.claimOf(less, 1, 0);
            less.rest(claim, claim - 1);
            Boards.claimOf(more, 2, 0);
            more.attack(0, claim);
        }
        checks.due("all stand", less.score(1), 16);
        checks.due("none would stand", less.scoreWithout(1, 0), 0);
        checks.due("none stands", more.score(2), 0);
        checks.due("all would stand", more.scoreWithout(2, 0), 15);
        checks.due("but not their attacker", more.scoreWithout(1, 0), 0);
        checks.due("none stands still", more.score(2), 0);
    }

    // Promise 19: "Returns the fact; NONE if no fact stands.": there is none, all withdrawn, all fallen
    private static void promise19NoFactStands() {
        Quarrelboard withdrawn = Boards.withFacts(14);
        Quarrelboard fallen = Boards.withFacts(14);
        Quarrelboard some = Boards.withFacts(14);
        for (int fact = 0; fact < 14; fact++) {
            withdrawn.withdraw(fact);
            if (fact % 6 < 3) {
                some.withdraw(fact);
            }
        }
        for (int source = 0; source < 6; source++) {
            fallen.toggleSource(source);
            if (source >= 3) {
                some.toggleSource(source);
            }
        }
        for (Quarrelboard x : new Quarrelboard[] {new Quarrelboard(), withdrawn, fallen, some}) {
            for (int player = 0; player < 3; player++) {
                checks.due("keyFact without claims", x.keyFact(player), NONE);
            }
            Boards.addClaims(x, 3, 0);
            for (int player = 0; player < 3; player++) {
                checks.due("keyFact with claims", x.keyFact(player), NONE);
            }
        }
        some.toggleSource(5);
        checks.due("one stands again", some.keyFact(0), 5);
    }

    // Promise 19: "the fact that stands": each of 14 as the only one, though no claim rests on it
    private static void promise19TheOnlyOne() {
        for (int only = 0; only < 14; only++) {
            Quarrelboard x = Boards.withFacts(14);
            for (int fact = 0; fact < 14; fact++) {
                if (fact != only) {
                    x.withdraw(fact);
                }
            }
            for (int player = 0; player < 3; player++) {
                checks.due("the only one, without claims", x.keyFact(player), only);
            }
            Boards.addClaims(x, 3, ((1 << 14) - 1) & ~(1 << only));
            for (int player = 0; player < 3; player++) {
                checks.due("the only one, with claims on others", x.keyFact(player), only);
            }
        }
    }

    // Promise 19: "without which the score of a player would be the least": each of 14, by one
    private static void promise19TheLeast() {
        for (int key = 0; key < 14; key++) {
            for (int player = 0; player < 3; player++) {
                Quarrelboard x = Boards.withFacts(14);
                Boards.claimOf(x, player, 1 << key);
                Boards.claimOf(x, (player + 1) % 3, 1 << (key + 5) % 14);
                checks.due("keyFact(" + player + ")", x.keyFact(player), key);
                checks.due("the next player's", x.keyFact((player + 1) % 3), (key + 5) % 14);
                checks.due("of one without claims", x.keyFact((player + 2) % 3), 0);
            }
        }
    }

    // Promise 19: "of several the one with the lowest number": each pair of 14
    private static void promise19OfSeveral() {
        for (int low = 0; low < 14; low++) {
            for (int high = low + 1; high < 14; high++) {
                Quarrelboard x = Boards.withFacts(14);
                x.claim(1 << high, 1);
                x.skip();
                x.skip();
                x.claim(1 << low, 1);
                checks.due("of two", x.keyFact(0), low);
                x.withdraw(low);
                checks.due("the one that stands", x.keyFact(0), high);
                x.withdraw(high);
                checks.due("none matters: the lowest that stands", x.keyFact(0),
                        low > 0 ? 0 : high > 1 ? 1 : 2);
            }
        }
    }

    // the same sentence: all 14 are as good
    private static void promise19OfAll() {
        Quarrelboard x = Boards.withFacts(14);
        Boards.claimOf(x, 1, (1 << 14) - 1);
        for (int lowest = 0; lowest < 14; lowest++) {
            checks.due("of one without claims", x.keyFact(0), lowest);
            x.withdraw(lowest);
        }
        Quarrelboard y = Boards.withFacts(14);
        Boards.claimOf(y, 1, (1 << 14) - 1);
        checks.due("of one claim on all", y.keyFact(1), 0);
    }

    // Promise 19: "the least", also if each one would make it more
    private static void promise19LeastOfMore() {
        Quarrelboard x = Boards.withFacts(2);
        Boards.claimOf(x, 1, 1);
        Boards.claimOf(x, 1, 2);
        for (int claim = 2; claim < 5; claim++) {
            Boards.claimOf(x, 0, 0);
            x.attack(claim == 4 ? 1 : 0, claim);
        }
        checks.due("the score", x.score(0), 0);
        checks.due("without 0", x.scoreWithout(0, 0), 2);
        checks.due("without 1", x.scoreWithout(0, 1), 1);
        checks.due("the least", x.keyFact(0), 1);
    }

    // Promise 20: "NONE if several players have the greatest score": none, two, three
    private static void promise20Several() {
        for (int scores = 0; scores < 64; scores++) {
            int[] of = {scores & 3, scores >> 2 & 3, scores >> 4 & 3};
            Quarrelboard x = new Quarrelboard();
            for (int player = 0; player < 3; player++) {
                for (int claim = 0; claim < of[player]; claim++) {
                    Boards.claimOf(x, player, 0);
                }
            }
            int most = Math.max(of[0], Math.max(of[1], of[2]));
            int want = NONE;
            int leaders = 0;
            for (int player = 0; player < 3; player++) {
                if (of[player] == most) {
                    want = player;
                    leaders++;
                }
            }
            checks.due("verdict of " + of[0] + ", " + of[1] + ", " + of[2], x.verdict(),
                    leaders == 1 ? want : NONE);
        }
    }

    // Promise 20: "Returns the verdict": 16 to none, and the next debate has none again
    private static void promise20Furthest() {
        for (int player = 0; player < 3; player++) {
            Quarrelboard x = new Quarrelboard();
            for (int claim = 0; claim < 16; claim++) {
                Boards.claimOf(x, player, 0);
            }
            checks.due("16 to none", x.verdict(), player);
            x.close();
            checks.due("the next debate", x.verdict(), NONE);
            Boards.claimOf(x, (player + 1) % 3, 0);
            checks.due("reputations don't count", x.verdict(), (player + 1) % 3);
        }
    }

    // Promise 20: claims that don't stand don't count: one IN wins over fifteen that are OUT or OPEN
    private static void promise20OneOverFifteen() {
        for (int player = 0; player < 3; player++) {
            Quarrelboard x = Boards.withFacts(1);
            x.toggleSource(0);
            int other = (player + 2) % 3;
            for (int claim = 0; claim < 15; claim++) {
                Boards.claimOf(x, other, claim < 13 ? 1 : 0);
            }
            x.attack(13, 14);
            x.attack(14, 13);
            checks.due("nobody has one", x.verdict(), NONE);
            Boards.claimOf(x, player, 0);
            checks.due("one over fifteen", x.verdict(), player);
            x.toggleSource(0);
            checks.due("thirteen over one", x.verdict(), other);
        }
    }

    public static void main(String[] args) {
        promise17NeitherOutNorOpen();
        promises17To19NoSuchPlayer();
        promise18NoSuchFact();
        promise18EachFact();
        promise18OfOneThatDoesNotStand();
        promise18Furthest();
        promise19NoFactStands();
        promise19TheOnlyOne();
        promise19TheLeast();
        promise19OfSeveral();
        promise19OfAll();
        promise19LeastOfMore();
        promise20Several();
        promise20Furthest();
        promise20OneOverFifteen();
        checks.end();
    }
}
