/** Promises 7 to 14: claims, turns and banks. */
public final class ClaimsTest {
    private static final Checks checks = new Checks();

    private static void promise7Claim() {
        Quarrelboard x = new Quarrelboard();
        int[] left = {300, 300, 300};
        for (int claim = 0; claim < 16; claim++) {
            int player = claim % 3;
            checks.due("whose turn", x.turn(), player);
            checks.due("claim", x.claim(0, claim + 1), claim);
            left[player] -= claim + 1;
            checks.due("claims", x.claims(), claim + 1);
            checks.due("playerOf", x.playerOf(claim), player);
            for (int any = 0; any < 3; any++) {
                checks.due("bank", x.bank(any), left[any]);
            }
        }
        checks.due("turn after 16", x.turn(), 1);
        checks.dueState("a claim too many", () -> x.claim(0, 1));
        checks.dueArgument("a wrong one too many", () -> x.claim(0, 0));
        checks.dueArgument("another wrong one too many", () -> x.claim(1, 1));
        checks.due("claims after those", x.claims(), 16);
        checks.due("turn after those", x.turn(), 1);
        checks.due("bank after those", x.bank(1), left[1]);
    }

    private static void promise7Facts() {
        Quarrelboard x = new Quarrelboard();
        x.addFact(0);
        x.addFact(1);
        x.addFact(2);
        int[] wrong = {8, 9, 15, 16, 1 << 14, 1 << 30, -1, -8, Integer.MIN_VALUE, Integer.MAX_VALUE,
            Integer.MIN_VALUE + 1};
        for (int facts : wrong) {
            checks.dueArgument("claim(" + facts + ", 1)", () -> x.claim(facts, 1));
        }
        checks.due("claims after those", x.claims(), 0);
        checks.due("turn after those", x.turn(), 0);
        checks.due("bank after those", x.bank(0), 300);
        for (int facts = 0; facts < 8; facts++) {
            checks.due("claim with facts", x.claim(facts, 1), facts);
        }
        x.withdraw(1);
        for (int facts = 0; facts < 8; facts++) {
            checks.due("it rests on just these", x.stateOf(facts),
                    (facts & 2) == 0 ? Quarrelboard.IN : Quarrelboard.OUT);
        }
        checks.due("a withdrawn fact is a fact", x.claim(2, 1), 8);
        checks.due("on which a claim can't stand", x.stateOf(8), Quarrelboard.OUT);
    }

    private static void promise7AllFacts() {
        Quarrelboard x = new Quarrelboard();
        for (int fact = 0; fact < 14; fact++) {
            checks.dueArgument("not yet", () -> x.claim(1 << x.facts(), 1));
            x.addFact(fact % 6);
        }
        checks.dueArgument("not a fifteenth", () -> x.claim(1 << 14, 1));
        for (int fact = 0; fact < 14; fact++) {
            x.claim(1 << fact, 1);
        }
        checks.due("all", x.claim((1 << 14) - 1, 1), 14);
        for (int fact = 13; fact >= 0; fact--) {
            checks.due("before its fact fell", x.stateOf(fact), Quarrelboard.IN);
            x.withdraw(fact);
            checks.due("after its fact fell", x.stateOf(fact), Quarrelboard.OUT);
            checks.due("and that of all", x.stateOf(14), Quarrelboard.OUT);
        }
    }

    private static void promise7Seconds() {
        Quarrelboard x = new Quarrelboard();
        int[] wrong = {0, -1, 101, 300, Integer.MIN_VALUE, Integer.MAX_VALUE};
        for (int seconds : wrong) {
            checks.dueArgument("claim(0, " + seconds + ")", () -> x.claim(0, seconds));
        }
        checks.due("claims after those", x.claims(), 0);
        for (int claim = 0; claim < 6; claim++) {
            checks.due("the most seconds", x.claim(0, 100), claim);
        }
        checks.due("the least seconds", x.claim(0, 1), 6);
        checks.due("99 are left", x.bank(0), 99);
        x.skip();
        x.skip();
        checks.dueState("more than are left", () -> x.claim(0, 100));
        checks.dueArgument("more than may be", () -> x.claim(0, 101));
        checks.dueArgument("a fact that is not, and too many seconds", () -> x.claim(1, 100));
        checks.due("nothing changed: turn", x.turn(), 0);
        checks.due("nothing changed: claims", x.claims(), 7);
        checks.due("nothing changed: bank", x.bank(0), 99);
        checks.due("as many as are left", x.claim(0, 99), 7);
        checks.due("none are left", x.bank(0), 0);
        checks.due("others are as they were", x.bank(1), 100);
        x.skip();
        x.skip();
        checks.dueState("one more than none", () -> x.claim(0, 1));
        checks.due("skip costs nothing", x.skip(), 1);
        checks.due("another can still pay", x.claim(0, 100), 8);
    }

    private static void promise8Skip() {
        Quarrelboard x = new Quarrelboard();
        for (int turn = 1; turn <= 12; turn++) {
            checks.due("skip", x.skip(), turn % 3);
            checks.due("turn after skip", x.turn(), turn % 3);
        }
        checks.due("no claims of that", x.claims(), 0);
        for (int player = 0; player < 3; player++) {
            checks.due("no seconds of that", x.bank(player), 300);
        }
        x.claim(0, 1);
        checks.due("skip after a claim", x.skip(), 2);
        checks.due("a claim after skip", x.playerOf(x.claim(0, 1)), 2);
    }

    private static void promise9Rest() {
        Quarrelboard x = Boards.withClaims(3);
        checks.due("rest", x.rest(0, 1), true);
        checks.due("rest the other way", x.rest(1, 0), true);
        checks.due("rest on a second", x.rest(0, 2), true);
        checks.due("no more", x.rest(0, 1), false);
        checks.due("the other way still, no more", x.rest(1, 0), false);
        checks.due("again", x.rest(0, 1), true);
        checks.due("attack is another thing", x.attack(0, 1), true);
        checks.due("still the second, no more", x.rest(0, 2), false);
    }

    private static void promise9RestMatters() {
        Quarrelboard x = new Quarrelboard();
        x.addFact(0);
        x.claim(1, 1);
        x.claim(0, 1);
        x.claim(0, 1);
        x.withdraw(0);
        checks.due("without rest", x.stateOf(1), Quarrelboard.IN);
        x.rest(1, 0);
        checks.due("rests on one that is OUT", x.stateOf(1), Quarrelboard.OUT);
        checks.due("another does not", x.stateOf(2), Quarrelboard.IN);
        x.rest(1, 0);
        checks.due("not any more", x.stateOf(1), Quarrelboard.IN);
    }

    private static void promises9And10Wrong() {
        Quarrelboard x = new Quarrelboard();
        checks.dueIndex("rest(0, 0) without claims", () -> x.rest(0, 0));
        checks.dueIndex("attack(0, 0) without claims", () -> x.attack(0, 0));
        x.claim(0, 1);
        x.claim(0, 1);
        int[] none = {-1, 2, 16, 32, 33, Integer.MIN_VALUE, Integer.MAX_VALUE};
        for (int claim : none) {
            checks.dueIndex("rest on none", () -> x.rest(0, claim));
            checks.dueIndex("rest of none", () -> x.rest(claim, 0));
            checks.dueIndex("rest of none on itself", () -> x.rest(claim, claim));
            checks.dueIndex("attack on none", () -> x.attack(1, claim));
            checks.dueIndex("attack of none", () -> x.attack(claim, 1));
            checks.dueIndex("attack of none on itself", () -> x.attack(claim, claim));
        }
        for (int claim = 0; claim < 2; claim++) {
            int same = claim;
            checks.dueArgument("rest on itself", () -> x.rest(same, same));
            checks.dueArgument("attack on itself", () -> x.attack(same, same));
            checks.due("nothing changed", x.stateOf(claim), Quarrelboard.IN);
        }
        checks.due("rest was not there", x.rest(0, 1), true);
        checks.due("attack was not there", x.attack(0, 1), true);
    }

    private static void promise10Attack() {
        Quarrelboard x = Boards.withClaims(4);
        checks.due("attack", x.attack(0, 1), true);
        checks.due("who attacks", x.stateOf(0), Quarrelboard.IN);
        checks.due("who is attacked", x.stateOf(1), Quarrelboard.OUT);
        checks.due("attack of a second", x.attack(2, 1), true);
        checks.due("no more", x.attack(0, 1), false);
        checks.due("still attacked", x.stateOf(1), Quarrelboard.OUT);
        checks.due("the other way", x.attack(1, 2), true);
        checks.due("both OPEN", x.stateOf(2), Quarrelboard.OPEN);
        checks.due("no more of the second", x.attack(2, 1), false);
        checks.due("free", x.stateOf(1), Quarrelboard.IN);
        checks.due("which attacks", x.stateOf(2), Quarrelboard.OUT);
        checks.due("rest is another thing", x.rest(1, 2), true);
        checks.due("the last is apart", x.stateOf(3), Quarrelboard.IN);
    }

    private static void promises9And10Furthest() {
        Quarrelboard x = Boards.withClaims(16);
        for (int claim = 0; claim < 16; claim++) {
            for (int other = 0; other < 16; other++) {
                if (claim != other) {
                    checks.due("rest of any on any", x.rest(claim, other), true);
                }
            }
        }
        Quarrelboard y = Boards.withClaims(16);
        for (int claim = 0; claim < 16; claim++) {
            for (int other = 0; other < 16; other++) {
                if (claim != other) {
                    checks.due("attack of any on any", y.attack(claim, other), true);
                }
            }
        }
        checks.dueArgument("rest of the last on itself", () -> x.rest(15, 15));
        checks.dueIndex("rest of a seventeenth", () -> x.rest(16, 0));
        checks.dueIndex("attack on a seventeenth", () -> y.attack(0, 16));
    }

    private static void promise11Claims() {
        Quarrelboard x = new Quarrelboard();
        checks.due("claims at first", x.claims(), 0);
        x.claim(0, 1);
        checks.due("claims after one", x.claims(), 1);
        x.skip();
        checks.due("claims after a skip", x.claims(), 1);
        x.claim(0, 1);
        x.attack(0, 1);
        checks.due("a claim that is OUT counts", x.claims(), 2);
        x.close();
        checks.due("claims of the next debate", x.claims(), 0);
    }

    private static void promise12PlayerOf() {
        Quarrelboard x = new Quarrelboard();
        checks.dueIndex("playerOf without claims", () -> x.playerOf(0));
        x.skip();
        x.claim(0, 1);
        x.skip();
        x.claim(0, 1);
        x.claim(0, 1);
        checks.due("playerOf(0)", x.playerOf(0), 1);
        checks.due("playerOf(1)", x.playerOf(1), 0);
        checks.due("playerOf(2)", x.playerOf(2), 1);
        int[] none = {-1, 3, 16, Integer.MIN_VALUE, Integer.MAX_VALUE};
        for (int claim : none) {
            checks.dueIndex("playerOf(" + claim + ")", () -> x.playerOf(claim));
        }
        x.close();
        checks.dueIndex("playerOf of the last debate", () -> x.playerOf(0));
        x.claim(0, 1);
        checks.due("playerOf of the next debate", x.playerOf(0), 0);
        checks.dueIndex("playerOf of the last debate's second", () -> x.playerOf(1));
    }

    private static void promise13Turn() {
        Quarrelboard x = new Quarrelboard();
        checks.due("turn at first", x.turn(), 0);
        checks.due("turn asked again", x.turn(), 0);
        x.claim(0, 1);
        checks.due("turn after a claim", x.turn(), 1);
        x.skip();
        checks.due("turn after a skip", x.turn(), 2);
        x.claim(0, 1);
        checks.due("turn from 2 to 0", x.turn(), 0);
        x.rest(0, 1);
        x.attack(0, 1);
        x.addFact(0);
        x.withdraw(0);
        x.toggleSource(0);
        checks.due("other calls pass no turn", x.turn(), 0);
    }

    private static void promise14Bank() {
        Quarrelboard x = new Quarrelboard();
        x.claim(0, 30);
        x.skip();
        x.claim(0, 50);
        checks.due("bank(0)", x.bank(0), 270);
        checks.due("bank(1)", x.bank(1), 300);
        checks.due("bank(2)", x.bank(2), 250);
        int[] none = {-1, 3, 4, Integer.MIN_VALUE, Integer.MAX_VALUE};
        for (int player : none) {
            checks.dueIndex("bank(" + player + ")", () -> x.bank(player));
        }
    }

    public static void main(String[] args) {
        promise7Claim();
        promise7Facts();
        promise7AllFacts();
        promise7Seconds();
        promise8Skip();
        promise9Rest();
        promise9RestMatters();
        promises9And10Wrong();
        promise10Attack();
        promises9And10Furthest();
        promise11Claims();
        promise12PlayerOf();
        promise13Turn();
        promise14Bank();
        checks.end();
    }
}
